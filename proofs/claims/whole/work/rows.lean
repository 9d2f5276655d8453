section
-- ===== PART A: goes FIRST, ahead of the names: the tables' words, and 'selects' of the private methods out of them =====
/-- a private method of a class that the tables say can be made, by its rows of tables_1 -/
def lw_okq (q : MethodName × Nat) : Prop := (q.1.cls ≠ "java/lang/invoke/MethodHandle" ∧ q.1.cls ≠ "java/lang/invoke/VarHandle") ∧ Cond.instantiable q.1.cls q.2 ∈ tables_1 ∧ Cond.privateMethod q.1 ∈ tables_1 ∧ Cond.instanceMethod q.1 ∈ tables_1
theorem lw_p0 : lw_okq (⟨"ThreeBelow$ShoreText", "readClauses", "(LThreeBelow$Shore;)V"⟩, 6) := ⟨⟨by decide +kernel, by decide +kernel⟩, List.mem_of_getElem? (i := 26) (by decide +kernel), List.mem_of_getElem? (i := 269) (by decide +kernel), List.mem_of_getElem? (i := 270) (by decide +kernel)⟩
theorem lw_p1 : lw_okq (⟨"ThreeBelow$ShoreText", "skipBlanks", "()V"⟩, 6) := ⟨⟨by decide +kernel, by decide +kernel⟩, List.mem_of_getElem? (i := 26) (by decide +kernel), List.mem_of_getElem? (i := 273) (by decide +kernel), List.mem_of_getElem? (i := 274) (by decide +kernel)⟩
theorem lw_p2 : lw_okq (⟨"ThreeBelow$ShoreText", "here", "()I"⟩, 6) := ⟨⟨by decide +kernel, by decide +kernel⟩, List.mem_of_getElem? (i := 26) (by decide +kernel), List.mem_of_getElem? (i := 277) (by decide +kernel), List.mem_of_getElem? (i := 278) (by decide +kernel)⟩
theorem lw_p3 : lw_okq (⟨"ThreeBelow$ShoreText", "readClause", "(LThreeBelow$Shore;)V"⟩, 6) := ⟨⟨by decide +kernel, by decide +kernel⟩, List.mem_of_getElem? (i := 26) (by decide +kernel), List.mem_of_getElem? (i := 281) (by decide +kernel), List.mem_of_getElem? (i := 282) (by decide +kernel)⟩
theorem lw_p4 : lw_okq (⟨"ThreeBelow$ShoreText", "blame", "(II)V"⟩, 6) := ⟨⟨by decide +kernel, by decide +kernel⟩, List.mem_of_getElem? (i := 26) (by decide +kernel), List.mem_of_getElem? (i := 376) (by decide +kernel), List.mem_of_getElem? (i := 377) (by decide +kernel)⟩
theorem lw_p5 : lw_okq (⟨"ThreeBelow$ShoreText", "readNumber", "(II)V"⟩, 6) := ⟨⟨by decide +kernel, by decide +kernel⟩, List.mem_of_getElem? (i := 26) (by decide +kernel), List.mem_of_getElem? (i := 389) (by decide +kernel), List.mem_of_getElem? (i := 390) (by decide +kernel)⟩
theorem lw_p6 : lw_okq (⟨"ThreeBelow$ShoreText", "isFigure", "(I)Z"⟩, 6) := ⟨⟨by decide +kernel, by decide +kernel⟩, List.mem_of_getElem? (i := 26) (by decide +kernel), List.mem_of_getElem? (i := 393) (by decide +kernel), List.mem_of_getElem? (i := 394) (by decide +kernel)⟩
theorem lw_p7 : lw_okq (⟨"ThreeBelow$ShoreText", "readSemicolon", "()V"⟩, 6) := ⟨⟨by decide +kernel, by decide +kernel⟩, List.mem_of_getElem? (i := 26) (by decide +kernel), List.mem_of_getElem? (i := 401) (by decide +kernel), List.mem_of_getElem? (i := 402) (by decide +kernel)⟩
theorem lw_p8 : lw_okq (⟨"ThreeBelow$Life", "buryIfOld", "(LThreeBelow$Shore;I)V"⟩, 1) := ⟨⟨by decide +kernel, by decide +kernel⟩, List.mem_of_getElem? (i := 114) (by decide +kernel), List.mem_of_getElem? (i := 418) (by decide +kernel), List.mem_of_getElem? (i := 419) (by decide +kernel)⟩
theorem lw_p9 : lw_okq (⟨"ThreeBelow", "refuseYears", "(II)I"⟩, 9) := ⟨⟨by decide +kernel, by decide +kernel⟩, List.mem_of_getElem? (i := 18) (by decide +kernel), List.mem_of_getElem? (i := 532) (by decide +kernel), List.mem_of_getElem? (i := 533) (by decide +kernel)⟩
theorem lw_p10 : lw_okq (⟨"ThreeBelow", "refuseUnlessAbove", "(I)I"⟩, 9) := ⟨⟨by decide +kernel, by decide +kernel⟩, List.mem_of_getElem? (i := 18) (by decide +kernel), List.mem_of_getElem? (i := 591) (by decide +kernel), List.mem_of_getElem? (i := 592) (by decide +kernel)⟩
theorem lw_p11 : lw_okq (⟨"ThreeBelow", "driftOne", "()V"⟩, 9) := ⟨⟨by decide +kernel, by decide +kernel⟩, List.mem_of_getElem? (i := 18) (by decide +kernel), List.mem_of_getElem? (i := 611) (by decide +kernel), List.mem_of_getElem? (i := 612) (by decide +kernel)⟩
theorem lw_p12 : lw_okq (⟨"ThreeBelow", "draw", "(I)I"⟩, 9) := ⟨⟨by decide +kernel, by decide +kernel⟩, List.mem_of_getElem? (i := 18) (by decide +kernel), List.mem_of_getElem? (i := 615) (by decide +kernel), List.mem_of_getElem? (i := 616) (by decide +kernel)⟩
theorem lw_p13 : lw_okq (⟨"ThreeBelow", "areTwoPersons", "(II)Z"⟩, 9) := ⟨⟨by decide +kernel, by decide +kernel⟩, List.mem_of_getElem? (i := 18) (by decide +kernel), List.mem_of_getElem? (i := 638) (by decide +kernel), List.mem_of_getElem? (i := 639) (by decide +kernel)⟩
theorem lw_p14 : lw_okq (⟨"ThreeBelow", "bothBy", "(IIII)I"⟩, 9) := ⟨⟨by decide +kernel, by decide +kernel⟩, List.mem_of_getElem? (i := 18) (by decide +kernel), List.mem_of_getElem? (i := 650) (by decide +kernel), List.mem_of_getElem? (i := 651) (by decide +kernel)⟩
theorem lw_p15 : lw_okq (⟨"ThreeBelow", "yearsOfStay", "(I)I"⟩, 9) := ⟨⟨by decide +kernel, by decide +kernel⟩, List.mem_of_getElem? (i := 18) (by decide +kernel), List.mem_of_getElem? (i := 654) (by decide +kernel), List.mem_of_getElem? (i := 655) (by decide +kernel)⟩
def lw_privs_1 : List (MethodName × Nat) := [(⟨"ThreeBelow$ShoreText", "readClauses", "(LThreeBelow$Shore;)V"⟩, 6), (⟨"ThreeBelow$ShoreText", "skipBlanks", "()V"⟩, 6), (⟨"ThreeBelow$ShoreText", "here", "()I"⟩, 6), (⟨"ThreeBelow$ShoreText", "readClause", "(LThreeBelow$Shore;)V"⟩, 6), (⟨"ThreeBelow$ShoreText", "blame", "(II)V"⟩, 6), (⟨"ThreeBelow$ShoreText", "readNumber", "(II)V"⟩, 6), (⟨"ThreeBelow$ShoreText", "isFigure", "(I)Z"⟩, 6), (⟨"ThreeBelow$ShoreText", "readSemicolon", "()V"⟩, 6), (⟨"ThreeBelow$Life", "buryIfOld", "(LThreeBelow$Shore;I)V"⟩, 1), (⟨"ThreeBelow", "refuseYears", "(II)I"⟩, 9), (⟨"ThreeBelow", "refuseUnlessAbove", "(I)I"⟩, 9), (⟨"ThreeBelow", "driftOne", "()V"⟩, 9), (⟨"ThreeBelow", "draw", "(I)I"⟩, 9), (⟨"ThreeBelow", "areTwoPersons", "(II)Z"⟩, 9), (⟨"ThreeBelow", "bothBy", "(IIII)I"⟩, 9), (⟨"ThreeBelow", "yearsOfStay", "(I)I"⟩, 9)]
theorem lw_r1 : ∀ q ∈ lw_privs_1, lw_okq q := List.forall_mem_cons.mpr ⟨lw_p0, List.forall_mem_cons.mpr ⟨lw_p1, List.forall_mem_cons.mpr ⟨lw_p2, List.forall_mem_cons.mpr ⟨lw_p3, List.forall_mem_cons.mpr ⟨lw_p4, List.forall_mem_cons.mpr ⟨lw_p5, List.forall_mem_cons.mpr ⟨lw_p6, List.forall_mem_cons.mpr ⟨lw_p7, List.forall_mem_cons.mpr ⟨lw_p8, List.forall_mem_cons.mpr ⟨lw_p9, List.forall_mem_cons.mpr ⟨lw_p10, List.forall_mem_cons.mpr ⟨lw_p11, List.forall_mem_cons.mpr ⟨lw_p12, List.forall_mem_cons.mpr ⟨lw_p13, List.forall_mem_cons.mpr ⟨lw_p14, List.forall_mem_cons.mpr ⟨lw_p15, fun _ h => absurd h List.not_mem_nil⟩⟩⟩⟩⟩⟩⟩⟩⟩⟩⟩⟩⟩⟩⟩⟩
theorem lw_p16 : lw_okq (⟨"ThreeBelow", "figuresOfStay", "(I)I"⟩, 9) := ⟨⟨by decide +kernel, by decide +kernel⟩, List.mem_of_getElem? (i := 18) (by decide +kernel), List.mem_of_getElem? (i := 659) (by decide +kernel), List.mem_of_getElem? (i := 660) (by decide +kernel)⟩
theorem lw_p17 : lw_okq (⟨"ThreeBelow$Finds", "countWorths", "(LThreeBelow$Shore;)V"⟩, 9) := ⟨⟨by decide +kernel, by decide +kernel⟩, List.mem_of_getElem? (i := 164) (by decide +kernel), List.mem_of_getElem? (i := 712) (by decide +kernel), List.mem_of_getElem? (i := 713) (by decide +kernel)⟩
theorem lw_p18 : lw_okq (⟨"ThreeBelow$Finds", "fitsAll", "(LThreeBelow$Shore;II)Z"⟩, 9) := ⟨⟨by decide +kernel, by decide +kernel⟩, List.mem_of_getElem? (i := 164) (by decide +kernel), List.mem_of_getElem? (i := 717) (by decide +kernel), List.mem_of_getElem? (i := 718) (by decide +kernel)⟩
theorem lw_p19 : lw_okq (⟨"ThreeBelow$Finds", "worthBy", "(II)I"⟩, 9) := ⟨⟨by decide +kernel, by decide +kernel⟩, List.mem_of_getElem? (i := 164) (by decide +kernel), List.mem_of_getElem? (i := 721) (by decide +kernel), List.mem_of_getElem? (i := 722) (by decide +kernel)⟩
theorem lw_p20 : lw_okq (⟨"ThreeBelow$Finds", "alikeFrom", "(II)I"⟩, 9) := ⟨⟨by decide +kernel, by decide +kernel⟩, List.mem_of_getElem? (i := 164) (by decide +kernel), List.mem_of_getElem? (i := 734) (by decide +kernel), List.mem_of_getElem? (i := 735) (by decide +kernel)⟩
theorem lw_p21 : lw_okq (⟨"ThreeBelowModel", "skips", "()V"⟩, 27) := ⟨⟨by decide +kernel, by decide +kernel⟩, List.mem_of_getElem? (i := 784) (by decide +kernel), List.mem_of_getElem? (i := 885) (by decide +kernel), List.mem_of_getElem? (i := 886) (by decide +kernel)⟩
theorem lw_p22 : lw_okq (⟨"ThreeBelowModel", "look", "()I"⟩, 27) := ⟨⟨by decide +kernel, by decide +kernel⟩, List.mem_of_getElem? (i := 784) (by decide +kernel), List.mem_of_getElem? (i := 889) (by decide +kernel), List.mem_of_getElem? (i := 890) (by decide +kernel)⟩
theorem lw_p23 : lw_okq (⟨"ThreeBelowModel", "reads", "()V"⟩, 27) := ⟨⟨by decide +kernel, by decide +kernel⟩, List.mem_of_getElem? (i := 784) (by decide +kernel), List.mem_of_getElem? (i := 893) (by decide +kernel), List.mem_of_getElem? (i := 894) (by decide +kernel)⟩
theorem lw_p24 : lw_okq (⟨"ThreeBelowModel", "readsLaw", "()V"⟩, 27) := ⟨⟨by decide +kernel, by decide +kernel⟩, List.mem_of_getElem? (i := 784) (by decide +kernel), List.mem_of_getElem? (i := 897) (by decide +kernel), List.mem_of_getElem? (i := 898) (by decide +kernel)⟩
theorem lw_p25 : lw_okq (⟨"ThreeBelowModel", "opens", "(II)Z"⟩, 27) := ⟨⟨by decide +kernel, by decide +kernel⟩, List.mem_of_getElem? (i := 784) (by decide +kernel), List.mem_of_getElem? (i := 901) (by decide +kernel), List.mem_of_getElem? (i := 902) (by decide +kernel)⟩
theorem lw_p26 : lw_okq (⟨"ThreeBelowModel", "fails", "(I)V"⟩, 27) := ⟨⟨by decide +kernel, by decide +kernel⟩, List.mem_of_getElem? (i := 784) (by decide +kernel), List.mem_of_getElem? (i := 905) (by decide +kernel), List.mem_of_getElem? (i := 906) (by decide +kernel)⟩
theorem lw_p27 : lw_okq (⟨"ThreeBelowModel", "number", "(II)I"⟩, 27) := ⟨⟨by decide +kernel, by decide +kernel⟩, List.mem_of_getElem? (i := 784) (by decide +kernel), List.mem_of_getElem? (i := 909) (by decide +kernel), List.mem_of_getElem? (i := 910) (by decide +kernel)⟩
theorem lw_p28 : lw_okq (⟨"ThreeBelowModel", "stops", "()V"⟩, 27) := ⟨⟨by decide +kernel, by decide +kernel⟩, List.mem_of_getElem? (i := 784) (by decide +kernel), List.mem_of_getElem? (i := 913) (by decide +kernel), List.mem_of_getElem? (i := 914) (by decide +kernel)⟩
theorem lw_p29 : lw_okq (⟨"ThreeBelowModel", "readsDepth", "()V"⟩, 27) := ⟨⟨by decide +kernel, by decide +kernel⟩, List.mem_of_getElem? (i := 784) (by decide +kernel), List.mem_of_getElem? (i := 917) (by decide +kernel), List.mem_of_getElem? (i := 918) (by decide +kernel)⟩
theorem lw_p30 : lw_okq (⟨"ThreeBelowModel", "readsPerson", "()V"⟩, 27) := ⟨⟨by decide +kernel, by decide +kernel⟩, List.mem_of_getElem? (i := 784) (by decide +kernel), List.mem_of_getElem? (i := 921) (by decide +kernel), List.mem_of_getElem? (i := 922) (by decide +kernel)⟩
theorem lw_p31 : lw_okq (⟨"ThreeBelowModel", "readsGood", "()V"⟩, 27) := ⟨⟨by decide +kernel, by decide +kernel⟩, List.mem_of_getElem? (i := 784) (by decide +kernel), List.mem_of_getElem? (i := 925) (by decide +kernel), List.mem_of_getElem? (i := 926) (by decide +kernel)⟩
def lw_privs_2 : List (MethodName × Nat) := [(⟨"ThreeBelow", "figuresOfStay", "(I)I"⟩, 9), (⟨"ThreeBelow$Finds", "countWorths", "(LThreeBelow$Shore;)V"⟩, 9), (⟨"ThreeBelow$Finds", "fitsAll", "(LThreeBelow$Shore;II)Z"⟩, 9), (⟨"ThreeBelow$Finds", "worthBy", "(II)I"⟩, 9), (⟨"ThreeBelow$Finds", "alikeFrom", "(II)I"⟩, 9), (⟨"ThreeBelowModel", "skips", "()V"⟩, 27), (⟨"ThreeBelowModel", "look", "()I"⟩, 27), (⟨"ThreeBelowModel", "reads", "()V"⟩, 27), (⟨"ThreeBelowModel", "readsLaw", "()V"⟩, 27), (⟨"ThreeBelowModel", "opens", "(II)Z"⟩, 27), (⟨"ThreeBelowModel", "fails", "(I)V"⟩, 27), (⟨"ThreeBelowModel", "number", "(II)I"⟩, 27), (⟨"ThreeBelowModel", "stops", "()V"⟩, 27), (⟨"ThreeBelowModel", "readsDepth", "()V"⟩, 27), (⟨"ThreeBelowModel", "readsPerson", "()V"⟩, 27), (⟨"ThreeBelowModel", "readsGood", "()V"⟩, 27)]
theorem lw_r2 : ∀ q ∈ lw_privs_2, lw_okq q := List.forall_mem_cons.mpr ⟨lw_p16, List.forall_mem_cons.mpr ⟨lw_p17, List.forall_mem_cons.mpr ⟨lw_p18, List.forall_mem_cons.mpr ⟨lw_p19, List.forall_mem_cons.mpr ⟨lw_p20, List.forall_mem_cons.mpr ⟨lw_p21, List.forall_mem_cons.mpr ⟨lw_p22, List.forall_mem_cons.mpr ⟨lw_p23, List.forall_mem_cons.mpr ⟨lw_p24, List.forall_mem_cons.mpr ⟨lw_p25, List.forall_mem_cons.mpr ⟨lw_p26, List.forall_mem_cons.mpr ⟨lw_p27, List.forall_mem_cons.mpr ⟨lw_p28, List.forall_mem_cons.mpr ⟨lw_p29, List.forall_mem_cons.mpr ⟨lw_p30, List.forall_mem_cons.mpr ⟨lw_p31, fun _ h => absurd h List.not_mem_nil⟩⟩⟩⟩⟩⟩⟩⟩⟩⟩⟩⟩⟩⟩⟩⟩
theorem lw_p32 : lw_okq (⟨"ThreeBelowModel", "isShore", "()Z"⟩, 27) := ⟨⟨by decide +kernel, by decide +kernel⟩, List.mem_of_getElem? (i := 784) (by decide +kernel), List.mem_of_getElem? (i := 940) (by decide +kernel), List.mem_of_getElem? (i := 941) (by decide +kernel)⟩
theorem lw_p33 : lw_okq (⟨"ThreeBelowModel", "who", "(I)I"⟩, 27) := ⟨⟨by decide +kernel, by decide +kernel⟩, List.mem_of_getElem? (i := 784) (by decide +kernel), List.mem_of_getElem? (i := 944) (by decide +kernel), List.mem_of_getElem? (i := 945) (by decide +kernel)⟩
theorem lw_p34 : lw_okq (⟨"ThreeBelowModel", "isBelow", "(I)Z"⟩, 27) := ⟨⟨by decide +kernel, by decide +kernel⟩, List.mem_of_getElem? (i := 784) (by decide +kernel), List.mem_of_getElem? (i := 948) (by decide +kernel), List.mem_of_getElem? (i := 949) (by decide +kernel)⟩
theorem lw_p35 : lw_okq (⟨"ThreeBelowModel", "isDepth", "(I)Z"⟩, 27) := ⟨⟨by decide +kernel, by decide +kernel⟩, List.mem_of_getElem? (i := 784) (by decide +kernel), List.mem_of_getElem? (i := 956) (by decide +kernel), List.mem_of_getElem? (i := 957) (by decide +kernel)⟩
theorem lw_p36 : lw_okq (⟨"ThreeBelowModel", "isPerson", "(I)Z"⟩, 27) := ⟨⟨by decide +kernel, by decide +kernel⟩, List.mem_of_getElem? (i := 784) (by decide +kernel), List.mem_of_getElem? (i := 965) (by decide +kernel), List.mem_of_getElem? (i := 966) (by decide +kernel)⟩
theorem lw_p37 : lw_okq (⟨"ThreeBelowModel", "end", "(I)I"⟩, 27) := ⟨⟨by decide +kernel, by decide +kernel⟩, List.mem_of_getElem? (i := 784) (by decide +kernel), List.mem_of_getElem? (i := 969) (by decide +kernel), List.mem_of_getElem? (i := 970) (by decide +kernel)⟩
theorem lw_p38 : lw_okq (⟨"ThreeBelowModel", "daysOf", "(I)I"⟩, 27) := ⟨⟨by decide +kernel, by decide +kernel⟩, List.mem_of_getElem? (i := 784) (by decide +kernel), List.mem_of_getElem? (i := 973) (by decide +kernel), List.mem_of_getElem? (i := 974) (by decide +kernel)⟩
theorem lw_p39 : lw_okq (⟨"ThreeBelowModel", "isGood", "(I)Z"⟩, 27) := ⟨⟨by decide +kernel, by decide +kernel⟩, List.mem_of_getElem? (i := 784) (by decide +kernel), List.mem_of_getElem? (i := 981) (by decide +kernel), List.mem_of_getElem? (i := 982) (by decide +kernel)⟩
theorem lw_p40 : lw_okq (⟨"ThreeBelowModel", "barred", "(II)I"⟩, 27) := ⟨⟨by decide +kernel, by decide +kernel⟩, List.mem_of_getElem? (i := 784) (by decide +kernel), List.mem_of_getElem? (i := 989) (by decide +kernel), List.mem_of_getElem? (i := 990) (by decide +kernel)⟩
theorem lw_p41 : lw_okq (⟨"ThreeBelowModel", "notes", "()V"⟩, 27) := ⟨⟨by decide +kernel, by decide +kernel⟩, List.mem_of_getElem? (i := 784) (by decide +kernel), List.mem_of_getElem? (i := 995) (by decide +kernel), List.mem_of_getElem? (i := 996) (by decide +kernel)⟩
theorem lw_p42 : lw_okq (⟨"ThreeBelowModel", "passes", "()V"⟩, 27) := ⟨⟨by decide +kernel, by decide +kernel⟩, List.mem_of_getElem? (i := 784) (by decide +kernel), List.mem_of_getElem? (i := 999) (by decide +kernel), List.mem_of_getElem? (i := 1000) (by decide +kernel)⟩
theorem lw_p43 : lw_okq (⟨"ThreeBelowModel", "isAbove", "(I)Z"⟩, 27) := ⟨⟨by decide +kernel, by decide +kernel⟩, List.mem_of_getElem? (i := 784) (by decide +kernel), List.mem_of_getElem? (i := 1003) (by decide +kernel), List.mem_of_getElem? (i := 1004) (by decide +kernel)⟩
theorem lw_p44 : lw_okq (⟨"ThreeBelowModel", "later", "(II)I"⟩, 27) := ⟨⟨by decide +kernel, by decide +kernel⟩, List.mem_of_getElem? (i := 784) (by decide +kernel), List.mem_of_getElem? (i := 1007) (by decide +kernel), List.mem_of_getElem? (i := 1008) (by decide +kernel)⟩
theorem lw_p45 : lw_okq (⟨"ThreeBelowModel", "descends", "(II)V"⟩, 27) := ⟨⟨by decide +kernel, by decide +kernel⟩, List.mem_of_getElem? (i := 784) (by decide +kernel), List.mem_of_getElem? (i := 1015) (by decide +kernel), List.mem_of_getElem? (i := 1016) (by decide +kernel)⟩
theorem lw_p46 : lw_okq (⟨"ThreeBelowModel", "ascends", "(I)V"⟩, 27) := ⟨⟨by decide +kernel, by decide +kernel⟩, List.mem_of_getElem? (i := 784) (by decide +kernel), List.mem_of_getElem? (i := 1023) (by decide +kernel), List.mem_of_getElem? (i := 1024) (by decide +kernel)⟩
theorem lw_p47 : lw_okq (⟨"ThreeBelowModel", "draw", "(I)I"⟩, 27) := ⟨⟨by decide +kernel, by decide +kernel⟩, List.mem_of_getElem? (i := 784) (by decide +kernel), List.mem_of_getElem? (i := 1039) (by decide +kernel), List.mem_of_getElem? (i := 1040) (by decide +kernel)⟩
def lw_privs_3 : List (MethodName × Nat) := [(⟨"ThreeBelowModel", "isShore", "()Z"⟩, 27), (⟨"ThreeBelowModel", "who", "(I)I"⟩, 27), (⟨"ThreeBelowModel", "isBelow", "(I)Z"⟩, 27), (⟨"ThreeBelowModel", "isDepth", "(I)Z"⟩, 27), (⟨"ThreeBelowModel", "isPerson", "(I)Z"⟩, 27), (⟨"ThreeBelowModel", "end", "(I)I"⟩, 27), (⟨"ThreeBelowModel", "daysOf", "(I)I"⟩, 27), (⟨"ThreeBelowModel", "isGood", "(I)Z"⟩, 27), (⟨"ThreeBelowModel", "barred", "(II)I"⟩, 27), (⟨"ThreeBelowModel", "notes", "()V"⟩, 27), (⟨"ThreeBelowModel", "passes", "()V"⟩, 27), (⟨"ThreeBelowModel", "isAbove", "(I)Z"⟩, 27), (⟨"ThreeBelowModel", "later", "(II)I"⟩, 27), (⟨"ThreeBelowModel", "descends", "(II)V"⟩, 27), (⟨"ThreeBelowModel", "ascends", "(I)V"⟩, 27), (⟨"ThreeBelowModel", "draw", "(I)I"⟩, 27)]
theorem lw_r3 : ∀ q ∈ lw_privs_3, lw_okq q := List.forall_mem_cons.mpr ⟨lw_p32, List.forall_mem_cons.mpr ⟨lw_p33, List.forall_mem_cons.mpr ⟨lw_p34, List.forall_mem_cons.mpr ⟨lw_p35, List.forall_mem_cons.mpr ⟨lw_p36, List.forall_mem_cons.mpr ⟨lw_p37, List.forall_mem_cons.mpr ⟨lw_p38, List.forall_mem_cons.mpr ⟨lw_p39, List.forall_mem_cons.mpr ⟨lw_p40, List.forall_mem_cons.mpr ⟨lw_p41, List.forall_mem_cons.mpr ⟨lw_p42, List.forall_mem_cons.mpr ⟨lw_p43, List.forall_mem_cons.mpr ⟨lw_p44, List.forall_mem_cons.mpr ⟨lw_p45, List.forall_mem_cons.mpr ⟨lw_p46, List.forall_mem_cons.mpr ⟨lw_p47, fun _ h => absurd h List.not_mem_nil⟩⟩⟩⟩⟩⟩⟩⟩⟩⟩⟩⟩⟩⟩⟩⟩
theorem lw_p48 : lw_okq (⟨"ThreeBelowModel", "isStay", "(I)Z"⟩, 27) := ⟨⟨by decide +kernel, by decide +kernel⟩, List.mem_of_getElem? (i := 784) (by decide +kernel), List.mem_of_getElem? (i := 1062) (by decide +kernel), List.mem_of_getElem? (i := 1063) (by decide +kernel)⟩
theorem lw_p49 : lw_okq (⟨"ThreeBelowModel", "spanOf", "(I)I"⟩, 27) := ⟨⟨by decide +kernel, by decide +kernel⟩, List.mem_of_getElem? (i := 784) (by decide +kernel), List.mem_of_getElem? (i := 1066) (by decide +kernel), List.mem_of_getElem? (i := 1067) (by decide +kernel)⟩
theorem lw_p50 : lw_okq (⟨"ThreeBelowModel", "worthIn", "(III)I"⟩, 27) := ⟨⟨by decide +kernel, by decide +kernel⟩, List.mem_of_getElem? (i := 784) (by decide +kernel), List.mem_of_getElem? (i := 1074) (by decide +kernel), List.mem_of_getElem? (i := 1075) (by decide +kernel)⟩
theorem lw_p51 : lw_okq (⟨"ThreeBelowModel", "lays", "()I"⟩, 27) := ⟨⟨by decide +kernel, by decide +kernel⟩, List.mem_of_getElem? (i := 784) (by decide +kernel), List.mem_of_getElem? (i := 1112) (by decide +kernel), List.mem_of_getElem? (i := 1113) (by decide +kernel)⟩
theorem lw_p52 : lw_okq (⟨"ThreeBelowModel", "isSo", "(I)Z"⟩, 27) := ⟨⟨by decide +kernel, by decide +kernel⟩, List.mem_of_getElem? (i := 784) (by decide +kernel), List.mem_of_getElem? (i := 1116) (by decide +kernel), List.mem_of_getElem? (i := 1117) (by decide +kernel)⟩
def lw_privs_4 : List (MethodName × Nat) := [(⟨"ThreeBelowModel", "isStay", "(I)Z"⟩, 27), (⟨"ThreeBelowModel", "spanOf", "(I)I"⟩, 27), (⟨"ThreeBelowModel", "worthIn", "(III)I"⟩, 27), (⟨"ThreeBelowModel", "lays", "()I"⟩, 27), (⟨"ThreeBelowModel", "isSo", "(I)Z"⟩, 27)]
theorem lw_r4 : ∀ q ∈ lw_privs_4, lw_okq q := List.forall_mem_cons.mpr ⟨lw_p48, List.forall_mem_cons.mpr ⟨lw_p49, List.forall_mem_cons.mpr ⟨lw_p50, List.forall_mem_cons.mpr ⟨lw_p51, List.forall_mem_cons.mpr ⟨lw_p52, fun _ h => absurd h List.not_mem_nil⟩⟩⟩⟩⟩
def lw_privs : List (MethodName × Nat) := lw_privs_1 ++ (lw_privs_2 ++ (lw_privs_3 ++ (lw_privs_4)))
def lw_tbl : List Cond := k2_sels lw_privs ++ tables_1
theorem lw_privs_ok : ∀ q ∈ lw_privs, lw_okq q := by
  show ∀ q ∈ lw_privs_1 ++ (lw_privs_2 ++ (lw_privs_3 ++ (lw_privs_4))), lw_okq q
  exact List.forall_mem_append.mpr ⟨lw_r1, List.forall_mem_append.mpr ⟨lw_r2, List.forall_mem_append.mpr ⟨lw_r3, lw_r4⟩⟩⟩
end
section
/-! ===== BEGIN words of one list among another's, by their places ===== -/
theorem goodIn_r {big : List Cond} (ws : List Cond) (ps : List Nat) (hp : ws = ps.filterMap (fun i => big[i]?)) (h : ws.all goodWord = true) : GoodIn big ws := by
  intro w hw
  have h1 := List.all_eq_true.mp h w hw
  rw [hp] at hw
  obtain ⟨i, -, hi⟩ := List.mem_filterMap.mp hw
  have hm : w ∈ big := by first | exact List.mem_of_getElem? hi | exact List.getElem?_mem hi
  exact ⟨hm, good_of_word h1⟩
theorem goodIn_app {big a b : List Cond} (ha : GoodIn big a) (hb : GoodIn big b) : GoodIn big (a ++ b) := fun w h => (List.mem_append.mp h).elim (ha w) (hb w)
theorem goodIn_ca {big a b : List Cond} {c : Cond} (ha : GoodIn big (c :: a)) (hb : GoodIn big b) : GoodIn big (c :: (a ++ b)) := fun w h => (List.mem_cons.mp h).elim (fun e => ha w (List.mem_cons.mpr (Or.inl e))) (fun h => (List.mem_append.mp h).elim (fun h => ha w (List.mem_cons.mpr (Or.inr h))) (hb w))
theorem goodIn_sub {big ws : List Cond} (hm : ∀ w ∈ ws, w ∈ big) (h : ws.all goodWord = true) : GoodIn big ws := fun w hw => ⟨hm w hw, good_of_word (List.all_eq_true.mp h w hw)⟩
/-! ===== END ===== -/

/-! ===== BEGIN printed: names, fields, word lists, decode rows ===== -/
def RX0 : String := "ThreeBelow$Book"
def TX0 : u_T := fun k => match k with
  | 0 => ("ThreeBelow$Book", "who", "[I", true)
  | 1 => ("ThreeBelow$Book", "ages", "[I", true)
  | _ => ("ThreeBelow$Book", "count", "I", false)
def tyX0 : Nat → FieldType := fun k => match k with
  | 0 => .array .int
  | 1 => .array .int
  | _ => .int
abbrev wsX00 : List Cond := u_ws RX0 TX0 3
theorem nmX0 : ∀ a, a < 3 → ∀ b, b < 3 → a ≠ b → (TX0 a).2.1 ≠ (TX0 b).2.1 := by decide +kernel
theorem tyX0_ok : ∀ k, k < 3 → parseFieldDescriptor (TX0 k).2.2.1 = some (tyX0 k) := by decide +kernel
abbrev cX0_init : ByteArray := prog_2_method_1_code
def yX0_init : MethodName := ⟨RX0, "<init>", "()V"⟩
abbrev cX0_empty : ByteArray := prog_2_method_2_code
def yX0_empty : MethodName := ⟨RX0, "empty", "()V"⟩
abbrev cX0_add : ByteArray := prog_2_method_3_code
def yX0_add : MethodName := ⟨RX0, "add", "(II)V"⟩
abbrev cX0_firstWrong : ByteArray := prog_2_method_4_code
def yX0_firstWrong : MethodName := ⟨RX0, "firstWrong", "(LThreeBelow$Life;)I"⟩
def RX1 : String := "ThreeBelow$Finds"
def TX1 : u_T := fun k => match k with
  | 0 => ("ThreeBelow$Finds", "kinds", "[I", true)
  | 1 => ("ThreeBelow$Finds", "numbers", "[I", true)
  | 2 => ("ThreeBelow$Finds", "values", "[I", true)
  | 3 => ("ThreeBelow$Finds", "count", "I", false)
  | 4 => ("ThreeBelow$Finds", "worthThen", "[[I", true)
  | 5 => ("ThreeBelow$Finds", "isCounted", "Z", false)
  | 6 => ("ThreeBelow$Finds", "fit", "[I", true)
  | 7 => ("ThreeBelow$Finds", "fitting", "I", false)
  | _ => ("ThreeBelow$Finds", "isSought", "Z", false)
def tyX1 : Nat → FieldType := fun k => match k with
  | 0 => .array .int
  | 1 => .array .int
  | 2 => .array .int
  | 3 => .int
  | 4 => .array (.array .int)
  | 5 => .boolean
  | 6 => .array .int
  | 7 => .int
  | _ => .boolean
abbrev wsX10 : List Cond := u_ws RX1 TX1 9
theorem nmX1 : ∀ a, a < 9 → ∀ b, b < 9 → a ≠ b → (TX1 a).2.1 ≠ (TX1 b).2.1 := by decide +kernel
theorem tyX1_ok : ∀ k, k < 9 → parseFieldDescriptor (TX1 k).2.2.1 = some (tyX1 k) := by decide +kernel
abbrev cX1_init : ByteArray := prog_3_method_1_code
def yX1_init : MethodName := ⟨RX1, "<init>", "()V"⟩
abbrev cX1_beginAnew : ByteArray := prog_3_method_2_code
def yX1_beginAnew : MethodName := ⟨RX1, "beginAnew", "()V"⟩
abbrev cX1_empty : ByteArray := prog_3_method_3_code
def yX1_empty : MethodName := ⟨RX1, "empty", "()V"⟩
abbrev cX1_add : ByteArray := prog_3_method_4_code
def yX1_add : MethodName := ⟨RX1, "add", "(III)V"⟩
abbrev cX1_seek : ByteArray := prog_3_method_5_code
def yX1_seek : MethodName := ⟨RX1, "seek", "(LThreeBelow$Shore;)V"⟩
abbrev cX1_greatestPart : ByteArray := prog_3_method_6_code
def yX1_greatestPart : MethodName := ⟨RX1, "greatestPart", "(I)I"⟩
abbrev cX1_alikeFrom : ByteArray := prog_3_method_7_code
def yX1_alikeFrom : MethodName := ⟨RX1, "alikeFrom", "(II)I"⟩
abbrev cX1_fitsAll : ByteArray := prog_3_method_8_code
def yX1_fitsAll : MethodName := ⟨RX1, "fitsAll", "(LThreeBelow$Shore;II)Z"⟩
abbrev cX1_worthBy : ByteArray := prog_3_method_9_code
def yX1_worthBy : MethodName := ⟨RX1, "worthBy", "(II)I"⟩
abbrev cX1_countWorths : ByteArray := prog_3_method_10_code
def yX1_countWorths : MethodName := ⟨RX1, "countWorths", "(LThreeBelow$Shore;)V"⟩
def RX2 : String := "ThreeBelow$Images"
def TX2 : u_T := fun k => match k with
  | 0 => ("ThreeBelow$Images", "rows", "[[I", true)
  | 1 => ("ThreeBelow$Images", "seeds", "[I", true)
  | _ => ("ThreeBelow$Images", "isKept", "[Z", true)
def tyX2 : Nat → FieldType := fun k => match k with
  | 0 => .array (.array .int)
  | 1 => .array .int
  | _ => .array .boolean
abbrev wsX20 : List Cond := u_ws RX2 TX2 3
theorem nmX2 : ∀ a, a < 3 → ∀ b, b < 3 → a ≠ b → (TX2 a).2.1 ≠ (TX2 b).2.1 := by decide +kernel
theorem tyX2_ok : ∀ k, k < 3 → parseFieldDescriptor (TX2 k).2.2.1 = some (tyX2 k) := by decide +kernel
abbrev cX2_init : ByteArray := prog_4_method_1_code
def yX2_init : MethodName := ⟨RX2, "<init>", "()V"⟩
abbrev cX2_hasPlace : ByteArray := prog_4_method_2_code
def yX2_hasPlace : MethodName := ⟨RX2, "hasPlace", "(I)Z"⟩
abbrev cX2_forget : ByteArray := prog_4_method_3_code
def yX2_forget : MethodName := ⟨RX2, "forget", "()V"⟩
abbrev cX2_put : ByteArray := prog_4_method_4_code
def yX2_put : MethodName := ⟨RX2, "put", "(ILThreeBelow$Life;I)V"⟩
def RX3 : String := "ThreeBelow$Life"
def TX3 : u_T := fun k => match k with
  | _ => ("ThreeBelow$Life", "row", "[I", true)
def tyX3 : Nat → FieldType := fun k => match k with
  | _ => .array .int
abbrev wsX30 : List Cond := u_ws RX3 TX3 1
theorem nmX3 : ∀ a, a < 1 → ∀ b, b < 1 → a ≠ b → (TX3 a).2.1 ≠ (TX3 b).2.1 := by decide +kernel
theorem tyX3_ok : ∀ k, k < 1 → parseFieldDescriptor (TX3 k).2.2.1 = some (tyX3 k) := by decide +kernel
abbrev cX3_init : ByteArray := prog_5_method_1_code
def yX3_init : MethodName := ⟨RX3, "<init>", "()V"⟩
abbrev cX3_begin : ByteArray := prog_5_method_2_code
def yX3_begin : MethodName := ⟨RX3, "begin", "(LThreeBelow$Shore;)V"⟩
abbrev cX3_copyTo : ByteArray := prog_5_method_3_code
def yX3_copyTo : MethodName := ⟨RX3, "copyTo", "([I)V"⟩
abbrev cX3_copyFrom : ByteArray := prog_5_method_4_code
def yX3_copyFrom : MethodName := ⟨RX3, "copyFrom", "([I)V"⟩
abbrev cX3_years : ByteArray := prog_5_method_5_code
def yX3_years : MethodName := ⟨RX3, "years", "()I"⟩
abbrev cX3_age : ByteArray := prog_5_method_6_code
def yX3_age : MethodName := ⟨RX3, "age", "(I)I"⟩
abbrev cX3_place : ByteArray := prog_5_method_7_code
def yX3_place : MethodName := ⟨RX3, "place", "(I)I"⟩
abbrev cX3_box : ByteArray := prog_5_method_8_code
def yX3_box : MethodName := ⟨RX3, "box", "(I)I"⟩
abbrev cX3_worth : ByteArray := prog_5_method_9_code
def yX3_worth : MethodName := ⟨RX3, "worth", "(I)I"⟩
abbrev cX3_isAbove : ByteArray := prog_5_method_10_code
def yX3_isAbove : MethodName := ⟨RX3, "isAbove", "(I)Z"⟩
abbrev cX3_isBelow : ByteArray := prog_5_method_11_code
def yX3_isBelow : MethodName := ⟨RX3, "isBelow", "(I)Z"⟩
abbrev cX3_daysBelow : ByteArray := prog_5_method_12_code
def yX3_daysBelow : MethodName := ⟨RX3, "daysBelow", "(LThreeBelow$Shore;I)I"⟩
abbrev cX3_deadOnes : ByteArray := prog_5_method_13_code
def yX3_deadOnes : MethodName := ⟨RX3, "deadOnes", "(LThreeBelow$Shore;)I"⟩
abbrev cX3_stayersOf : ByteArray := prog_5_method_14_code
def yX3_stayersOf : MethodName := ⟨RX3, "stayersOf", "(LThreeBelow$Shore;I)I"⟩
abbrev cX3_passYears : ByteArray := prog_5_method_15_code
def yX3_passYears : MethodName := ⟨RX3, "passYears", "(LThreeBelow$Shore;I)V"⟩
abbrev cX3_goDown : ByteArray := prog_5_method_16_code
def yX3_goDown : MethodName := ⟨RX3, "goDown", "(II)V"⟩
abbrev cX3_comeUp : ByteArray := prog_5_method_17_code
def yX3_comeUp : MethodName := ⟨RX3, "comeUp", "(I)V"⟩
abbrev cX3_openBox : ByteArray := prog_5_method_18_code
def yX3_openBox : MethodName := ⟨RX3, "openBox", "(LThreeBelow$Shore;I)V"⟩
abbrev cX3_takeGood : ByteArray := prog_5_method_19_code
def yX3_takeGood : MethodName := ⟨RX3, "takeGood", "(I)V"⟩
abbrev cX3_buryIfOld : ByteArray := prog_5_method_20_code
def yX3_buryIfOld : MethodName := ⟨RX3, "buryIfOld", "(LThreeBelow$Shore;I)V"⟩
abbrev cX3_isPerson : ByteArray := prog_5_method_21_code
def yX3_isPerson : MethodName := ⟨RX3, "isPerson", "(I)Z"⟩
abbrev cX3_isGood : ByteArray := prog_5_method_22_code
def yX3_isGood : MethodName := ⟨RX3, "isGood", "(I)Z"⟩
def RX4 : String := "ThreeBelow$Past"
def TX4 : u_T := fun k => match k with
  | 0 => ("ThreeBelow$Past", "rows", "[[I", true)
  | 1 => ("ThreeBelow$Past", "next", "I", false)
  | _ => ("ThreeBelow$Past", "count", "I", false)
def tyX4 : Nat → FieldType := fun k => match k with
  | 0 => .array (.array .int)
  | 1 => .int
  | _ => .int
abbrev wsX40 : List Cond := u_ws RX4 TX4 3
theorem nmX4 : ∀ a, a < 3 → ∀ b, b < 3 → a ≠ b → (TX4 a).2.1 ≠ (TX4 b).2.1 := by decide +kernel
theorem tyX4_ok : ∀ k, k < 3 → parseFieldDescriptor (TX4 k).2.2.1 = some (tyX4 k) := by decide +kernel
abbrev cX4_init : ByteArray := prog_6_method_1_code
def yX4_init : MethodName := ⟨RX4, "<init>", "()V"⟩
abbrev cX4_forget : ByteArray := prog_6_method_2_code
def yX4_forget : MethodName := ⟨RX4, "forget", "()V"⟩
abbrev cX4_remember : ByteArray := prog_6_method_3_code
def yX4_remember : MethodName := ⟨RX4, "remember", "(LThreeBelow$Life;)V"⟩
abbrev cX4_bringBack : ByteArray := prog_6_method_4_code
def yX4_bringBack : MethodName := ⟨RX4, "bringBack", "(LThreeBelow$Life;)V"⟩
def RX5 : String := "ThreeBelow$Shore"
def TX5 : u_T := fun k => match k with
  | 0 => ("ThreeBelow$Shore", "law", "I", false)
  | 1 => ("ThreeBelow$Shore", "reign", "I", false)
  | 2 => ("ThreeBelow$Shore", "depths", "I", false)
  | 3 => ("ThreeBelow$Shore", "persons", "I", false)
  | 4 => ("ThreeBelow$Shore", "goods", "I", false)
  | 5 => ("ThreeBelow$Shore", "rate", "[I", true)
  | 6 => ("ThreeBelow$Shore", "toldAge", "[I", true)
  | 7 => ("ThreeBelow$Shore", "lifespan", "[I", true)
  | 8 => ("ThreeBelow$Shore", "toldWorth", "[I", true)
  | 9 => ("ThreeBelow$Shore", "change", "[I", true)
  | _ => ("ThreeBelow$Shore", "mostWorth", "[I", true)
def tyX5 : Nat → FieldType := fun k => match k with
  | 0 => .int
  | 1 => .int
  | 2 => .int
  | 3 => .int
  | 4 => .int
  | 5 => .array .int
  | 6 => .array .int
  | 7 => .array .int
  | 8 => .array .int
  | 9 => .array .int
  | _ => .array .int
abbrev wsX50 : List Cond := u_ws RX5 TX5 11
theorem nmX5 : ∀ a, a < 11 → ∀ b, b < 11 → a ≠ b → (TX5 a).2.1 ≠ (TX5 b).2.1 := by decide +kernel
theorem tyX5_ok : ∀ k, k < 11 → parseFieldDescriptor (TX5 k).2.2.1 = some (tyX5 k) := by decide +kernel
abbrev cX5_init : ByteArray := prog_7_method_1_code
def yX5_init : MethodName := ⟨RX5, "<init>", "()V"⟩
abbrev cX5_empty : ByteArray := prog_7_method_2_code
def yX5_empty : MethodName := ⟨RX5, "empty", "()V"⟩
abbrev cX5_isTold : ByteArray := prog_7_method_3_code
def yX5_isTold : MethodName := ⟨RX5, "isTold", "()Z"⟩
abbrev cX5_hasDepth : ByteArray := prog_7_method_4_code
def yX5_hasDepth : MethodName := ⟨RX5, "hasDepth", "(I)Z"⟩
abbrev cX5_hasPerson : ByteArray := prog_7_method_5_code
def yX5_hasPerson : MethodName := ⟨RX5, "hasPerson", "(I)Z"⟩
abbrev cX5_hasGood : ByteArray := prog_7_method_6_code
def yX5_hasGood : MethodName := ⟨RX5, "hasGood", "(I)Z"⟩
abbrev cX5_hasRoomFor : ByteArray := prog_7_method_7_code
def yX5_hasRoomFor : MethodName := ⟨RX5, "hasRoomFor", "(I)Z"⟩
abbrev cX5_add : ByteArray := prog_7_method_8_code
def yX5_add : MethodName := ⟨RX5, "add", "(IIII)V"⟩
abbrev cX5_kingAt : ByteArray := prog_7_method_9_code
def yX5_kingAt : MethodName := ⟨RX5, "kingAt", "(I)I"⟩
abbrev cX5_daysIn : ByteArray := prog_7_method_10_code
def yX5_daysIn : MethodName := ⟨RX5, "daysIn", "(II)I"⟩
abbrev cX5_worthNextYear : ByteArray := prog_7_method_11_code
def yX5_worthNextYear : MethodName := ⟨RX5, "worthNextYear", "(II)I"⟩
abbrev cX5_worthBehind : ByteArray := prog_7_method_12_code
def yX5_worthBehind : MethodName := ⟨RX5, "worthBehind", "(III)I"⟩
def RX6 : String := "ThreeBelow$ShoreText"
def TX6 : u_T := fun k => match k with
  | 0 => ("ThreeBelow$ShoreText", "signs", "[I", true)
  | 1 => ("ThreeBelow$ShoreText", "numbers", "[I", true)
  | 2 => ("ThreeBelow$ShoreText", "length", "I", false)
  | 3 => ("ThreeBelow$ShoreText", "at", "I", false)
  | 4 => ("ThreeBelow$ShoreText", "faultNumber", "I", false)
  | _ => ("ThreeBelow$ShoreText", "faultAt", "I", false)
def tyX6 : Nat → FieldType := fun k => match k with
  | 0 => .array .int
  | 1 => .array .int
  | 2 => .int
  | 3 => .int
  | 4 => .int
  | _ => .int
abbrev wsX60 : List Cond := u_ws RX6 TX6 6
theorem nmX6 : ∀ a, a < 6 → ∀ b, b < 6 → a ≠ b → (TX6 a).2.1 ≠ (TX6 b).2.1 := by decide +kernel
theorem tyX6_ok : ∀ k, k < 6 → parseFieldDescriptor (TX6 k).2.2.1 = some (tyX6 k) := by decide +kernel
abbrev cX6_init : ByteArray := prog_8_method_1_code
def yX6_init : MethodName := ⟨RX6, "<init>", "()V"⟩
abbrev cX6_add : ByteArray := prog_8_method_2_code
def yX6_add : MethodName := ⟨RX6, "add", "(I)V"⟩
abbrev cX6_empty : ByteArray := prog_8_method_3_code
def yX6_empty : MethodName := ⟨RX6, "empty", "()V"⟩
abbrev cX6_readInto : ByteArray := prog_8_method_4_code
def yX6_readInto : MethodName := ⟨RX6, "readInto", "(LThreeBelow$Shore;)V"⟩
abbrev cX6_readClauses : ByteArray := prog_8_method_5_code
def yX6_readClauses : MethodName := ⟨RX6, "readClauses", "(LThreeBelow$Shore;)V"⟩
abbrev cX6_readClause : ByteArray := prog_8_method_6_code
def yX6_readClause : MethodName := ⟨RX6, "readClause", "(LThreeBelow$Shore;)V"⟩
abbrev cX6_readNumber : ByteArray := prog_8_method_7_code
def yX6_readNumber : MethodName := ⟨RX6, "readNumber", "(II)V"⟩
abbrev cX6_readSemicolon : ByteArray := prog_8_method_8_code
def yX6_readSemicolon : MethodName := ⟨RX6, "readSemicolon", "()V"⟩
abbrev cX6_skipBlanks : ByteArray := prog_8_method_9_code
def yX6_skipBlanks : MethodName := ⟨RX6, "skipBlanks", "()V"⟩
abbrev cX6_here : ByteArray := prog_8_method_10_code
def yX6_here : MethodName := ⟨RX6, "here", "()I"⟩
abbrev cX6_isFigure : ByteArray := prog_8_method_11_code
def yX6_isFigure : MethodName := ⟨RX6, "isFigure", "(I)Z"⟩
abbrev cX6_blame : ByteArray := prog_8_method_12_code
def yX6_blame : MethodName := ⟨RX6, "blame", "(II)V"⟩
def RX7 : String := "ThreeBelow"
def TX7 : u_T := fun k => match k with
  | 0 => ("ThreeBelow", "text", "LThreeBelow$ShoreText;", true)
  | 1 => ("ThreeBelow", "land", "LThreeBelow$Shore;", false)
  | 2 => ("ThreeBelow", "draft", "LThreeBelow$Shore;", false)
  | 3 => ("ThreeBelow", "life", "LThreeBelow$Life;", true)
  | 4 => ("ThreeBelow", "past", "LThreeBelow$Past;", true)
  | 5 => ("ThreeBelow", "images", "LThreeBelow$Images;", true)
  | 6 => ("ThreeBelow", "finds", "LThreeBelow$Finds;", true)
  | 7 => ("ThreeBelow", "book", "LThreeBelow$Book;", true)
  | _ => ("ThreeBelow", "seedNow", "I", false)
def tyX7 : Nat → FieldType := fun k => match k with
  | 0 => .object "ThreeBelow$ShoreText"
  | 1 => .object "ThreeBelow$Shore"
  | 2 => .object "ThreeBelow$Shore"
  | 3 => .object "ThreeBelow$Life"
  | 4 => .object "ThreeBelow$Past"
  | 5 => .object "ThreeBelow$Images"
  | 6 => .object "ThreeBelow$Finds"
  | 7 => .object "ThreeBelow$Book"
  | _ => .int
abbrev wsX70 : List Cond := u_ws RX7 TX7 9
theorem nmX7 : ∀ a, a < 9 → ∀ b, b < 9 → a ≠ b → (TX7 a).2.1 ≠ (TX7 b).2.1 := by decide +kernel
theorem tyX7_ok : ∀ k, k < 9 → parseFieldDescriptor (TX7 k).2.2.1 = some (tyX7 k) := by decide +kernel
abbrev cX7_init : ByteArray := prog_1_method_1_code
def yX7_init : MethodName := ⟨RX7, "<init>", "()V"⟩
abbrev cX7_feed : ByteArray := prog_1_method_2_code
def yX7_feed : MethodName := ⟨RX7, "feed", "(I)I"⟩
abbrev cX7_shore : ByteArray := prog_1_method_3_code
def yX7_shore : MethodName := ⟨RX7, "shore", "()I"⟩
abbrev cX7_fault : ByteArray := prog_1_method_4_code
def yX7_fault : MethodName := ⟨RX7, "fault", "()I"⟩
abbrev cX7_told : ByteArray := prog_1_method_5_code
def yX7_told : MethodName := ⟨RX7, "told", "(I)I"⟩
abbrev cX7_depth : ByteArray := prog_1_method_6_code
def yX7_depth : MethodName := ⟨RX7, "depth", "(I)I"⟩
abbrev cX7_person : ByteArray := prog_1_method_7_code
def yX7_person : MethodName := ⟨RX7, "person", "(II)I"⟩
abbrev cX7_good : ByteArray := prog_1_method_8_code
def yX7_good : MethodName := ⟨RX7, "good", "(II)I"⟩
abbrev cX7_year : ByteArray := prog_1_method_9_code
def yX7_year : MethodName := ⟨RX7, "year", "(I)I"⟩
abbrev cX7_down : ByteArray := prog_1_method_10_code
def yX7_down : MethodName := ⟨RX7, "down", "(II)I"⟩
abbrev cX7_up : ByteArray := prog_1_method_11_code
def yX7_up : MethodName := ⟨RX7, "up", "(I)I"⟩
abbrev cX7_open : ByteArray := prog_1_method_12_code
def yX7_open : MethodName := ⟨RX7, "open", "(I)I"⟩
abbrev cX7_take : ByteArray := prog_1_method_13_code
def yX7_take : MethodName := ⟨RX7, "take", "(I)I"⟩
abbrev cX7_drift : ByteArray := prog_1_method_14_code
def yX7_drift : MethodName := ⟨RX7, "drift", "(I)I"⟩
abbrev cX7_undo : ByteArray := prog_1_method_15_code
def yX7_undo : MethodName := ⟨RX7, "undo", "()I"⟩
abbrev cX7_refuseYears : ByteArray := prog_1_method_16_code
def yX7_refuseYears : MethodName := ⟨RX7, "refuseYears", "(II)I"⟩
abbrev cX7_refuseUnlessAbove : ByteArray := prog_1_method_17_code
def yX7_refuseUnlessAbove : MethodName := ⟨RX7, "refuseUnlessAbove", "(I)I"⟩
abbrev cX7_areTwoPersons : ByteArray := prog_1_method_18_code
def yX7_areTwoPersons : MethodName := ⟨RX7, "areTwoPersons", "(II)Z"⟩
abbrev cX7_driftOne : ByteArray := prog_1_method_19_code
def yX7_driftOne : MethodName := ⟨RX7, "driftOne", "()V"⟩
abbrev cX7_draw : ByteArray := prog_1_method_20_code
def yX7_draw : MethodName := ⟨RX7, "draw", "(I)I"⟩
abbrev cX7_meet : ByteArray := prog_1_method_21_code
def yX7_meet : MethodName := ⟨RX7, "meet", "(IIIII)I"⟩
abbrev cX7_both : ByteArray := prog_1_method_22_code
def yX7_both : MethodName := ⟨RX7, "both", "(III)I"⟩
abbrev cX7_bothBy : ByteArray := prog_1_method_23_code
def yX7_bothBy : MethodName := ⟨RX7, "bothBy", "(IIII)I"⟩
abbrev cX7_yearsOfStay : ByteArray := prog_1_method_24_code
def yX7_yearsOfStay : MethodName := ⟨RX7, "yearsOfStay", "(I)I"⟩
abbrev cX7_figuresOfStay : ByteArray := prog_1_method_25_code
def yX7_figuresOfStay : MethodName := ⟨RX7, "figuresOfStay", "(I)I"⟩
abbrev cX7_leave : ByteArray := prog_1_method_26_code
def yX7_leave : MethodName := ⟨RX7, "leave", "(II)I"⟩
abbrev cX7_when : ByteArray := prog_1_method_27_code
def yX7_when : MethodName := ⟨RX7, "when", "(II)I"⟩
abbrev cX7_letters : ByteArray := prog_1_method_28_code
def yX7_letters : MethodName := ⟨RX7, "letters", "(II)I"⟩
abbrev cX7_wouldOpen : ByteArray := prog_1_method_29_code
def yX7_wouldOpen : MethodName := ⟨RX7, "wouldOpen", "(I)I"⟩
abbrev cX7_yearsLeft : ByteArray := prog_1_method_30_code
def yX7_yearsLeft : MethodName := ⟨RX7, "yearsLeft", "(I)I"⟩
abbrev cX7_latest : ByteArray := prog_1_method_31_code
def yX7_latest : MethodName := ⟨RX7, "latest", "()I"⟩
abbrev cX7_storm : ByteArray := prog_1_method_32_code
def yX7_storm : MethodName := ⟨RX7, "storm", "(II)I"⟩
abbrev cX7_find : ByteArray := prog_1_method_33_code
def yX7_find : MethodName := ⟨RX7, "find", "(III)I"⟩
abbrev cX7_stays : ByteArray := prog_1_method_34_code
def yX7_stays : MethodName := ⟨RX7, "stays", "(I)I"⟩
abbrev cX7_ask : ByteArray := prog_1_method_35_code
def yX7_ask : MethodName := ⟨RX7, "ask", "()I"⟩
abbrev cX7_write : ByteArray := prog_1_method_36_code
def yX7_write : MethodName := ⟨RX7, "write", "(II)I"⟩
abbrev cX7_tear : ByteArray := prog_1_method_37_code
def yX7_tear : MethodName := ⟨RX7, "tear", "()I"⟩
abbrev cX7_judge : ByteArray := prog_1_method_38_code
def yX7_judge : MethodName := ⟨RX7, "judge", "()I"⟩
abbrev cX7_seed : ByteArray := prog_1_method_39_code
def yX7_seed : MethodName := ⟨RX7, "seed", "(I)I"⟩
abbrev cX7_keep : ByteArray := prog_1_method_40_code
def yX7_keep : MethodName := ⟨RX7, "keep", "(I)I"⟩
abbrev cX7_goBack : ByteArray := prog_1_method_41_code
def yX7_goBack : MethodName := ⟨RX7, "goBack", "(I)I"⟩
def RX8 : String := "ThreeBelowModel"
def TX8 : u_T := fun k => match k with
  | 0 => ("ThreeBelowModel", "text", "[I", true)
  | 1 => ("ThreeBelowModel", "letters", "I", false)
  | 2 => ("ThreeBelowModel", "faultAt", "I", false)
  | 3 => ("ThreeBelowModel", "law", "[I", true)
  | 4 => ("ThreeBelowModel", "depths", "[I", true)
  | 5 => ("ThreeBelowModel", "people", "[I", true)
  | 6 => ("ThreeBelowModel", "goods", "[I", true)
  | 7 => ("ThreeBelowModel", "draftLaw", "[I", true)
  | 8 => ("ThreeBelowModel", "draftDepths", "[I", true)
  | 9 => ("ThreeBelowModel", "draftPeople", "[I", true)
  | 10 => ("ThreeBelowModel", "draftGoods", "[I", true)
  | 11 => ("ThreeBelowModel", "now", "[I", true)
  | 12 => ("ThreeBelowModel", "past", "[I", true)
  | 13 => ("ThreeBelowModel", "deeds", "I", false)
  | 14 => ("ThreeBelowModel", "images", "[I", true)
  | 15 => ("ThreeBelowModel", "imageSeeds", "[I", true)
  | 16 => ("ThreeBelowModel", "kept", "[Z", true)
  | 17 => ("ThreeBelowModel", "seed", "I", false)
  | 18 => ("ThreeBelowModel", "found", "[I", true)
  | 19 => ("ThreeBelowModel", "finds", "I", false)
  | 20 => ("ThreeBelowModel", "book", "[I", true)
  | 21 => ("ThreeBelowModel", "entries", "I", false)
  | 22 => ("ThreeBelowModel", "at", "I", false)
  | 23 => ("ThreeBelowModel", "wrong", "I", false)
  | 24 => ("ThreeBelowModel", "worths", "[I", true)
  | 25 => ("ThreeBelowModel", "stays", "[I", true)
  | _ => ("ThreeBelowModel", "by", "[I", true)
def tyX8 : Nat → FieldType := fun k => match k with
  | 0 => .array .int
  | 1 => .int
  | 2 => .int
  | 3 => .array .int
  | 4 => .array .int
  | 5 => .array .int
  | 6 => .array .int
  | 7 => .array .int
  | 8 => .array .int
  | 9 => .array .int
  | 10 => .array .int
  | 11 => .array .int
  | 12 => .array .int
  | 13 => .int
  | 14 => .array .int
  | 15 => .array .int
  | 16 => .array .boolean
  | 17 => .int
  | 18 => .array .int
  | 19 => .int
  | 20 => .array .int
  | 21 => .int
  | 22 => .int
  | 23 => .int
  | 24 => .array .int
  | 25 => .array .int
  | _ => .array .int
abbrev wsX80 : List Cond := u_ws RX8 TX8 27
theorem nmX8 : ∀ a, a < 27 → ∀ b, b < 27 → a ≠ b → (TX8 a).2.1 ≠ (TX8 b).2.1 := by decide +kernel
theorem tyX8_ok : ∀ k, k < 27 → parseFieldDescriptor (TX8 k).2.2.1 = some (tyX8 k) := by decide +kernel
abbrev cX8_init : ByteArray := prog_10_method_1_code
def yX8_init : MethodName := ⟨RX8, "<init>", "()V"⟩
abbrev cX8_in : ByteArray := prog_10_method_3_code
def yX8_in : MethodName := ⟨RX8, "in", "(III)Z"⟩
abbrev cX8_feed : ByteArray := prog_10_method_4_code
def yX8_feed : MethodName := ⟨RX8, "feed", "(I)I"⟩
abbrev cX8_look : ByteArray := prog_10_method_5_code
def yX8_look : MethodName := ⟨RX8, "look", "()I"⟩
abbrev cX8_skips : ByteArray := prog_10_method_6_code
def yX8_skips : MethodName := ⟨RX8, "skips", "()V"⟩
abbrev cX8_fails : ByteArray := prog_10_method_7_code
def yX8_fails : MethodName := ⟨RX8, "fails", "(I)V"⟩
abbrev cX8_stops : ByteArray := prog_10_method_8_code
def yX8_stops : MethodName := ⟨RX8, "stops", "()V"⟩
abbrev cX8_number : ByteArray := prog_10_method_9_code
def yX8_number : MethodName := ⟨RX8, "number", "(II)I"⟩
abbrev cX8_opens : ByteArray := prog_10_method_10_code
def yX8_opens : MethodName := ⟨RX8, "opens", "(II)Z"⟩
abbrev cX8_readsLaw : ByteArray := prog_10_method_11_code
def yX8_readsLaw : MethodName := ⟨RX8, "readsLaw", "()V"⟩
abbrev cX8_readsDepth : ByteArray := prog_10_method_12_code
def yX8_readsDepth : MethodName := ⟨RX8, "readsDepth", "()V"⟩
abbrev cX8_readsPerson : ByteArray := prog_10_method_13_code
def yX8_readsPerson : MethodName := ⟨RX8, "readsPerson", "()V"⟩
abbrev cX8_readsGood : ByteArray := prog_10_method_14_code
def yX8_readsGood : MethodName := ⟨RX8, "readsGood", "()V"⟩
abbrev cX8_reads : ByteArray := prog_10_method_15_code
def yX8_reads : MethodName := ⟨RX8, "reads", "()V"⟩
abbrev cX8_copies : ByteArray := prog_10_method_16_code
def yX8_copies : MethodName := ⟨RX8, "copies", "([I[II)V"⟩
abbrev cX8_shore : ByteArray := prog_10_method_17_code
def yX8_shore : MethodName := ⟨RX8, "shore", "()I"⟩
abbrev cX8_fault : ByteArray := prog_10_method_18_code
def yX8_fault : MethodName := ⟨RX8, "fault", "()I"⟩
abbrev cX8_isShore : ByteArray := prog_10_method_19_code
def yX8_isShore : MethodName := ⟨RX8, "isShore", "()Z"⟩
abbrev cX8_isDepth : ByteArray := prog_10_method_20_code
def yX8_isDepth : MethodName := ⟨RX8, "isDepth", "(I)Z"⟩
abbrev cX8_isPerson : ByteArray := prog_10_method_21_code
def yX8_isPerson : MethodName := ⟨RX8, "isPerson", "(I)Z"⟩
abbrev cX8_isGood : ByteArray := prog_10_method_22_code
def yX8_isGood : MethodName := ⟨RX8, "isGood", "(I)Z"⟩
abbrev cX8_isAbove : ByteArray := prog_10_method_23_code
def yX8_isAbove : MethodName := ⟨RX8, "isAbove", "(I)Z"⟩
abbrev cX8_isBelow : ByteArray := prog_10_method_24_code
def yX8_isBelow : MethodName := ⟨RX8, "isBelow", "(I)Z"⟩
abbrev cX8_end : ByteArray := prog_10_method_25_code
def yX8_end : MethodName := ⟨RX8, "end", "(I)I"⟩
abbrev cX8_who : ByteArray := prog_10_method_26_code
def yX8_who : MethodName := ⟨RX8, "who", "(I)I"⟩
abbrev cX8_told : ByteArray := prog_10_method_27_code
def yX8_told : MethodName := ⟨RX8, "told", "(I)I"⟩
abbrev cX8_depth : ByteArray := prog_10_method_28_code
def yX8_depth : MethodName := ⟨RX8, "depth", "(I)I"⟩
abbrev cX8_daysOf : ByteArray := prog_10_method_29_code
def yX8_daysOf : MethodName := ⟨RX8, "daysOf", "(I)I"⟩
abbrev cX8_person : ByteArray := prog_10_method_30_code
def yX8_person : MethodName := ⟨RX8, "person", "(II)I"⟩
abbrev cX8_good : ByteArray := prog_10_method_31_code
def yX8_good : MethodName := ⟨RX8, "good", "(II)I"⟩
abbrev cX8_notes : ByteArray := prog_10_method_32_code
def yX8_notes : MethodName := ⟨RX8, "notes", "()V"⟩
abbrev cX8_later : ByteArray := prog_10_method_33_code
def yX8_later : MethodName := ⟨RX8, "later", "(II)I"⟩
abbrev cX8_passes : ByteArray := prog_10_method_34_code
def yX8_passes : MethodName := ⟨RX8, "passes", "()V"⟩
abbrev cX8_barred : ByteArray := prog_10_method_35_code
def yX8_barred : MethodName := ⟨RX8, "barred", "(II)I"⟩
abbrev cX8_year : ByteArray := prog_10_method_36_code
def yX8_year : MethodName := ⟨RX8, "year", "(I)I"⟩
abbrev cX8_descends : ByteArray := prog_10_method_37_code
def yX8_descends : MethodName := ⟨RX8, "descends", "(II)V"⟩
abbrev cX8_down : ByteArray := prog_10_method_38_code
def yX8_down : MethodName := ⟨RX8, "down", "(II)I"⟩
abbrev cX8_ascends : ByteArray := prog_10_method_39_code
def yX8_ascends : MethodName := ⟨RX8, "ascends", "(I)V"⟩
abbrev cX8_up : ByteArray := prog_10_method_40_code
def yX8_up : MethodName := ⟨RX8, "up", "(I)I"⟩
abbrev cX8_open : ByteArray := prog_10_method_41_code
def yX8_open : MethodName := ⟨RX8, "open", "(I)I"⟩
abbrev cX8_take : ByteArray := prog_10_method_42_code
def yX8_take : MethodName := ⟨RX8, "take", "(I)I"⟩
abbrev cX8_draw : ByteArray := prog_10_method_43_code
def yX8_draw : MethodName := ⟨RX8, "draw", "(I)I"⟩
abbrev cX8_drift : ByteArray := prog_10_method_44_code
def yX8_drift : MethodName := ⟨RX8, "drift", "(I)I"⟩
abbrev cX8_undo : ByteArray := prog_10_method_45_code
def yX8_undo : MethodName := ⟨RX8, "undo", "()I"⟩
abbrev cX8_off : ByteArray := prog_10_method_46_code
def yX8_off : MethodName := ⟨RX8, "off", "(II)I"⟩
abbrev cX8_meet : ByteArray := prog_10_method_47_code
def yX8_meet : MethodName := ⟨RX8, "meet", "(IIIII)I"⟩
abbrev cX8_spanOf : ByteArray := prog_10_method_48_code
def yX8_spanOf : MethodName := ⟨RX8, "spanOf", "(I)I"⟩
abbrev cX8_isStay : ByteArray := prog_10_method_49_code
def yX8_isStay : MethodName := ⟨RX8, "isStay", "(I)Z"⟩
abbrev cX8_both : ByteArray := prog_10_method_50_code
def yX8_both : MethodName := ⟨RX8, "both", "(III)I"⟩
abbrev cX8_worthIn : ByteArray := prog_10_method_51_code
def yX8_worthIn : MethodName := ⟨RX8, "worthIn", "(III)I"⟩
abbrev cX8_leave : ByteArray := prog_10_method_52_code
def yX8_leave : MethodName := ⟨RX8, "leave", "(II)I"⟩
abbrev cX8_when : ByteArray := prog_10_method_53_code
def yX8_when : MethodName := ⟨RX8, "when", "(II)I"⟩
abbrev cX8_letters : ByteArray := prog_10_method_54_code
def yX8_letters : MethodName := ⟨RX8, "letters", "(II)I"⟩
abbrev cX8_wouldOpen : ByteArray := prog_10_method_55_code
def yX8_wouldOpen : MethodName := ⟨RX8, "wouldOpen", "(I)I"⟩
abbrev cX8_yearsLeft : ByteArray := prog_10_method_56_code
def yX8_yearsLeft : MethodName := ⟨RX8, "yearsLeft", "(I)I"⟩
abbrev cX8_latest : ByteArray := prog_10_method_57_code
def yX8_latest : MethodName := ⟨RX8, "latest", "()I"⟩
abbrev cX8_storm : ByteArray := prog_10_method_58_code
def yX8_storm : MethodName := ⟨RX8, "storm", "(II)I"⟩
abbrev cX8_find : ByteArray := prog_10_method_59_code
def yX8_find : MethodName := ⟨RX8, "find", "(III)I"⟩
abbrev cX8_isSo : ByteArray := prog_10_method_60_code
def yX8_isSo : MethodName := ⟨RX8, "isSo", "(I)Z"⟩
abbrev cX8_lays : ByteArray := prog_10_method_61_code
def yX8_lays : MethodName := ⟨RX8, "lays", "()I"⟩
abbrev cX8_stays : ByteArray := prog_10_method_62_code
def yX8_stays : MethodName := ⟨RX8, "stays", "(I)I"⟩
abbrev cX8_ask : ByteArray := prog_10_method_63_code
def yX8_ask : MethodName := ⟨RX8, "ask", "()I"⟩
abbrev cX8_write : ByteArray := prog_10_method_64_code
def yX8_write : MethodName := ⟨RX8, "write", "(II)I"⟩
abbrev cX8_tear : ByteArray := prog_10_method_65_code
def yX8_tear : MethodName := ⟨RX8, "tear", "()I"⟩
abbrev cX8_judge : ByteArray := prog_10_method_66_code
def yX8_judge : MethodName := ⟨RX8, "judge", "()I"⟩
abbrev cX8_seed : ByteArray := prog_10_method_67_code
def yX8_seed : MethodName := ⟨RX8, "seed", "(I)I"⟩
abbrev cX8_keep : ByteArray := prog_10_method_68_code
def yX8_keep : MethodName := ⟨RX8, "keep", "(I)I"⟩
abbrev cX8_goBack : ByteArray := prog_10_method_69_code
def yX8_goBack : MethodName := ⟨RX8, "goBack", "(I)I"⟩
def RJ11 : String := "java/lang/Character"
def TJ11 : u_T := fun k => match k with
  | _ => ("", "", "", false)
def tyJ11 : Nat → FieldType := fun k => match k with
  | _ => .int
abbrev wsJ110 : List Cond := u_ws RJ11 TJ11 0
theorem nmJ11 : ∀ a, a < 0 → ∀ b, b < 0 → a ≠ b → (TJ11 a).2.1 ≠ (TJ11 b).2.1 := by decide +kernel
theorem tyJ11_ok : ∀ k, k < 0 → parseFieldDescriptor (TJ11 k).2.2.1 = some (tyJ11 k) := by decide +kernel
abbrev cJ11_isValidCodePoint_9a6ad : ByteArray := prog_11_method_11_code
def yJ11_isValidCodePoint_9a6ad : MethodName := ⟨RJ11, "isValidCodePoint", "(I)Z"⟩
abbrev cJ11_highSurrogate_5068e : ByteArray := prog_11_method_28_code
def yJ11_highSurrogate_5068e : MethodName := ⟨RJ11, "highSurrogate", "(I)C"⟩
abbrev cJ11_lowSurrogate_5068e : ByteArray := prog_11_method_29_code
def yJ11_lowSurrogate_5068e : MethodName := ⟨RJ11, "lowSurrogate", "(I)C"⟩
def RJ9 : String := "java/lang/Math"
def TJ9 : u_T := fun k => match k with
  | _ => ("", "", "", false)
def tyJ9 : Nat → FieldType := fun k => match k with
  | _ => .int
abbrev wsJ90 : List Cond := u_ws RJ9 TJ9 0
theorem nmJ9 : ∀ a, a < 0 → ∀ b, b < 0 → a ≠ b → (TJ9 a).2.1 ≠ (TJ9 b).2.1 := by decide +kernel
theorem tyJ9_ok : ∀ k, k < 0 → parseFieldDescriptor (TJ9 k).2.2.1 = some (tyJ9 k) := by decide +kernel
abbrev cJ9_abs_0f7a4 : ByteArray := prog_12_method_59_code
def yJ9_abs_0f7a4 : MethodName := ⟨RJ9, "abs", "(I)I"⟩
abbrev cJ9_max_7cf53 : ByteArray := prog_12_method_65_code
def yJ9_max_7cf53 : MethodName := ⟨RJ9, "max", "(II)I"⟩
abbrev cJ9_min_7cf53 : ByteArray := prog_12_method_69_code
def yJ9_min_7cf53 : MethodName := ⟨RJ9, "min", "(II)I"⟩
def RJ0 : String := "java/lang/String"
def TJ0 : u_T := fun k => match k with
  | _ => ("", "", "", false)
def tyJ0 : Nat → FieldType := fun k => match k with
  | _ => .int
abbrev wsJ00 : List Cond := u_ws RJ0 TJ0 0
theorem nmJ0 : ∀ a, a < 0 → ∀ b, b < 0 → a ≠ b → (TJ0 a).2.1 ≠ (TJ0 b).2.1 := by decide +kernel
theorem tyJ0_ok : ∀ k, k < 0 → parseFieldDescriptor (TJ0 k).2.2.1 = some (tyJ0 k) := by decide +kernel
abbrev cJ0_length_8abf5 : ByteArray := prog_13_method_54_code
def yJ0_length_8abf5 : MethodName := ⟨RJ0, "length", "()I"⟩
abbrev cJ0_indexOf_0f7a4 : ByteArray := prog_13_method_79_code
def yJ0_indexOf_0f7a4 : MethodName := ⟨RJ0, "indexOf", "(I)I"⟩
abbrev cJ0_indexOf_7cf53 : ByteArray := prog_13_method_80_code
def yJ0_indexOf_7cf53 : MethodName := ⟨RJ0, "indexOf", "(II)I"⟩
abbrev cJ0_coder_7d493 : ByteArray := prog_13_method_152_code
def yJ0_coder_7d493 : MethodName := ⟨RJ0, "coder", "()B"⟩
abbrev cJ0_isLatin1_aae02 : ByteArray := prog_13_method_154_code
def yJ0_isLatin1_aae02 : MethodName := ⟨RJ0, "isLatin1", "()Z"⟩
abbrev cJ0_checkBoundsBeginEnd_23922 : ByteArray := prog_13_method_158_code
def yJ0_checkBoundsBeginEnd_23922 : MethodName := ⟨RJ0, "checkBoundsBeginEnd", "(III)V"⟩
def RJ1 : String := "java/lang/StringLatin1"
def TJ1 : u_T := fun k => match k with
  | _ => ("", "", "", false)
def tyJ1 : Nat → FieldType := fun k => match k with
  | _ => .int
abbrev wsJ10 : List Cond := u_ws RJ1 TJ1 0
theorem nmJ1 : ∀ a, a < 0 → ∀ b, b < 0 → a ≠ b → (TJ1 a).2.1 ≠ (TJ1 b).2.1 := by decide +kernel
theorem tyJ1_ok : ∀ k, k < 0 → parseFieldDescriptor (TJ1 k).2.2.1 = some (tyJ1 k) := by decide +kernel
abbrev cJ1_canEncode_9a6ad : ByteArray := prog_14_method_4_code
def yJ1_canEncode_9a6ad : MethodName := ⟨RJ1, "canEncode", "(I)Z"⟩
abbrev cJ1_indexOf_4cfef : ByteArray := prog_14_method_22_code
def yJ1_indexOf_4cfef : MethodName := ⟨RJ1, "indexOf", "([BIII)I"⟩
abbrev cJ1_indexOfChar_4cfef : ByteArray := prog_14_method_23_code
def yJ1_indexOfChar_4cfef : MethodName := ⟨RJ1, "indexOfChar", "([BIII)I"⟩
def RJ2 : String := "java/lang/StringUTF16"
def TJ2 : u_T := fun k => match k with
  | _ => ("", "", "", false)
def tyJ2 : Nat → FieldType := fun k => match k with
  | _ => .int
abbrev wsJ20 : List Cond := u_ws RJ2 TJ2 0
theorem nmJ2 : ∀ a, a < 0 → ∀ b, b < 0 → a ≠ b → (TJ2 a).2.1 ≠ (TJ2 b).2.1 := by decide +kernel
theorem tyJ2_ok : ∀ k, k < 0 → parseFieldDescriptor (TJ2 k).2.2.1 = some (tyJ2 k) := by decide +kernel
abbrev cJ2_getChar_3b067 : ByteArray := prog_15_method_5_code
def yJ2_getChar_3b067 : MethodName := ⟨RJ2, "getChar", "([BI)C"⟩
abbrev cJ2_length_9d52b : ByteArray := prog_15_method_6_code
def yJ2_length_9d52b : MethodName := ⟨RJ2, "length", "([B)I"⟩
abbrev cJ2_indexOf_4cfef : ByteArray := prog_15_method_40_code
def yJ2_indexOf_4cfef : MethodName := ⟨RJ2, "indexOf", "([BIII)I"⟩
abbrev cJ2_indexOfChar_4cfef : ByteArray := prog_15_method_47_code
def yJ2_indexOfChar_4cfef : MethodName := ⟨RJ2, "indexOfChar", "([BIII)I"⟩
abbrev cJ2_indexOfCharUnsafe_4cfef : ByteArray := prog_15_method_48_code
def yJ2_indexOfCharUnsafe_4cfef : MethodName := ⟨RJ2, "indexOfCharUnsafe", "([BIII)I"⟩
abbrev cJ2_indexOfSupplementary_4cfef : ByteArray := prog_15_method_49_code
def yJ2_indexOfSupplementary_4cfef : MethodName := ⟨RJ2, "indexOfSupplementary", "([BIII)I"⟩
abbrev cJ2_checkBoundsBeginEnd_d044e : ByteArray := prog_15_method_93_code
def yJ2_checkBoundsBeginEnd_d044e : MethodName := ⟨RJ2, "checkBoundsBeginEnd", "(II[B)V"⟩
def RJ10 : String := "java/lang/System"
def TJ10 : u_T := fun k => match k with
  | _ => ("", "", "", false)
def tyJ10 : Nat → FieldType := fun k => match k with
  | _ => .int
abbrev wsJ100 : List Cond := u_ws RJ10 TJ10 0
theorem nmJ10 : ∀ a, a < 0 → ∀ b, b < 0 → a ≠ b → (TJ10 a).2.1 ≠ (TJ10 b).2.1 := by decide +kernel
theorem tyJ10_ok : ∀ k, k < 0 → parseFieldDescriptor (TJ10 k).2.2.1 = some (tyJ10 k) := by decide +kernel
def RJ3 : String := "jdk/internal/util/Preconditions"
def TJ3 : u_T := fun k => match k with
  | _ => ("", "", "", false)
def tyJ3 : Nat → FieldType := fun k => match k with
  | _ => .int
abbrev wsJ30 : List Cond := u_ws RJ3 TJ3 0
theorem nmJ3 : ∀ a, a < 0 → ∀ b, b < 0 → a ≠ b → (TJ3 a).2.1 ≠ (TJ3 b).2.1 := by decide +kernel
theorem tyJ3_ok : ∀ k, k < 0 → parseFieldDescriptor (TJ3 k).2.2.1 = some (tyJ3 k) := by decide +kernel
abbrev cJ3_checkFromToIndex_8c36e : ByteArray := prog_17_method_12_code
def yJ3_checkFromToIndex_8c36e : MethodName := ⟨RJ3, "checkFromToIndex", "(IIILjava/util/function/BiFunction;)I"⟩
def RL : String := "ThreeBelowLaw"
def wsX0_init : List Cond := .code yX0_init cX0_init 1 none :: ([.methodLink RX0 3 objectInit, .instanceMethod objectInit, .code objectInit ⟨#[0xb1]⟩ 1 none, .arrayClass .int, .fieldLink RX0 11 "ThreeBelow$Book" "who" "[I", .fieldLink RX0 15 "ThreeBelow$Book" "ages" "[I"] ++ wsX00)
def wsX0_empty : List Cond := .code yX0_empty cX0_empty 1 none :: ([.fieldLink RX0 18 "ThreeBelow$Book" "count" "I"] ++ wsX00)
def wsX0_add : List Cond := .code yX0_add cX0_add 3 none :: ([.fieldLink RX0 18 "ThreeBelow$Book" "count" "I", .fieldLink RX0 11 "ThreeBelow$Book" "who" "[I", .fieldLink RX0 15 "ThreeBelow$Book" "ages" "[I"] ++ wsX00)
def wsX3_isPerson : List Cond := .code yX3_isPerson cX3_isPerson 1 (some .boolean) :: ([])
def wsX3_age : List Cond := .code yX3_age cX3_age 2 (some .int) :: ([.fieldLink RX3 11 "ThreeBelow$Life" "row" "[I", .methodLink RX3 46 yX3_isPerson, .static yX3_isPerson, .initialized RX3, .code yX3_isPerson cX3_isPerson 1 (some .boolean)] ++ wsX30)
def wsX0_firstWrong : List Cond := .code yX0_firstWrong cX0_firstWrong 3 (some .int) :: ([.fieldLink RX0 18 "ThreeBelow$Book" "count" "I", .fieldLink RX0 11 "ThreeBelow$Book" "who" "[I", .fieldLink RX0 15 "ThreeBelow$Book" "ages" "[I", .methodLink RX0 22 yX3_age, .instanceMethod yX3_age, .selects RX3 yX3_age yX3_age, .initialized RX3, .code yX3_age cX3_age 2 (some .int), .fieldLink RX3 11 "ThreeBelow$Life" "row" "[I", .methodLink RX3 46 yX3_isPerson, .static yX3_isPerson, .code yX3_isPerson cX3_isPerson 1 (some .boolean)] ++ wsX00 ++ wsX30)
def wsX1_init : List Cond := .code yX1_init cX1_init 1 none :: ([.methodLink RX1 5 objectInit, .instanceMethod objectInit, .code objectInit ⟨#[0xb1]⟩ 1 none, .arrayClass .int, .fieldLink RX1 11 "ThreeBelow$Finds" "kinds" "[I", .fieldLink RX1 15 "ThreeBelow$Finds" "numbers" "[I", .fieldLink RX1 18 "ThreeBelow$Finds" "values" "[I", .classLink RX1 21 "[[I", .fieldLink RX1 23 "ThreeBelow$Finds" "worthThen" "[[I", .fieldLink RX1 26 "ThreeBelow$Finds" "fit" "[I"] ++ wsX10)
def wsX1_empty : List Cond := .code yX1_empty cX1_empty 1 none :: ([.fieldLink RX1 36 "ThreeBelow$Finds" "count" "I", .fieldLink RX1 40 "ThreeBelow$Finds" "isSought" "Z"] ++ wsX10)
def wsX1_beginAnew : List Cond := .code yX1_beginAnew cX1_beginAnew 1 none :: ([.fieldLink RX1 29 "ThreeBelow$Finds" "isCounted" "Z", .methodLink RX1 33 yX1_empty, .instanceMethod yX1_empty, .selects RX1 yX1_empty yX1_empty, .initialized RX1, .code yX1_empty cX1_empty 1 none, .fieldLink RX1 36 "ThreeBelow$Finds" "count" "I", .fieldLink RX1 40 "ThreeBelow$Finds" "isSought" "Z"] ++ wsX10)
def wsX1_add : List Cond := .code yX1_add cX1_add 4 none :: ([.fieldLink RX1 36 "ThreeBelow$Finds" "count" "I", .fieldLink RX1 11 "ThreeBelow$Finds" "kinds" "[I", .fieldLink RX1 15 "ThreeBelow$Finds" "numbers" "[I", .fieldLink RX1 18 "ThreeBelow$Finds" "values" "[I", .fieldLink RX1 40 "ThreeBelow$Finds" "isSought" "Z"] ++ wsX10)
def wsX5_hasGood : List Cond := .code yX5_hasGood cX5_hasGood 2 (some .boolean) :: ([.fieldLink RX5 43 "ThreeBelow$Shore" "goods" "I"] ++ wsX50)
def wsX5_worthNextYear : List Cond := .code yX5_worthNextYear cX5_worthNextYear 4 (some .int) :: ([.fieldLink RX5 24 "ThreeBelow$Shore" "change" "[I", .fieldLink RX5 27 "ThreeBelow$Shore" "mostWorth" "[I", .methodLink RX5 57 yX5_hasGood, .instanceMethod yX5_hasGood, .selects RX5 yX5_hasGood yX5_hasGood, .initialized RX5, .code yX5_hasGood cX5_hasGood 2 (some .boolean), .fieldLink RX5 43 "ThreeBelow$Shore" "goods" "I"] ++ wsX50)
def wsX5_worthBehind : List Cond := .code yX5_worthBehind cX5_worthBehind 7 (some .int) :: ([.methodLink RX5 60 yX5_worthNextYear, .instanceMethod yX5_worthNextYear, .selects RX5 yX5_worthNextYear yX5_worthNextYear, .initialized RX5, .code yX5_worthNextYear cX5_worthNextYear 4 (some .int), .fieldLink RX5 24 "ThreeBelow$Shore" "change" "[I", .fieldLink RX5 27 "ThreeBelow$Shore" "mostWorth" "[I", .methodLink RX5 57 yX5_hasGood, .instanceMethod yX5_hasGood, .selects RX5 yX5_hasGood yX5_hasGood, .code yX5_hasGood cX5_hasGood 2 (some .boolean), .fieldLink RX5 43 "ThreeBelow$Shore" "goods" "I"] ++ wsX50)
def wsX1_countWorths : List Cond := .code yX1_countWorths cX1_countWorths 6 none :: ([.fieldLink RX1 29 "ThreeBelow$Finds" "isCounted" "Z", .fieldLink RX1 78 "ThreeBelow$Shore" "goods" "I", .fieldLink RX1 50 "ThreeBelow$Shore" "depths" "I", .fieldLink RX1 81 "ThreeBelow$Shore" "toldWorth" "[I", .fieldLink RX1 23 "ThreeBelow$Finds" "worthThen" "[[I", .fieldLink RX1 71 "ThreeBelow$Shore" "rate" "[I", .methodLink RX1 84 yX5_worthBehind, .instanceMethod yX5_worthBehind, .selects RX5 yX5_worthBehind yX5_worthBehind, .initialized RX5, .code yX5_worthBehind cX5_worthBehind 7 (some .int), .methodLink RX5 60 yX5_worthNextYear, .instanceMethod yX5_worthNextYear, .selects RX5 yX5_worthNextYear yX5_worthNextYear, .code yX5_worthNextYear cX5_worthNextYear 4 (some .int), .fieldLink RX5 24 "ThreeBelow$Shore" "change" "[I", .fieldLink RX5 27 "ThreeBelow$Shore" "mostWorth" "[I", .methodLink RX5 57 yX5_hasGood, .instanceMethod yX5_hasGood, .selects RX5 yX5_hasGood yX5_hasGood, .code yX5_hasGood cX5_hasGood 2 (some .boolean), .fieldLink RX5 43 "ThreeBelow$Shore" "goods" "I"] ++ wsX10 ++ wsX50)
def wsX1_worthBy : List Cond := .code yX1_worthBy cX1_worthBy 4 (some .int) :: ([.fieldLink RX1 23 "ThreeBelow$Finds" "worthThen" "[[I"] ++ wsX10)
def wsX5_kingAt : List Cond := .code yX5_kingAt cX5_kingAt 2 (some .int) :: ([.fieldLink RX5 34 "ThreeBelow$Shore" "reign" "I"] ++ wsX50)
def wsX1_fitsAll : List Cond := .code yX1_fitsAll cX1_fitsAll 6 (some .boolean) :: ([.fieldLink RX1 36 "ThreeBelow$Finds" "count" "I", .fieldLink RX1 11 "ThreeBelow$Finds" "kinds" "[I", .fieldLink RX1 15 "ThreeBelow$Finds" "numbers" "[I", .fieldLink RX1 71 "ThreeBelow$Shore" "rate" "[I", .fieldLink RX1 18 "ThreeBelow$Finds" "values" "[I", .methodLink RX1 68 yX1_worthBy, .instanceMethod yX1_worthBy, .selects RX1 yX1_worthBy yX1_worthBy, .initialized RX1, .code yX1_worthBy cX1_worthBy 4 (some .int), .fieldLink RX1 23 "ThreeBelow$Finds" "worthThen" "[[I", .methodLink RX1 74 yX5_kingAt, .instanceMethod yX5_kingAt, .selects RX5 yX5_kingAt yX5_kingAt, .initialized RX5, .code yX5_kingAt cX5_kingAt 2 (some .int), .fieldLink RX5 34 "ThreeBelow$Shore" "reign" "I"] ++ wsX10 ++ wsX50)
def wsX1_seek_r1 : List Cond := [Cond.fieldLink RX1 40 "ThreeBelow$Finds" "isSought" "Z", Cond.fieldLink RX1 47 "ThreeBelow$Finds" "fitting" "I", Cond.fieldLink RX1 50 "ThreeBelow$Shore" "depths" "I", Cond.fieldLink RX1 26 "ThreeBelow$Finds" "fit" "[I", Cond.methodLink RX1 43 yX1_countWorths, Cond.instanceMethod yX1_countWorths, Cond.selects RX1 yX1_countWorths yX1_countWorths, Cond.initialized RX1, Cond.code yX1_countWorths cX1_countWorths 6 none, Cond.fieldLink RX1 29 "ThreeBelow$Finds" "isCounted" "Z", Cond.fieldLink RX1 78 "ThreeBelow$Shore" "goods" "I", Cond.fieldLink RX1 81 "ThreeBelow$Shore" "toldWorth" "[I", Cond.fieldLink RX1 23 "ThreeBelow$Finds" "worthThen" "[[I", Cond.fieldLink RX1 71 "ThreeBelow$Shore" "rate" "[I", Cond.methodLink RX1 84 yX5_worthBehind, Cond.instanceMethod yX5_worthBehind, Cond.selects RX5 yX5_worthBehind yX5_worthBehind, Cond.initialized RX5, Cond.code yX5_worthBehind cX5_worthBehind 7 (some .int), Cond.methodLink RX5 60 yX5_worthNextYear, Cond.instanceMethod yX5_worthNextYear, Cond.selects RX5 yX5_worthNextYear yX5_worthNextYear, Cond.code yX5_worthNextYear cX5_worthNextYear 4 (some .int), Cond.fieldLink RX5 24 "ThreeBelow$Shore" "change" "[I"]
def wsX1_seek_r2 : List Cond := [Cond.fieldLink RX5 27 "ThreeBelow$Shore" "mostWorth" "[I", Cond.methodLink RX5 57 yX5_hasGood, Cond.instanceMethod yX5_hasGood, Cond.selects RX5 yX5_hasGood yX5_hasGood, Cond.code yX5_hasGood cX5_hasGood 2 (some .boolean), Cond.fieldLink RX5 43 "ThreeBelow$Shore" "goods" "I", Cond.methodLink RX1 55 yX1_fitsAll, Cond.instanceMethod yX1_fitsAll, Cond.selects RX1 yX1_fitsAll yX1_fitsAll, Cond.code yX1_fitsAll cX1_fitsAll 6 (some .boolean), Cond.fieldLink RX1 36 "ThreeBelow$Finds" "count" "I", Cond.fieldLink RX1 11 "ThreeBelow$Finds" "kinds" "[I", Cond.fieldLink RX1 15 "ThreeBelow$Finds" "numbers" "[I", Cond.fieldLink RX1 18 "ThreeBelow$Finds" "values" "[I", Cond.methodLink RX1 68 yX1_worthBy, Cond.instanceMethod yX1_worthBy, Cond.selects RX1 yX1_worthBy yX1_worthBy, Cond.code yX1_worthBy cX1_worthBy 4 (some .int), Cond.methodLink RX1 74 yX5_kingAt, Cond.instanceMethod yX5_kingAt, Cond.selects RX5 yX5_kingAt yX5_kingAt, Cond.code yX5_kingAt cX5_kingAt 2 (some .int), Cond.fieldLink RX5 34 "ThreeBelow$Shore" "reign" "I"]
def wsX1_seek : List Cond := .code yX1_seek cX1_seek 4 none :: ((wsX1_seek_r1 ++ wsX1_seek_r2) ++ wsX10 ++ wsX50)
def wsX1_alikeFrom : List Cond := .code yX1_alikeFrom cX1_alikeFrom 6 (some .int) :: ([.fieldLink RX1 26 "ThreeBelow$Finds" "fit" "[I", .fieldLink RX1 47 "ThreeBelow$Finds" "fitting" "I", .methodLink RX1 68 yX1_worthBy, .instanceMethod yX1_worthBy, .selects RX1 yX1_worthBy yX1_worthBy, .initialized RX1, .code yX1_worthBy cX1_worthBy 4 (some .int), .fieldLink RX1 23 "ThreeBelow$Finds" "worthThen" "[[I"] ++ wsX10)
def wsX1_greatestPart : List Cond := .code yX1_greatestPart cX1_greatestPart 4 (some .int) :: ([.fieldLink RX1 47 "ThreeBelow$Finds" "fitting" "I", .methodLink RX1 63 Lib.Math.max.name, .static Lib.Math.max.name, .initialized "java/lang/Math", .code Lib.Math.max.name Lib.Math.max.code 2 (some .int), .methodLink RX1 59 yX1_alikeFrom, .instanceMethod yX1_alikeFrom, .selects RX1 yX1_alikeFrom yX1_alikeFrom, .initialized RX1, .code yX1_alikeFrom cX1_alikeFrom 6 (some .int), .fieldLink RX1 26 "ThreeBelow$Finds" "fit" "[I", .methodLink RX1 68 yX1_worthBy, .instanceMethod yX1_worthBy, .selects RX1 yX1_worthBy yX1_worthBy, .code yX1_worthBy cX1_worthBy 4 (some .int), .fieldLink RX1 23 "ThreeBelow$Finds" "worthThen" "[[I"] ++ wsX10)
def wsX2_init : List Cond := .code yX2_init cX2_init 1 none :: ([.methodLink RX2 1 objectInit, .instanceMethod objectInit, .code objectInit ⟨#[0xb1]⟩ 1 none, .classLink RX2 11 "[[I", .arrayClass .int, .fieldLink RX2 13 "ThreeBelow$Images" "rows" "[[I", .fieldLink RX2 16 "ThreeBelow$Images" "seeds" "[I", .arrayClass .boolean, .fieldLink RX2 20 "ThreeBelow$Images" "isKept" "[Z"] ++ wsX20)
def wsX2_hasPlace : List Cond := .code yX2_hasPlace cX2_hasPlace 2 (some .boolean) :: ([])
def wsX2_forget : List Cond := .code yX2_forget cX2_forget 2 none :: ([.fieldLink RX2 20 "ThreeBelow$Images" "isKept" "[Z"] ++ wsX20)
def wsX3_copyTo : List Cond := .code yX3_copyTo cX3_copyTo 2 none :: ([.fieldLink RX3 11 "ThreeBelow$Life" "row" "[I", .methodLink RX3 34 Lib.Math.min.name, .static Lib.Math.min.name, .initialized "java/lang/Math", .code Lib.Math.min.name Lib.Math.min.code 2 (some .int), .methodLink RX3 40 arraycopyName, .native arraycopyName, .static arraycopyName, .initialized "java/lang/System"] ++ wsX30)
def wsX2_put : List Cond := .code yX2_put cX2_put 4 none :: ([.fieldLink RX2 13 "ThreeBelow$Images" "rows" "[[I", .fieldLink RX2 16 "ThreeBelow$Images" "seeds" "[I", .fieldLink RX2 20 "ThreeBelow$Images" "isKept" "[Z", .methodLink RX2 24 yX2_hasPlace, .instanceMethod yX2_hasPlace, .selects RX2 yX2_hasPlace yX2_hasPlace, .initialized RX2, .code yX2_hasPlace cX2_hasPlace 2 (some .boolean), .methodLink RX2 28 yX3_copyTo, .instanceMethod yX3_copyTo, .selects RX3 yX3_copyTo yX3_copyTo, .initialized RX3, .code yX3_copyTo cX3_copyTo 2 none, .fieldLink RX3 11 "ThreeBelow$Life" "row" "[I", .methodLink RX3 34 Lib.Math.min.name, .static Lib.Math.min.name, .initialized "java/lang/Math", .code Lib.Math.min.name Lib.Math.min.code 2 (some .int), .methodLink RX3 40 arraycopyName, .native arraycopyName, .static arraycopyName, .initialized "java/lang/System"] ++ wsX20 ++ wsX30)
def wsX3_init : List Cond := .code yX3_init cX3_init 1 none :: ([.methodLink RX3 5 objectInit, .instanceMethod objectInit, .code objectInit ⟨#[0xb1]⟩ 1 none, .arrayClass .int, .fieldLink RX3 11 "ThreeBelow$Life" "row" "[I"] ++ wsX30)
def wsX3_buryIfOld : List Cond := .code yX3_buryIfOld cX3_buryIfOld 3 none :: ([.fieldLink RX3 11 "ThreeBelow$Life" "row" "[I", .fieldLink RX3 66 "ThreeBelow$Shore" "lifespan" "[I"] ++ wsX30 ++ wsX50)
def wsX3_begin : List Cond := .code yX3_begin cX3_begin 3 none :: ([.fieldLink RX3 11 "ThreeBelow$Life" "row" "[I", .fieldLink RX3 15 "ThreeBelow$Shore" "persons" "I", .fieldLink RX3 21 "ThreeBelow$Shore" "toldAge" "[I", .fieldLink RX3 28 "ThreeBelow$Shore" "goods" "I", .fieldLink RX3 31 "ThreeBelow$Shore" "toldWorth" "[I", .methodLink RX3 24 yX3_buryIfOld, .instanceMethod yX3_buryIfOld, .selects RX3 yX3_buryIfOld yX3_buryIfOld, .initialized RX3, .code yX3_buryIfOld cX3_buryIfOld 3 none, .fieldLink RX3 66 "ThreeBelow$Shore" "lifespan" "[I"] ++ wsX30 ++ wsX50)
def wsX3_copyFrom : List Cond := .code yX3_copyFrom cX3_copyFrom 2 none :: ([.fieldLink RX3 11 "ThreeBelow$Life" "row" "[I", .methodLink RX3 34 Lib.Math.min.name, .static Lib.Math.min.name, .initialized "java/lang/Math", .code Lib.Math.min.name Lib.Math.min.code 2 (some .int), .methodLink RX3 40 arraycopyName, .native arraycopyName, .static arraycopyName, .initialized "java/lang/System"] ++ wsX30)
def wsX3_years : List Cond := .code yX3_years cX3_years 1 (some .int) :: ([.fieldLink RX3 11 "ThreeBelow$Life" "row" "[I"] ++ wsX30)
def wsX3_place : List Cond := .code yX3_place cX3_place 2 (some .int) :: ([.fieldLink RX3 11 "ThreeBelow$Life" "row" "[I", .methodLink RX3 46 yX3_isPerson, .static yX3_isPerson, .initialized RX3, .code yX3_isPerson cX3_isPerson 1 (some .boolean)] ++ wsX30)
def wsX3_box : List Cond := .code yX3_box cX3_box 2 (some .int) :: ([.fieldLink RX3 11 "ThreeBelow$Life" "row" "[I", .methodLink RX3 46 yX3_isPerson, .static yX3_isPerson, .initialized RX3, .code yX3_isPerson cX3_isPerson 1 (some .boolean)] ++ wsX30)
def wsX3_isGood : List Cond := .code yX3_isGood cX3_isGood 1 (some .boolean) :: ([])
def wsX3_worth : List Cond := .code yX3_worth cX3_worth 2 (some .int) :: ([.fieldLink RX3 11 "ThreeBelow$Life" "row" "[I", .methodLink RX3 50 yX3_isGood, .static yX3_isGood, .initialized RX3, .code yX3_isGood cX3_isGood 1 (some .boolean)] ++ wsX30)
def wsX3_isAbove : List Cond := .code yX3_isAbove cX3_isAbove 2 (some .boolean) :: ([.methodLink RX3 53 yX3_place, .instanceMethod yX3_place, .selects RX3 yX3_place yX3_place, .initialized RX3, .code yX3_place cX3_place 2 (some .int), .fieldLink RX3 11 "ThreeBelow$Life" "row" "[I", .methodLink RX3 46 yX3_isPerson, .static yX3_isPerson, .code yX3_isPerson cX3_isPerson 1 (some .boolean)] ++ wsX30)
def wsX3_isBelow : List Cond := .code yX3_isBelow cX3_isBelow 2 (some .boolean) :: ([.methodLink RX3 53 yX3_place, .instanceMethod yX3_place, .selects RX3 yX3_place yX3_place, .initialized RX3, .code yX3_place cX3_place 2 (some .int), .fieldLink RX3 11 "ThreeBelow$Life" "row" "[I", .methodLink RX3 46 yX3_isPerson, .static yX3_isPerson, .code yX3_isPerson cX3_isPerson 1 (some .boolean)] ++ wsX30)
def wsX5_hasDepth : List Cond := .code yX5_hasDepth cX5_hasDepth 2 (some .boolean) :: ([.fieldLink RX5 37 "ThreeBelow$Shore" "depths" "I"] ++ wsX50)
def wsX5_daysIn : List Cond := .code yX5_daysIn cX5_daysIn 3 (some .int) :: ([.fieldLink RX5 9 "ThreeBelow$Shore" "rate" "[I", .methodLink RX5 54 yX5_hasDepth, .instanceMethod yX5_hasDepth, .selects RX5 yX5_hasDepth yX5_hasDepth, .initialized RX5, .code yX5_hasDepth cX5_hasDepth 2 (some .boolean), .fieldLink RX5 37 "ThreeBelow$Shore" "depths" "I"] ++ wsX50)
def wsX3_daysBelow : List Cond := .code yX3_daysBelow cX3_daysBelow 3 (some .int) :: ([.fieldLink RX3 11 "ThreeBelow$Life" "row" "[I", .methodLink RX3 57 yX3_isBelow, .instanceMethod yX3_isBelow, .selects RX3 yX3_isBelow yX3_isBelow, .initialized RX3, .code yX3_isBelow cX3_isBelow 2 (some .boolean), .methodLink RX3 53 yX3_place, .instanceMethod yX3_place, .selects RX3 yX3_place yX3_place, .code yX3_place cX3_place 2 (some .int), .methodLink RX3 46 yX3_isPerson, .static yX3_isPerson, .code yX3_isPerson cX3_isPerson 1 (some .boolean), .methodLink RX3 60 yX5_daysIn, .instanceMethod yX5_daysIn, .selects RX5 yX5_daysIn yX5_daysIn, .initialized RX5, .code yX5_daysIn cX5_daysIn 3 (some .int), .fieldLink RX5 9 "ThreeBelow$Shore" "rate" "[I", .methodLink RX5 54 yX5_hasDepth, .instanceMethod yX5_hasDepth, .selects RX5 yX5_hasDepth yX5_hasDepth, .code yX5_hasDepth cX5_hasDepth 2 (some .boolean), .fieldLink RX5 37 "ThreeBelow$Shore" "depths" "I"] ++ wsX30 ++ wsX50)
def wsX3_deadOnes : List Cond := .code yX3_deadOnes cX3_deadOnes 4 (some .int) :: ([.fieldLink RX3 15 "ThreeBelow$Shore" "persons" "I", .methodLink RX3 53 yX3_place, .instanceMethod yX3_place, .selects RX3 yX3_place yX3_place, .initialized RX3, .code yX3_place cX3_place 2 (some .int), .fieldLink RX3 11 "ThreeBelow$Life" "row" "[I", .methodLink RX3 46 yX3_isPerson, .static yX3_isPerson, .code yX3_isPerson cX3_isPerson 1 (some .boolean)] ++ wsX50 ++ wsX30)
def wsX3_stayersOf : List Cond := .code yX3_stayersOf cX3_stayersOf 5 (some .int) :: ([.fieldLink RX3 15 "ThreeBelow$Shore" "persons" "I", .fieldLink RX3 11 "ThreeBelow$Life" "row" "[I", .methodLink RX3 57 yX3_isBelow, .instanceMethod yX3_isBelow, .selects RX3 yX3_isBelow yX3_isBelow, .initialized RX3, .code yX3_isBelow cX3_isBelow 2 (some .boolean), .methodLink RX3 53 yX3_place, .instanceMethod yX3_place, .selects RX3 yX3_place yX3_place, .code yX3_place cX3_place 2 (some .int), .methodLink RX3 46 yX3_isPerson, .static yX3_isPerson, .code yX3_isPerson cX3_isPerson 1 (some .boolean)] ++ wsX50 ++ wsX30)
def wsX3_passYears_r1 : List Cond := [Cond.fieldLink RX3 11 "ThreeBelow$Life" "row" "[I", Cond.fieldLink RX3 15 "ThreeBelow$Shore" "persons" "I", Cond.fieldLink RX3 66 "ThreeBelow$Shore" "lifespan" "[I", Cond.methodLink RX3 34 Lib.Math.min.name, Cond.static Lib.Math.min.name, Cond.initialized "java/lang/Math", Cond.code Lib.Math.min.name Lib.Math.min.code 2 (some .int), Cond.fieldLink RX3 28 "ThreeBelow$Shore" "goods" "I", Cond.methodLink RX3 63 yX3_isAbove, Cond.instanceMethod yX3_isAbove, Cond.selects RX3 yX3_isAbove yX3_isAbove, Cond.initialized RX3, Cond.code yX3_isAbove cX3_isAbove 2 (some .boolean), Cond.methodLink RX3 53 yX3_place, Cond.instanceMethod yX3_place, Cond.selects RX3 yX3_place yX3_place, Cond.code yX3_place cX3_place 2 (some .int), Cond.methodLink RX3 46 yX3_isPerson, Cond.static yX3_isPerson, Cond.code yX3_isPerson cX3_isPerson 1 (some .boolean), Cond.methodLink RX3 24 yX3_buryIfOld, Cond.instanceMethod yX3_buryIfOld, Cond.selects RX3 yX3_buryIfOld yX3_buryIfOld, Cond.code yX3_buryIfOld cX3_buryIfOld 3 none]
def wsX3_passYears_r2 : List Cond := [Cond.methodLink RX3 57 yX3_isBelow, Cond.instanceMethod yX3_isBelow, Cond.selects RX3 yX3_isBelow yX3_isBelow, Cond.code yX3_isBelow cX3_isBelow 2 (some .boolean), Cond.methodLink RX3 69 yX5_worthBehind, Cond.instanceMethod yX5_worthBehind, Cond.selects RX5 yX5_worthBehind yX5_worthBehind, Cond.initialized RX5, Cond.code yX5_worthBehind cX5_worthBehind 7 (some .int), Cond.methodLink RX5 60 yX5_worthNextYear, Cond.instanceMethod yX5_worthNextYear, Cond.selects RX5 yX5_worthNextYear yX5_worthNextYear, Cond.code yX5_worthNextYear cX5_worthNextYear 4 (some .int), Cond.fieldLink RX5 24 "ThreeBelow$Shore" "change" "[I", Cond.fieldLink RX5 27 "ThreeBelow$Shore" "mostWorth" "[I", Cond.methodLink RX5 57 yX5_hasGood, Cond.instanceMethod yX5_hasGood, Cond.selects RX5 yX5_hasGood yX5_hasGood, Cond.code yX5_hasGood cX5_hasGood 2 (some .boolean), Cond.fieldLink RX5 43 "ThreeBelow$Shore" "goods" "I"]
def wsX3_passYears : List Cond := .code yX3_passYears cX3_passYears 4 none :: ((wsX3_passYears_r1 ++ wsX3_passYears_r2) ++ wsX30 ++ wsX50)
def wsX3_goDown : List Cond := .code yX3_goDown cX3_goDown 3 none :: ([.fieldLink RX3 11 "ThreeBelow$Life" "row" "[I", .methodLink RX3 46 yX3_isPerson, .static yX3_isPerson, .initialized RX3, .code yX3_isPerson cX3_isPerson 1 (some .boolean)] ++ wsX30)
def wsX3_comeUp : List Cond := .code yX3_comeUp cX3_comeUp 2 none :: ([.fieldLink RX3 11 "ThreeBelow$Life" "row" "[I", .methodLink RX3 46 yX3_isPerson, .static yX3_isPerson, .initialized RX3, .code yX3_isPerson cX3_isPerson 1 (some .boolean)] ++ wsX30)
def wsX3_openBox : List Cond := .code yX3_openBox cX3_openBox 3 none :: ([.fieldLink RX3 11 "ThreeBelow$Life" "row" "[I", .methodLink RX3 46 yX3_isPerson, .static yX3_isPerson, .initialized RX3, .code yX3_isPerson cX3_isPerson 1 (some .boolean), .methodLink RX3 24 yX3_buryIfOld, .instanceMethod yX3_buryIfOld, .selects RX3 yX3_buryIfOld yX3_buryIfOld, .code yX3_buryIfOld cX3_buryIfOld 3 none, .fieldLink RX3 66 "ThreeBelow$Shore" "lifespan" "[I"] ++ wsX30 ++ wsX50)
def wsX3_takeGood : List Cond := .code yX3_takeGood cX3_takeGood 2 none :: ([.fieldLink RX3 11 "ThreeBelow$Life" "row" "[I", .methodLink RX3 50 yX3_isGood, .static yX3_isGood, .initialized RX3, .code yX3_isGood cX3_isGood 1 (some .boolean)] ++ wsX30)
def wsX4_init : List Cond := .code yX4_init cX4_init 1 none :: ([.methodLink RX4 1 objectInit, .instanceMethod objectInit, .code objectInit ⟨#[0xb1]⟩ 1 none, .classLink RX4 11 "[[I", .arrayClass .int, .fieldLink RX4 13 "ThreeBelow$Past" "rows" "[[I"] ++ wsX40)
def wsX4_forget : List Cond := .code yX4_forget cX4_forget 1 none :: ([.fieldLink RX4 16 "ThreeBelow$Past" "count" "I"] ++ wsX40)
def wsX4_remember : List Cond := .code yX4_remember cX4_remember 2 none :: ([.fieldLink RX4 13 "ThreeBelow$Past" "rows" "[[I", .fieldLink RX4 20 "ThreeBelow$Past" "next" "I", .fieldLink RX4 16 "ThreeBelow$Past" "count" "I", .methodLink RX4 27 Lib.Math.min.name, .static Lib.Math.min.name, .initialized "java/lang/Math", .code Lib.Math.min.name Lib.Math.min.code 2 (some .int), .methodLink RX4 23 yX3_copyTo, .instanceMethod yX3_copyTo, .selects RX3 yX3_copyTo yX3_copyTo, .initialized RX3, .code yX3_copyTo cX3_copyTo 2 none, .fieldLink RX3 11 "ThreeBelow$Life" "row" "[I", .methodLink RX3 34 Lib.Math.min.name, .methodLink RX3 40 arraycopyName, .native arraycopyName, .static arraycopyName, .initialized "java/lang/System"] ++ wsX40 ++ wsX30)
def wsX4_bringBack : List Cond := .code yX4_bringBack cX4_bringBack 2 none :: ([.fieldLink RX4 16 "ThreeBelow$Past" "count" "I", .fieldLink RX4 20 "ThreeBelow$Past" "next" "I", .fieldLink RX4 13 "ThreeBelow$Past" "rows" "[[I", .methodLink RX4 33 yX3_copyFrom, .instanceMethod yX3_copyFrom, .selects RX3 yX3_copyFrom yX3_copyFrom, .initialized RX3, .code yX3_copyFrom cX3_copyFrom 2 none, .fieldLink RX3 11 "ThreeBelow$Life" "row" "[I", .methodLink RX3 34 Lib.Math.min.name, .static Lib.Math.min.name, .initialized "java/lang/Math", .code Lib.Math.min.name Lib.Math.min.code 2 (some .int), .methodLink RX3 40 arraycopyName, .native arraycopyName, .static arraycopyName, .initialized "java/lang/System"] ++ wsX40 ++ wsX30)
def wsX5_init : List Cond := .code yX5_init cX5_init 1 none :: ([.methodLink RX5 3 objectInit, .instanceMethod objectInit, .code objectInit ⟨#[0xb1]⟩ 1 none, .arrayClass .int, .fieldLink RX5 9 "ThreeBelow$Shore" "rate" "[I", .fieldLink RX5 15 "ThreeBelow$Shore" "toldAge" "[I", .fieldLink RX5 18 "ThreeBelow$Shore" "lifespan" "[I", .fieldLink RX5 21 "ThreeBelow$Shore" "toldWorth" "[I", .fieldLink RX5 24 "ThreeBelow$Shore" "change" "[I", .fieldLink RX5 27 "ThreeBelow$Shore" "mostWorth" "[I"] ++ wsX50)
def wsX5_empty : List Cond := .code yX5_empty cX5_empty 1 none :: ([.fieldLink RX5 30 "ThreeBelow$Shore" "law" "I", .fieldLink RX5 34 "ThreeBelow$Shore" "reign" "I", .fieldLink RX5 37 "ThreeBelow$Shore" "depths" "I", .fieldLink RX5 40 "ThreeBelow$Shore" "persons" "I", .fieldLink RX5 43 "ThreeBelow$Shore" "goods" "I"] ++ wsX50)
def wsX5_isTold : List Cond := .code yX5_isTold cX5_isTold 1 (some .boolean) :: ([.fieldLink RX5 30 "ThreeBelow$Shore" "law" "I"] ++ wsX50)
def wsX5_hasPerson : List Cond := .code yX5_hasPerson cX5_hasPerson 2 (some .boolean) :: ([.fieldLink RX5 40 "ThreeBelow$Shore" "persons" "I"] ++ wsX50)
def wsX5_hasRoomFor : List Cond := .code yX5_hasRoomFor cX5_hasRoomFor 2 (some .boolean) :: ([.fieldLink RX5 37 "ThreeBelow$Shore" "depths" "I", .fieldLink RX5 40 "ThreeBelow$Shore" "persons" "I", .fieldLink RX5 43 "ThreeBelow$Shore" "goods" "I", .methodLink RX5 46 yX5_isTold, .instanceMethod yX5_isTold, .selects RX5 yX5_isTold yX5_isTold, .initialized RX5, .code yX5_isTold cX5_isTold 1 (some .boolean), .fieldLink RX5 30 "ThreeBelow$Shore" "law" "I"] ++ wsX50)
def wsX5_add : List Cond := .code yX5_add cX5_add 5 none :: ([.fieldLink RX5 30 "ThreeBelow$Shore" "law" "I", .fieldLink RX5 34 "ThreeBelow$Shore" "reign" "I", .fieldLink RX5 9 "ThreeBelow$Shore" "rate" "[I", .fieldLink RX5 37 "ThreeBelow$Shore" "depths" "I", .fieldLink RX5 15 "ThreeBelow$Shore" "toldAge" "[I", .fieldLink RX5 40 "ThreeBelow$Shore" "persons" "I", .fieldLink RX5 18 "ThreeBelow$Shore" "lifespan" "[I", .fieldLink RX5 21 "ThreeBelow$Shore" "toldWorth" "[I", .fieldLink RX5 43 "ThreeBelow$Shore" "goods" "I", .fieldLink RX5 24 "ThreeBelow$Shore" "change" "[I", .fieldLink RX5 27 "ThreeBelow$Shore" "mostWorth" "[I", .methodLink RX5 50 yX5_hasRoomFor, .instanceMethod yX5_hasRoomFor, .selects RX5 yX5_hasRoomFor yX5_hasRoomFor, .initialized RX5, .code yX5_hasRoomFor cX5_hasRoomFor 2 (some .boolean), .methodLink RX5 46 yX5_isTold, .instanceMethod yX5_isTold, .selects RX5 yX5_isTold yX5_isTold, .code yX5_isTold cX5_isTold 1 (some .boolean)] ++ wsX50)
def wsX6_init : List Cond := .code yX6_init cX6_init 1 none :: ([.methodLink RX6 3 objectInit, .instanceMethod objectInit, .code objectInit ⟨#[0xb1]⟩ 1 none, .arrayClass .int, .fieldLink RX6 9 "ThreeBelow$ShoreText" "signs" "[I", .fieldLink RX6 15 "ThreeBelow$ShoreText" "numbers" "[I", .fieldLink RX6 18 "ThreeBelow$ShoreText" "faultAt" "I"] ++ wsX60)
def wsX6_add : List Cond := .code yX6_add cX6_add 2 none :: ([.fieldLink RX6 22 "ThreeBelow$ShoreText" "length" "I", .fieldLink RX6 9 "ThreeBelow$ShoreText" "signs" "[I"] ++ wsX60)
def wsX6_empty : List Cond := .code yX6_empty cX6_empty 1 none :: ([.fieldLink RX6 22 "ThreeBelow$ShoreText" "length" "I"] ++ wsX60)
def wsX6_here : List Cond := .code yX6_here cX6_here 1 (some .int) :: ([.fieldLink RX6 25 "ThreeBelow$ShoreText" "at" "I", .fieldLink RX6 22 "ThreeBelow$ShoreText" "length" "I", .fieldLink RX6 9 "ThreeBelow$ShoreText" "signs" "[I"] ++ wsX60)
def wsX6_skipBlanks : List Cond := .code yX6_skipBlanks cX6_skipBlanks 2 none :: ([.fieldLink RX6 25 "ThreeBelow$ShoreText" "at" "I", .methodLink RX6 43 yX6_here, .instanceMethod yX6_here, .selects RX6 yX6_here yX6_here, .initialized RX6, .code yX6_here cX6_here 1 (some .int), .fieldLink RX6 22 "ThreeBelow$ShoreText" "length" "I", .fieldLink RX6 9 "ThreeBelow$ShoreText" "signs" "[I"] ++ wsX60)
def wsJ0_isLatin1_aae02 : List Cond := .code yJ0_isLatin1_aae02 cJ0_isLatin1_aae02 1 (some .boolean) :: ([.fieldLink RJ0 38 "java/lang/String" "COMPACT_STRINGS" "Z", .fieldLink RJ0 15 "java/lang/String" "coder" "B"])
def wsJ0_coder_7d493 : List Cond := .code yJ0_coder_7d493 cJ0_coder_7d493 1 (some .byte) :: ([.fieldLink RJ0 38 "java/lang/String" "COMPACT_STRINGS" "Z", .fieldLink RJ0 15 "java/lang/String" "coder" "B"])
def wsJ0_length_8abf5 : List Cond := .code yJ0_length_8abf5 cJ0_length_8abf5 1 (some .int) :: ([.fieldLink RJ0 9 "java/lang/String" "value" "[B", .methodLink RJ0 335 yJ0_coder_7d493, .instanceMethod yJ0_coder_7d493, .selects RJ0 yJ0_coder_7d493 yJ0_coder_7d493, .initialized RJ0, .code yJ0_coder_7d493 cJ0_coder_7d493 1 (some .byte), .fieldLink RJ0 38 "java/lang/String" "COMPACT_STRINGS" "Z", .fieldLink RJ0 15 "java/lang/String" "coder" "B"])
def wsJ1_canEncode_9a6ad : List Cond := .code yJ1_canEncode_9a6ad cJ1_canEncode_9a6ad 1 (some .boolean) :: ([])
def wsJ1_indexOfChar_4cfef : List Cond := .code yJ1_indexOfChar_4cfef cJ1_indexOfChar_4cfef 6 (some .int) :: ([])
def wsJ1_indexOf_4cfef : List Cond := .code yJ1_indexOf_4cfef cJ1_indexOf_4cfef 4 (some .int) :: ([.methodLink RJ1 92 Lib.Math.max.name, .static Lib.Math.max.name, .initialized "java/lang/Math", .code Lib.Math.max.name Lib.Math.max.code 2 (some .int), .methodLink RJ1 38 Lib.Math.min.name, .static Lib.Math.min.name, .code Lib.Math.min.name Lib.Math.min.code 2 (some .int), .methodLink RJ1 88 yJ1_canEncode_9a6ad, .static yJ1_canEncode_9a6ad, .initialized RJ1, .code yJ1_canEncode_9a6ad cJ1_canEncode_9a6ad 1 (some .boolean), .methodLink RJ1 95 yJ1_indexOfChar_4cfef, .static yJ1_indexOfChar_4cfef, .code yJ1_indexOfChar_4cfef cJ1_indexOfChar_4cfef 6 (some .int)])
def wsJ2_length_9d52b : List Cond := .code yJ2_length_9d52b cJ2_length_9d52b 1 (some .int) :: ([])
def wsJ3_checkFromToIndex_8c36e : List Cond := .code yJ3_checkFromToIndex_8c36e cJ3_checkFromToIndex_8c36e 4 (some .int) :: ([])
def wsJ0_checkBoundsBeginEnd_23922 : List Cond := .code yJ0_checkBoundsBeginEnd_23922 cJ0_checkBoundsBeginEnd_23922 3 none :: ([.fieldLink RJ0 1053 "jdk/internal/util/Preconditions" "SIOOBE_FORMATTER" "Ljava/util/function/BiFunction;", .methodLink RJ0 1062 yJ3_checkFromToIndex_8c36e, .static yJ3_checkFromToIndex_8c36e, .initialized RJ3, .code yJ3_checkFromToIndex_8c36e cJ3_checkFromToIndex_8c36e 4 (some .int)])
def wsJ2_checkBoundsBeginEnd_d044e : List Cond := .code yJ2_checkBoundsBeginEnd_d044e cJ2_checkBoundsBeginEnd_d044e 3 none :: ([.methodLink RJ2 48 yJ2_length_9d52b, .static yJ2_length_9d52b, .initialized RJ2, .code yJ2_length_9d52b cJ2_length_9d52b 1 (some .int), .methodLink RJ2 241 yJ0_checkBoundsBeginEnd_23922, .static yJ0_checkBoundsBeginEnd_23922, .initialized RJ0, .code yJ0_checkBoundsBeginEnd_23922 cJ0_checkBoundsBeginEnd_23922 3 none, .fieldLink RJ0 1053 "jdk/internal/util/Preconditions" "SIOOBE_FORMATTER" "Ljava/util/function/BiFunction;", .methodLink RJ0 1062 yJ3_checkFromToIndex_8c36e, .static yJ3_checkFromToIndex_8c36e, .initialized RJ3, .code yJ3_checkFromToIndex_8c36e cJ3_checkFromToIndex_8c36e 4 (some .int)])
def wsJ2_getChar_3b067 : List Cond := .code yJ2_getChar_3b067 cJ2_getChar_3b067 2 (some .char) :: ([.fieldLink RJ2 44 "java/lang/StringUTF16" "$assertionsDisabled" "Z", .fieldLink RJ2 59 "java/lang/StringUTF16" "HI_BYTE_SHIFT" "I", .fieldLink RJ2 63 "java/lang/StringUTF16" "LO_BYTE_SHIFT" "I", .methodLink RJ2 48 yJ2_length_9d52b, .static yJ2_length_9d52b, .initialized RJ2, .code yJ2_length_9d52b cJ2_length_9d52b 1 (some .int)])
def wsJ2_indexOfCharUnsafe_4cfef : List Cond := .code yJ2_indexOfCharUnsafe_4cfef cJ2_indexOfCharUnsafe_4cfef 5 (some .int) :: ([.methodLink RJ2 71 yJ2_getChar_3b067, .static yJ2_getChar_3b067, .initialized RJ2, .code yJ2_getChar_3b067 cJ2_getChar_3b067 2 (some .char), .fieldLink RJ2 44 "java/lang/StringUTF16" "$assertionsDisabled" "Z", .fieldLink RJ2 59 "java/lang/StringUTF16" "HI_BYTE_SHIFT" "I", .fieldLink RJ2 63 "java/lang/StringUTF16" "LO_BYTE_SHIFT" "I", .methodLink RJ2 48 yJ2_length_9d52b, .static yJ2_length_9d52b, .code yJ2_length_9d52b cJ2_length_9d52b 1 (some .int)])
def wsJ2_indexOfChar_4cfef_r1 : List Cond := [Cond.methodLink RJ2 96 yJ2_checkBoundsBeginEnd_d044e, Cond.static yJ2_checkBoundsBeginEnd_d044e, Cond.initialized RJ2, Cond.code yJ2_checkBoundsBeginEnd_d044e cJ2_checkBoundsBeginEnd_d044e 3 none, Cond.methodLink RJ2 48 yJ2_length_9d52b, Cond.static yJ2_length_9d52b, Cond.code yJ2_length_9d52b cJ2_length_9d52b 1 (some .int), Cond.methodLink RJ2 241 yJ0_checkBoundsBeginEnd_23922, Cond.static yJ0_checkBoundsBeginEnd_23922, Cond.initialized RJ0, Cond.code yJ0_checkBoundsBeginEnd_23922 cJ0_checkBoundsBeginEnd_23922 3 none, Cond.fieldLink RJ0 1053 "jdk/internal/util/Preconditions" "SIOOBE_FORMATTER" "Ljava/util/function/BiFunction;", Cond.methodLink RJ0 1062 yJ3_checkFromToIndex_8c36e, Cond.static yJ3_checkFromToIndex_8c36e, Cond.initialized RJ3, Cond.code yJ3_checkFromToIndex_8c36e cJ3_checkFromToIndex_8c36e 4 (some .int), Cond.methodLink RJ2 244 yJ2_indexOfCharUnsafe_4cfef, Cond.static yJ2_indexOfCharUnsafe_4cfef, Cond.code yJ2_indexOfCharUnsafe_4cfef cJ2_indexOfCharUnsafe_4cfef 5 (some .int), Cond.methodLink RJ2 71 yJ2_getChar_3b067, Cond.static yJ2_getChar_3b067, Cond.code yJ2_getChar_3b067 cJ2_getChar_3b067 2 (some .char), Cond.fieldLink RJ2 44 "java/lang/StringUTF16" "$assertionsDisabled" "Z", Cond.fieldLink RJ2 59 "java/lang/StringUTF16" "HI_BYTE_SHIFT" "I"]
def wsJ2_indexOfChar_4cfef_r2 : List Cond := [Cond.fieldLink RJ2 63 "java/lang/StringUTF16" "LO_BYTE_SHIFT" "I"]
def wsJ2_indexOfChar_4cfef : List Cond := .code yJ2_indexOfChar_4cfef cJ2_indexOfChar_4cfef 4 (some .int) :: ((wsJ2_indexOfChar_4cfef_r1 ++ wsJ2_indexOfChar_4cfef_r2))
def wsJ11_isValidCodePoint_9a6ad : List Cond := .code yJ11_isValidCodePoint_9a6ad cJ11_isValidCodePoint_9a6ad 2 (some .boolean) :: ([])
def wsJ11_highSurrogate_5068e : List Cond := .code yJ11_highSurrogate_5068e cJ11_highSurrogate_5068e 1 (some .char) :: ([.constant RJ11 110 (55232)])
def wsJ11_lowSurrogate_5068e : List Cond := .code yJ11_lowSurrogate_5068e cJ11_lowSurrogate_5068e 1 (some .char) :: ([.constant RJ11 76 (56320)])
def wsJ2_indexOfSupplementary_4cfef_r1 : List Cond := [Cond.methodLink RJ2 164 yJ11_isValidCodePoint_9a6ad, Cond.static yJ11_isValidCodePoint_9a6ad, Cond.initialized RJ11, Cond.code yJ11_isValidCodePoint_9a6ad cJ11_isValidCodePoint_9a6ad 2 (some .boolean), Cond.methodLink RJ2 157 yJ11_highSurrogate_5068e, Cond.static yJ11_highSurrogate_5068e, Cond.code yJ11_highSurrogate_5068e cJ11_highSurrogate_5068e 1 (some .char), Cond.constant RJ11 110 (55232), Cond.methodLink RJ2 161 yJ11_lowSurrogate_5068e, Cond.static yJ11_lowSurrogate_5068e, Cond.code yJ11_lowSurrogate_5068e cJ11_lowSurrogate_5068e 1 (some .char), Cond.constant RJ11 76 (56320), Cond.methodLink RJ2 96 yJ2_checkBoundsBeginEnd_d044e, Cond.static yJ2_checkBoundsBeginEnd_d044e, Cond.initialized RJ2, Cond.code yJ2_checkBoundsBeginEnd_d044e cJ2_checkBoundsBeginEnd_d044e 3 none, Cond.methodLink RJ2 48 yJ2_length_9d52b, Cond.static yJ2_length_9d52b, Cond.code yJ2_length_9d52b cJ2_length_9d52b 1 (some .int), Cond.methodLink RJ2 241 yJ0_checkBoundsBeginEnd_23922, Cond.static yJ0_checkBoundsBeginEnd_23922, Cond.initialized RJ0, Cond.code yJ0_checkBoundsBeginEnd_23922 cJ0_checkBoundsBeginEnd_23922 3 none, Cond.fieldLink RJ0 1053 "jdk/internal/util/Preconditions" "SIOOBE_FORMATTER" "Ljava/util/function/BiFunction;"]
def wsJ2_indexOfSupplementary_4cfef_r2 : List Cond := [Cond.methodLink RJ0 1062 yJ3_checkFromToIndex_8c36e, Cond.static yJ3_checkFromToIndex_8c36e, Cond.initialized RJ3, Cond.code yJ3_checkFromToIndex_8c36e cJ3_checkFromToIndex_8c36e 4 (some .int), Cond.methodLink RJ2 71 yJ2_getChar_3b067, Cond.static yJ2_getChar_3b067, Cond.code yJ2_getChar_3b067 cJ2_getChar_3b067 2 (some .char), Cond.fieldLink RJ2 44 "java/lang/StringUTF16" "$assertionsDisabled" "Z", Cond.fieldLink RJ2 59 "java/lang/StringUTF16" "HI_BYTE_SHIFT" "I", Cond.fieldLink RJ2 63 "java/lang/StringUTF16" "LO_BYTE_SHIFT" "I"]
def wsJ2_indexOfSupplementary_4cfef : List Cond := .code yJ2_indexOfSupplementary_4cfef cJ2_indexOfSupplementary_4cfef 7 (some .int) :: ((wsJ2_indexOfSupplementary_4cfef_r1 ++ wsJ2_indexOfSupplementary_4cfef_r2))
def wsJ2_indexOf_4cfef_r1 : List Cond := [Cond.methodLink RJ2 224 Lib.Math.max.name, Cond.static Lib.Math.max.name, Cond.initialized "java/lang/Math", Cond.code Lib.Math.max.name Lib.Math.max.code 2 (some .int), Cond.methodLink RJ2 183 Lib.Math.min.name, Cond.static Lib.Math.min.name, Cond.code Lib.Math.min.name Lib.Math.min.code 2 (some .int), Cond.constant RJ2 227 (65536), Cond.methodLink RJ2 228 yJ2_indexOfChar_4cfef, Cond.static yJ2_indexOfChar_4cfef, Cond.initialized RJ2, Cond.code yJ2_indexOfChar_4cfef cJ2_indexOfChar_4cfef 4 (some .int), Cond.methodLink RJ2 96 yJ2_checkBoundsBeginEnd_d044e, Cond.static yJ2_checkBoundsBeginEnd_d044e, Cond.code yJ2_checkBoundsBeginEnd_d044e cJ2_checkBoundsBeginEnd_d044e 3 none, Cond.methodLink RJ2 48 yJ2_length_9d52b, Cond.static yJ2_length_9d52b, Cond.code yJ2_length_9d52b cJ2_length_9d52b 1 (some .int), Cond.methodLink RJ2 241 yJ0_checkBoundsBeginEnd_23922, Cond.static yJ0_checkBoundsBeginEnd_23922, Cond.initialized RJ0, Cond.code yJ0_checkBoundsBeginEnd_23922 cJ0_checkBoundsBeginEnd_23922 3 none, Cond.fieldLink RJ0 1053 "jdk/internal/util/Preconditions" "SIOOBE_FORMATTER" "Ljava/util/function/BiFunction;", Cond.methodLink RJ0 1062 yJ3_checkFromToIndex_8c36e]
def wsJ2_indexOf_4cfef_r2 : List Cond := [Cond.static yJ3_checkFromToIndex_8c36e, Cond.initialized RJ3, Cond.code yJ3_checkFromToIndex_8c36e cJ3_checkFromToIndex_8c36e 4 (some .int), Cond.methodLink RJ2 244 yJ2_indexOfCharUnsafe_4cfef, Cond.static yJ2_indexOfCharUnsafe_4cfef, Cond.code yJ2_indexOfCharUnsafe_4cfef cJ2_indexOfCharUnsafe_4cfef 5 (some .int), Cond.methodLink RJ2 71 yJ2_getChar_3b067, Cond.static yJ2_getChar_3b067, Cond.code yJ2_getChar_3b067 cJ2_getChar_3b067 2 (some .char), Cond.fieldLink RJ2 44 "java/lang/StringUTF16" "$assertionsDisabled" "Z", Cond.fieldLink RJ2 59 "java/lang/StringUTF16" "HI_BYTE_SHIFT" "I", Cond.fieldLink RJ2 63 "java/lang/StringUTF16" "LO_BYTE_SHIFT" "I", Cond.methodLink RJ2 232 yJ2_indexOfSupplementary_4cfef, Cond.static yJ2_indexOfSupplementary_4cfef, Cond.code yJ2_indexOfSupplementary_4cfef cJ2_indexOfSupplementary_4cfef 7 (some .int), Cond.methodLink RJ2 164 yJ11_isValidCodePoint_9a6ad, Cond.static yJ11_isValidCodePoint_9a6ad, Cond.initialized RJ11, Cond.code yJ11_isValidCodePoint_9a6ad cJ11_isValidCodePoint_9a6ad 2 (some .boolean), Cond.methodLink RJ2 157 yJ11_highSurrogate_5068e, Cond.static yJ11_highSurrogate_5068e, Cond.code yJ11_highSurrogate_5068e cJ11_highSurrogate_5068e 1 (some .char), Cond.constant RJ11 110 (55232), Cond.methodLink RJ2 161 yJ11_lowSurrogate_5068e]
def wsJ2_indexOf_4cfef_r3 : List Cond := [Cond.static yJ11_lowSurrogate_5068e, Cond.code yJ11_lowSurrogate_5068e cJ11_lowSurrogate_5068e 1 (some .char), Cond.constant RJ11 76 (56320)]
def wsJ2_indexOf_4cfef : List Cond := .code yJ2_indexOf_4cfef cJ2_indexOf_4cfef 4 (some .int) :: ((wsJ2_indexOf_4cfef_r1 ++ (wsJ2_indexOf_4cfef_r2 ++ wsJ2_indexOf_4cfef_r3)))
def wsJ0_indexOf_7cf53_r1 : List Cond := [Cond.fieldLink RJ0 9 "java/lang/String" "value" "[B", Cond.methodLink RJ0 492 yJ0_isLatin1_aae02, Cond.instanceMethod yJ0_isLatin1_aae02, Cond.selects RJ0 yJ0_isLatin1_aae02 yJ0_isLatin1_aae02, Cond.initialized RJ0, Cond.code yJ0_isLatin1_aae02 cJ0_isLatin1_aae02 1 (some .boolean), Cond.fieldLink RJ0 38 "java/lang/String" "COMPACT_STRINGS" "Z", Cond.fieldLink RJ0 15 "java/lang/String" "coder" "B", Cond.methodLink RJ0 505 yJ0_length_8abf5, Cond.instanceMethod yJ0_length_8abf5, Cond.selects RJ0 yJ0_length_8abf5 yJ0_length_8abf5, Cond.code yJ0_length_8abf5 cJ0_length_8abf5 1 (some .int), Cond.methodLink RJ0 335 yJ0_coder_7d493, Cond.instanceMethod yJ0_coder_7d493, Cond.selects RJ0 yJ0_coder_7d493 yJ0_coder_7d493, Cond.code yJ0_coder_7d493 cJ0_coder_7d493 1 (some .byte), Cond.methodLink RJ0 637 yJ1_indexOf_4cfef, Cond.static yJ1_indexOf_4cfef, Cond.initialized RJ1, Cond.code yJ1_indexOf_4cfef cJ1_indexOf_4cfef 4 (some .int), Cond.methodLink RJ1 92 Lib.Math.max.name, Cond.static Lib.Math.max.name, Cond.initialized "java/lang/Math", Cond.code Lib.Math.max.name Lib.Math.max.code 2 (some .int)]
def wsJ0_indexOf_7cf53_r2 : List Cond := [Cond.methodLink RJ1 38 Lib.Math.min.name, Cond.static Lib.Math.min.name, Cond.code Lib.Math.min.name Lib.Math.min.code 2 (some .int), Cond.methodLink RJ1 88 yJ1_canEncode_9a6ad, Cond.static yJ1_canEncode_9a6ad, Cond.code yJ1_canEncode_9a6ad cJ1_canEncode_9a6ad 1 (some .boolean), Cond.methodLink RJ1 95 yJ1_indexOfChar_4cfef, Cond.static yJ1_indexOfChar_4cfef, Cond.code yJ1_indexOfChar_4cfef cJ1_indexOfChar_4cfef 6 (some .int), Cond.methodLink RJ0 640 yJ2_indexOf_4cfef, Cond.static yJ2_indexOf_4cfef, Cond.initialized RJ2, Cond.code yJ2_indexOf_4cfef cJ2_indexOf_4cfef 4 (some .int), Cond.methodLink RJ2 224 Lib.Math.max.name, Cond.methodLink RJ2 183 Lib.Math.min.name, Cond.constant RJ2 227 (65536), Cond.methodLink RJ2 228 yJ2_indexOfChar_4cfef, Cond.static yJ2_indexOfChar_4cfef, Cond.code yJ2_indexOfChar_4cfef cJ2_indexOfChar_4cfef 4 (some .int), Cond.methodLink RJ2 96 yJ2_checkBoundsBeginEnd_d044e, Cond.static yJ2_checkBoundsBeginEnd_d044e, Cond.code yJ2_checkBoundsBeginEnd_d044e cJ2_checkBoundsBeginEnd_d044e 3 none, Cond.methodLink RJ2 48 yJ2_length_9d52b, Cond.static yJ2_length_9d52b]
def wsJ0_indexOf_7cf53_r3 : List Cond := [Cond.code yJ2_length_9d52b cJ2_length_9d52b 1 (some .int), Cond.methodLink RJ2 241 yJ0_checkBoundsBeginEnd_23922, Cond.static yJ0_checkBoundsBeginEnd_23922, Cond.code yJ0_checkBoundsBeginEnd_23922 cJ0_checkBoundsBeginEnd_23922 3 none, Cond.fieldLink RJ0 1053 "jdk/internal/util/Preconditions" "SIOOBE_FORMATTER" "Ljava/util/function/BiFunction;", Cond.methodLink RJ0 1062 yJ3_checkFromToIndex_8c36e, Cond.static yJ3_checkFromToIndex_8c36e, Cond.initialized RJ3, Cond.code yJ3_checkFromToIndex_8c36e cJ3_checkFromToIndex_8c36e 4 (some .int), Cond.methodLink RJ2 244 yJ2_indexOfCharUnsafe_4cfef, Cond.static yJ2_indexOfCharUnsafe_4cfef, Cond.code yJ2_indexOfCharUnsafe_4cfef cJ2_indexOfCharUnsafe_4cfef 5 (some .int), Cond.methodLink RJ2 71 yJ2_getChar_3b067, Cond.static yJ2_getChar_3b067, Cond.code yJ2_getChar_3b067 cJ2_getChar_3b067 2 (some .char), Cond.fieldLink RJ2 44 "java/lang/StringUTF16" "$assertionsDisabled" "Z", Cond.fieldLink RJ2 59 "java/lang/StringUTF16" "HI_BYTE_SHIFT" "I", Cond.fieldLink RJ2 63 "java/lang/StringUTF16" "LO_BYTE_SHIFT" "I", Cond.methodLink RJ2 232 yJ2_indexOfSupplementary_4cfef, Cond.static yJ2_indexOfSupplementary_4cfef, Cond.code yJ2_indexOfSupplementary_4cfef cJ2_indexOfSupplementary_4cfef 7 (some .int), Cond.methodLink RJ2 164 yJ11_isValidCodePoint_9a6ad, Cond.static yJ11_isValidCodePoint_9a6ad, Cond.initialized RJ11]
def wsJ0_indexOf_7cf53_r4 : List Cond := [Cond.code yJ11_isValidCodePoint_9a6ad cJ11_isValidCodePoint_9a6ad 2 (some .boolean), Cond.methodLink RJ2 157 yJ11_highSurrogate_5068e, Cond.static yJ11_highSurrogate_5068e, Cond.code yJ11_highSurrogate_5068e cJ11_highSurrogate_5068e 1 (some .char), Cond.constant RJ11 110 (55232), Cond.methodLink RJ2 161 yJ11_lowSurrogate_5068e, Cond.static yJ11_lowSurrogate_5068e, Cond.code yJ11_lowSurrogate_5068e cJ11_lowSurrogate_5068e 1 (some .char), Cond.constant RJ11 76 (56320)]
def wsJ0_indexOf_7cf53 : List Cond := .code yJ0_indexOf_7cf53 cJ0_indexOf_7cf53 3 (some .int) :: ((wsJ0_indexOf_7cf53_r1 ++ (wsJ0_indexOf_7cf53_r2 ++ (wsJ0_indexOf_7cf53_r3 ++ wsJ0_indexOf_7cf53_r4))))
def wsJ0_indexOf_0f7a4_r1 : List Cond := [Cond.methodLink RJ0 633 yJ0_indexOf_7cf53, Cond.instanceMethod yJ0_indexOf_7cf53, Cond.selects RJ0 yJ0_indexOf_7cf53 yJ0_indexOf_7cf53, Cond.initialized RJ0, Cond.code yJ0_indexOf_7cf53 cJ0_indexOf_7cf53 3 (some .int), Cond.fieldLink RJ0 9 "java/lang/String" "value" "[B", Cond.methodLink RJ0 492 yJ0_isLatin1_aae02, Cond.instanceMethod yJ0_isLatin1_aae02, Cond.selects RJ0 yJ0_isLatin1_aae02 yJ0_isLatin1_aae02, Cond.code yJ0_isLatin1_aae02 cJ0_isLatin1_aae02 1 (some .boolean), Cond.fieldLink RJ0 38 "java/lang/String" "COMPACT_STRINGS" "Z", Cond.fieldLink RJ0 15 "java/lang/String" "coder" "B", Cond.methodLink RJ0 505 yJ0_length_8abf5, Cond.instanceMethod yJ0_length_8abf5, Cond.selects RJ0 yJ0_length_8abf5 yJ0_length_8abf5, Cond.code yJ0_length_8abf5 cJ0_length_8abf5 1 (some .int), Cond.methodLink RJ0 335 yJ0_coder_7d493, Cond.instanceMethod yJ0_coder_7d493, Cond.selects RJ0 yJ0_coder_7d493 yJ0_coder_7d493, Cond.code yJ0_coder_7d493 cJ0_coder_7d493 1 (some .byte), Cond.methodLink RJ0 637 yJ1_indexOf_4cfef, Cond.static yJ1_indexOf_4cfef, Cond.initialized RJ1, Cond.code yJ1_indexOf_4cfef cJ1_indexOf_4cfef 4 (some .int)]
def wsJ0_indexOf_0f7a4_r2 : List Cond := [Cond.methodLink RJ1 92 Lib.Math.max.name, Cond.static Lib.Math.max.name, Cond.initialized "java/lang/Math", Cond.code Lib.Math.max.name Lib.Math.max.code 2 (some .int), Cond.methodLink RJ1 38 Lib.Math.min.name, Cond.static Lib.Math.min.name, Cond.code Lib.Math.min.name Lib.Math.min.code 2 (some .int), Cond.methodLink RJ1 88 yJ1_canEncode_9a6ad, Cond.static yJ1_canEncode_9a6ad, Cond.code yJ1_canEncode_9a6ad cJ1_canEncode_9a6ad 1 (some .boolean), Cond.methodLink RJ1 95 yJ1_indexOfChar_4cfef, Cond.static yJ1_indexOfChar_4cfef, Cond.code yJ1_indexOfChar_4cfef cJ1_indexOfChar_4cfef 6 (some .int), Cond.methodLink RJ0 640 yJ2_indexOf_4cfef, Cond.static yJ2_indexOf_4cfef, Cond.initialized RJ2, Cond.code yJ2_indexOf_4cfef cJ2_indexOf_4cfef 4 (some .int), Cond.methodLink RJ2 224 Lib.Math.max.name, Cond.methodLink RJ2 183 Lib.Math.min.name, Cond.constant RJ2 227 (65536), Cond.methodLink RJ2 228 yJ2_indexOfChar_4cfef, Cond.static yJ2_indexOfChar_4cfef, Cond.code yJ2_indexOfChar_4cfef cJ2_indexOfChar_4cfef 4 (some .int), Cond.methodLink RJ2 96 yJ2_checkBoundsBeginEnd_d044e]
def wsJ0_indexOf_0f7a4_r3 : List Cond := [Cond.static yJ2_checkBoundsBeginEnd_d044e, Cond.code yJ2_checkBoundsBeginEnd_d044e cJ2_checkBoundsBeginEnd_d044e 3 none, Cond.methodLink RJ2 48 yJ2_length_9d52b, Cond.static yJ2_length_9d52b, Cond.code yJ2_length_9d52b cJ2_length_9d52b 1 (some .int), Cond.methodLink RJ2 241 yJ0_checkBoundsBeginEnd_23922, Cond.static yJ0_checkBoundsBeginEnd_23922, Cond.code yJ0_checkBoundsBeginEnd_23922 cJ0_checkBoundsBeginEnd_23922 3 none, Cond.fieldLink RJ0 1053 "jdk/internal/util/Preconditions" "SIOOBE_FORMATTER" "Ljava/util/function/BiFunction;", Cond.methodLink RJ0 1062 yJ3_checkFromToIndex_8c36e, Cond.static yJ3_checkFromToIndex_8c36e, Cond.initialized RJ3, Cond.code yJ3_checkFromToIndex_8c36e cJ3_checkFromToIndex_8c36e 4 (some .int), Cond.methodLink RJ2 244 yJ2_indexOfCharUnsafe_4cfef, Cond.static yJ2_indexOfCharUnsafe_4cfef, Cond.code yJ2_indexOfCharUnsafe_4cfef cJ2_indexOfCharUnsafe_4cfef 5 (some .int), Cond.methodLink RJ2 71 yJ2_getChar_3b067, Cond.static yJ2_getChar_3b067, Cond.code yJ2_getChar_3b067 cJ2_getChar_3b067 2 (some .char), Cond.fieldLink RJ2 44 "java/lang/StringUTF16" "$assertionsDisabled" "Z", Cond.fieldLink RJ2 59 "java/lang/StringUTF16" "HI_BYTE_SHIFT" "I", Cond.fieldLink RJ2 63 "java/lang/StringUTF16" "LO_BYTE_SHIFT" "I", Cond.methodLink RJ2 232 yJ2_indexOfSupplementary_4cfef, Cond.static yJ2_indexOfSupplementary_4cfef]
def wsJ0_indexOf_0f7a4_r4 : List Cond := [Cond.code yJ2_indexOfSupplementary_4cfef cJ2_indexOfSupplementary_4cfef 7 (some .int), Cond.methodLink RJ2 164 yJ11_isValidCodePoint_9a6ad, Cond.static yJ11_isValidCodePoint_9a6ad, Cond.initialized RJ11, Cond.code yJ11_isValidCodePoint_9a6ad cJ11_isValidCodePoint_9a6ad 2 (some .boolean), Cond.methodLink RJ2 157 yJ11_highSurrogate_5068e, Cond.static yJ11_highSurrogate_5068e, Cond.code yJ11_highSurrogate_5068e cJ11_highSurrogate_5068e 1 (some .char), Cond.constant RJ11 110 (55232), Cond.methodLink RJ2 161 yJ11_lowSurrogate_5068e, Cond.static yJ11_lowSurrogate_5068e, Cond.code yJ11_lowSurrogate_5068e cJ11_lowSurrogate_5068e 1 (some .char), Cond.constant RJ11 76 (56320)]
def wsJ0_indexOf_0f7a4 : List Cond := .code yJ0_indexOf_0f7a4 cJ0_indexOf_0f7a4 2 (some .int) :: ((wsJ0_indexOf_0f7a4_r1 ++ (wsJ0_indexOf_0f7a4_r2 ++ (wsJ0_indexOf_0f7a4_r3 ++ wsJ0_indexOf_0f7a4_r4))))
def wsX6_blame : List Cond := .code yX6_blame cX6_blame 3 none :: ([.fieldLink RX6 28 "ThreeBelow$ShoreText" "faultNumber" "I", .fieldLink RX6 18 "ThreeBelow$ShoreText" "faultAt" "I"] ++ wsX60)
def wsX6_isFigure : List Cond := .code yX6_isFigure cX6_isFigure 2 (some .boolean) :: ([])
def wsX6_readNumber_r1 : List Cond := [Cond.fieldLink RX6 25 "ThreeBelow$ShoreText" "at" "I", Cond.fieldLink RX6 89 "ThreeBelow$ShoreText" "LEAST" "[I", Cond.fieldLink RX6 92 "ThreeBelow$ShoreText" "GREATEST" "[I", Cond.fieldLink RX6 15 "ThreeBelow$ShoreText" "numbers" "[I", Cond.methodLink RX6 40 yX6_skipBlanks, Cond.instanceMethod yX6_skipBlanks, Cond.selects RX6 yX6_skipBlanks yX6_skipBlanks, Cond.initialized RX6, Cond.code yX6_skipBlanks cX6_skipBlanks 2 none, Cond.methodLink RX6 43 yX6_here, Cond.instanceMethod yX6_here, Cond.selects RX6 yX6_here yX6_here, Cond.code yX6_here cX6_here 1 (some .int), Cond.fieldLink RX6 22 "ThreeBelow$ShoreText" "length" "I", Cond.fieldLink RX6 9 "ThreeBelow$ShoreText" "signs" "[I", Cond.methodLink RX6 86 yX6_isFigure, Cond.instanceMethod yX6_isFigure, Cond.selects RX6 yX6_isFigure yX6_isFigure, Cond.code yX6_isFigure cX6_isFigure 2 (some .boolean), Cond.methodLink RX6 62 yX6_blame, Cond.instanceMethod yX6_blame, Cond.selects RX6 yX6_blame yX6_blame, Cond.code yX6_blame cX6_blame 3 none, Cond.fieldLink RX6 28 "ThreeBelow$ShoreText" "faultNumber" "I"]
def wsX6_readNumber_r2 : List Cond := [Cond.fieldLink RX6 18 "ThreeBelow$ShoreText" "faultAt" "I"]
def wsX6_readNumber : List Cond := .code yX6_readNumber cX6_readNumber 6 none :: ((wsX6_readNumber_r1 ++ wsX6_readNumber_r2) ++ wsX60)
def wsX6_readSemicolon : List Cond := .code yX6_readSemicolon cX6_readSemicolon 1 none :: ([.fieldLink RX6 25 "ThreeBelow$ShoreText" "at" "I", .methodLink RX6 40 yX6_skipBlanks, .instanceMethod yX6_skipBlanks, .selects RX6 yX6_skipBlanks yX6_skipBlanks, .initialized RX6, .code yX6_skipBlanks cX6_skipBlanks 2 none, .methodLink RX6 43 yX6_here, .instanceMethod yX6_here, .selects RX6 yX6_here yX6_here, .code yX6_here cX6_here 1 (some .int), .fieldLink RX6 22 "ThreeBelow$ShoreText" "length" "I", .fieldLink RX6 9 "ThreeBelow$ShoreText" "signs" "[I", .methodLink RX6 62 yX6_blame, .instanceMethod yX6_blame, .selects RX6 yX6_blame yX6_blame, .code yX6_blame cX6_blame 3 none, .fieldLink RX6 28 "ThreeBelow$ShoreText" "faultNumber" "I", .fieldLink RX6 18 "ThreeBelow$ShoreText" "faultAt" "I"] ++ wsX60)
def wsX6_readClause_r1 : List Cond := [Cond.fieldLink RX6 25 "ThreeBelow$ShoreText" "at" "I", Cond.fieldLink RX6 70 "ThreeBelow$ShoreText" "NUMBERS_OF_WORD" "[I", Cond.fieldLink RX6 28 "ThreeBelow$ShoreText" "faultNumber" "I", Cond.fieldLink RX6 73 "ThreeBelow$ShoreText" "FIRST_BOUND_OF_WORD" "[I", Cond.fieldLink RX6 15 "ThreeBelow$ShoreText" "numbers" "[I", Cond.methodLink RX6 43 yX6_here, Cond.instanceMethod yX6_here, Cond.selects RX6 yX6_here yX6_here, Cond.initialized RX6, Cond.code yX6_here cX6_here 1 (some .int), Cond.fieldLink RX6 22 "ThreeBelow$ShoreText" "length" "I", Cond.fieldLink RX6 9 "ThreeBelow$ShoreText" "signs" "[I", Cond.methodLink RX6 52 yJ0_indexOf_0f7a4, Cond.instanceMethod yJ0_indexOf_0f7a4, Cond.selects RJ0 yJ0_indexOf_0f7a4 yJ0_indexOf_0f7a4, Cond.initialized RJ0, Cond.code yJ0_indexOf_0f7a4 cJ0_indexOf_0f7a4 2 (some .int), Cond.methodLink RJ0 633 yJ0_indexOf_7cf53, Cond.instanceMethod yJ0_indexOf_7cf53, Cond.selects RJ0 yJ0_indexOf_7cf53 yJ0_indexOf_7cf53, Cond.code yJ0_indexOf_7cf53 cJ0_indexOf_7cf53 3 (some .int), Cond.fieldLink RJ0 9 "java/lang/String" "value" "[B", Cond.methodLink RJ0 492 yJ0_isLatin1_aae02, Cond.instanceMethod yJ0_isLatin1_aae02]
def wsX6_readClause_r2 : List Cond := [Cond.selects RJ0 yJ0_isLatin1_aae02 yJ0_isLatin1_aae02, Cond.code yJ0_isLatin1_aae02 cJ0_isLatin1_aae02 1 (some .boolean), Cond.fieldLink RJ0 38 "java/lang/String" "COMPACT_STRINGS" "Z", Cond.fieldLink RJ0 15 "java/lang/String" "coder" "B", Cond.methodLink RJ0 505 yJ0_length_8abf5, Cond.instanceMethod yJ0_length_8abf5, Cond.selects RJ0 yJ0_length_8abf5 yJ0_length_8abf5, Cond.code yJ0_length_8abf5 cJ0_length_8abf5 1 (some .int), Cond.methodLink RJ0 335 yJ0_coder_7d493, Cond.instanceMethod yJ0_coder_7d493, Cond.selects RJ0 yJ0_coder_7d493 yJ0_coder_7d493, Cond.code yJ0_coder_7d493 cJ0_coder_7d493 1 (some .byte), Cond.methodLink RJ0 637 yJ1_indexOf_4cfef, Cond.static yJ1_indexOf_4cfef, Cond.initialized RJ1, Cond.code yJ1_indexOf_4cfef cJ1_indexOf_4cfef 4 (some .int), Cond.methodLink RJ1 92 Lib.Math.max.name, Cond.static Lib.Math.max.name, Cond.initialized "java/lang/Math", Cond.code Lib.Math.max.name Lib.Math.max.code 2 (some .int), Cond.methodLink RJ1 38 Lib.Math.min.name, Cond.static Lib.Math.min.name, Cond.code Lib.Math.min.name Lib.Math.min.code 2 (some .int), Cond.methodLink RJ1 88 yJ1_canEncode_9a6ad]
def wsX6_readClause_r3 : List Cond := [Cond.static yJ1_canEncode_9a6ad, Cond.code yJ1_canEncode_9a6ad cJ1_canEncode_9a6ad 1 (some .boolean), Cond.methodLink RJ1 95 yJ1_indexOfChar_4cfef, Cond.static yJ1_indexOfChar_4cfef, Cond.code yJ1_indexOfChar_4cfef cJ1_indexOfChar_4cfef 6 (some .int), Cond.methodLink RJ0 640 yJ2_indexOf_4cfef, Cond.static yJ2_indexOf_4cfef, Cond.initialized RJ2, Cond.code yJ2_indexOf_4cfef cJ2_indexOf_4cfef 4 (some .int), Cond.methodLink RJ2 224 Lib.Math.max.name, Cond.methodLink RJ2 183 Lib.Math.min.name, Cond.constant RJ2 227 (65536), Cond.methodLink RJ2 228 yJ2_indexOfChar_4cfef, Cond.static yJ2_indexOfChar_4cfef, Cond.code yJ2_indexOfChar_4cfef cJ2_indexOfChar_4cfef 4 (some .int), Cond.methodLink RJ2 96 yJ2_checkBoundsBeginEnd_d044e, Cond.static yJ2_checkBoundsBeginEnd_d044e, Cond.code yJ2_checkBoundsBeginEnd_d044e cJ2_checkBoundsBeginEnd_d044e 3 none, Cond.methodLink RJ2 48 yJ2_length_9d52b, Cond.static yJ2_length_9d52b, Cond.code yJ2_length_9d52b cJ2_length_9d52b 1 (some .int), Cond.methodLink RJ2 241 yJ0_checkBoundsBeginEnd_23922, Cond.static yJ0_checkBoundsBeginEnd_23922, Cond.code yJ0_checkBoundsBeginEnd_23922 cJ0_checkBoundsBeginEnd_23922 3 none]
def wsX6_readClause_r4 : List Cond := [Cond.fieldLink RJ0 1053 "jdk/internal/util/Preconditions" "SIOOBE_FORMATTER" "Ljava/util/function/BiFunction;", Cond.methodLink RJ0 1062 yJ3_checkFromToIndex_8c36e, Cond.static yJ3_checkFromToIndex_8c36e, Cond.initialized RJ3, Cond.code yJ3_checkFromToIndex_8c36e cJ3_checkFromToIndex_8c36e 4 (some .int), Cond.methodLink RJ2 244 yJ2_indexOfCharUnsafe_4cfef, Cond.static yJ2_indexOfCharUnsafe_4cfef, Cond.code yJ2_indexOfCharUnsafe_4cfef cJ2_indexOfCharUnsafe_4cfef 5 (some .int), Cond.methodLink RJ2 71 yJ2_getChar_3b067, Cond.static yJ2_getChar_3b067, Cond.code yJ2_getChar_3b067 cJ2_getChar_3b067 2 (some .char), Cond.fieldLink RJ2 44 "java/lang/StringUTF16" "$assertionsDisabled" "Z", Cond.fieldLink RJ2 59 "java/lang/StringUTF16" "HI_BYTE_SHIFT" "I", Cond.fieldLink RJ2 63 "java/lang/StringUTF16" "LO_BYTE_SHIFT" "I", Cond.methodLink RJ2 232 yJ2_indexOfSupplementary_4cfef, Cond.static yJ2_indexOfSupplementary_4cfef, Cond.code yJ2_indexOfSupplementary_4cfef cJ2_indexOfSupplementary_4cfef 7 (some .int), Cond.methodLink RJ2 164 yJ11_isValidCodePoint_9a6ad, Cond.static yJ11_isValidCodePoint_9a6ad, Cond.initialized RJ11, Cond.code yJ11_isValidCodePoint_9a6ad cJ11_isValidCodePoint_9a6ad 2 (some .boolean), Cond.methodLink RJ2 157 yJ11_highSurrogate_5068e, Cond.static yJ11_highSurrogate_5068e, Cond.code yJ11_highSurrogate_5068e cJ11_highSurrogate_5068e 1 (some .char)]
def wsX6_readClause_r5 : List Cond := [Cond.constant RJ11 110 (55232), Cond.methodLink RJ2 161 yJ11_lowSurrogate_5068e, Cond.static yJ11_lowSurrogate_5068e, Cond.code yJ11_lowSurrogate_5068e cJ11_lowSurrogate_5068e 1 (some .char), Cond.constant RJ11 76 (56320), Cond.methodLink RX6 58 yX5_isTold, Cond.instanceMethod yX5_isTold, Cond.selects RX5 yX5_isTold yX5_isTold, Cond.initialized RX5, Cond.code yX5_isTold cX5_isTold 1 (some .boolean), Cond.fieldLink RX5 30 "ThreeBelow$Shore" "law" "I", Cond.methodLink RX6 62 yX6_blame, Cond.instanceMethod yX6_blame, Cond.selects RX6 yX6_blame yX6_blame, Cond.code yX6_blame cX6_blame 3 none, Cond.fieldLink RX6 18 "ThreeBelow$ShoreText" "faultAt" "I", Cond.methodLink RX6 66 yX5_hasRoomFor, Cond.instanceMethod yX5_hasRoomFor, Cond.selects RX5 yX5_hasRoomFor yX5_hasRoomFor, Cond.code yX5_hasRoomFor cX5_hasRoomFor 2 (some .boolean), Cond.fieldLink RX5 37 "ThreeBelow$Shore" "depths" "I", Cond.fieldLink RX5 40 "ThreeBelow$Shore" "persons" "I", Cond.fieldLink RX5 43 "ThreeBelow$Shore" "goods" "I", Cond.methodLink RX5 46 yX5_isTold]
def wsX6_readClause_r6 : List Cond := [Cond.methodLink RX6 76 yX6_readNumber, Cond.instanceMethod yX6_readNumber, Cond.selects RX6 yX6_readNumber yX6_readNumber, Cond.code yX6_readNumber cX6_readNumber 6 none, Cond.fieldLink RX6 89 "ThreeBelow$ShoreText" "LEAST" "[I", Cond.fieldLink RX6 92 "ThreeBelow$ShoreText" "GREATEST" "[I", Cond.methodLink RX6 40 yX6_skipBlanks, Cond.instanceMethod yX6_skipBlanks, Cond.selects RX6 yX6_skipBlanks yX6_skipBlanks, Cond.code yX6_skipBlanks cX6_skipBlanks 2 none, Cond.methodLink RX6 86 yX6_isFigure, Cond.instanceMethod yX6_isFigure, Cond.selects RX6 yX6_isFigure yX6_isFigure, Cond.code yX6_isFigure cX6_isFigure 2 (some .boolean), Cond.methodLink RX6 79 yX6_readSemicolon, Cond.instanceMethod yX6_readSemicolon, Cond.selects RX6 yX6_readSemicolon yX6_readSemicolon, Cond.code yX6_readSemicolon cX6_readSemicolon 1 none, Cond.methodLink RX6 82 yX5_add, Cond.instanceMethod yX5_add, Cond.selects RX5 yX5_add yX5_add, Cond.code yX5_add cX5_add 5 none, Cond.fieldLink RX5 34 "ThreeBelow$Shore" "reign" "I", Cond.fieldLink RX5 9 "ThreeBelow$Shore" "rate" "[I"]
def wsX6_readClause_r7 : List Cond := [Cond.fieldLink RX5 15 "ThreeBelow$Shore" "toldAge" "[I", Cond.fieldLink RX5 18 "ThreeBelow$Shore" "lifespan" "[I", Cond.fieldLink RX5 21 "ThreeBelow$Shore" "toldWorth" "[I", Cond.fieldLink RX5 24 "ThreeBelow$Shore" "change" "[I", Cond.fieldLink RX5 27 "ThreeBelow$Shore" "mostWorth" "[I", Cond.methodLink RX5 50 yX5_hasRoomFor]
def wsX6_readClause : List Cond := .code yX6_readClause cX6_readClause 5 none :: ((wsX6_readClause_r1 ++ (wsX6_readClause_r2 ++ (wsX6_readClause_r3 ++ (wsX6_readClause_r4 ++ (wsX6_readClause_r5 ++ (wsX6_readClause_r6 ++ wsX6_readClause_r7)))))) ++ wsX60 ++ wsX50)
def wsX6_readClauses_r1 : List Cond := [Cond.fieldLink RX6 28 "ThreeBelow$ShoreText" "faultNumber" "I", Cond.methodLink RX6 40 yX6_skipBlanks, Cond.instanceMethod yX6_skipBlanks, Cond.selects RX6 yX6_skipBlanks yX6_skipBlanks, Cond.initialized RX6, Cond.code yX6_skipBlanks cX6_skipBlanks 2 none, Cond.fieldLink RX6 25 "ThreeBelow$ShoreText" "at" "I", Cond.methodLink RX6 43 yX6_here, Cond.instanceMethod yX6_here, Cond.selects RX6 yX6_here yX6_here, Cond.code yX6_here cX6_here 1 (some .int), Cond.fieldLink RX6 22 "ThreeBelow$ShoreText" "length" "I", Cond.fieldLink RX6 9 "ThreeBelow$ShoreText" "signs" "[I", Cond.methodLink RX6 47 yX6_readClause, Cond.instanceMethod yX6_readClause, Cond.selects RX6 yX6_readClause yX6_readClause, Cond.code yX6_readClause cX6_readClause 5 none, Cond.fieldLink RX6 70 "ThreeBelow$ShoreText" "NUMBERS_OF_WORD" "[I", Cond.fieldLink RX6 73 "ThreeBelow$ShoreText" "FIRST_BOUND_OF_WORD" "[I", Cond.fieldLink RX6 15 "ThreeBelow$ShoreText" "numbers" "[I", Cond.methodLink RX6 52 yJ0_indexOf_0f7a4, Cond.instanceMethod yJ0_indexOf_0f7a4, Cond.selects RJ0 yJ0_indexOf_0f7a4 yJ0_indexOf_0f7a4, Cond.initialized RJ0]
def wsX6_readClauses_r2 : List Cond := [Cond.code yJ0_indexOf_0f7a4 cJ0_indexOf_0f7a4 2 (some .int), Cond.methodLink RJ0 633 yJ0_indexOf_7cf53, Cond.instanceMethod yJ0_indexOf_7cf53, Cond.selects RJ0 yJ0_indexOf_7cf53 yJ0_indexOf_7cf53, Cond.code yJ0_indexOf_7cf53 cJ0_indexOf_7cf53 3 (some .int), Cond.fieldLink RJ0 9 "java/lang/String" "value" "[B", Cond.methodLink RJ0 492 yJ0_isLatin1_aae02, Cond.instanceMethod yJ0_isLatin1_aae02, Cond.selects RJ0 yJ0_isLatin1_aae02 yJ0_isLatin1_aae02, Cond.code yJ0_isLatin1_aae02 cJ0_isLatin1_aae02 1 (some .boolean), Cond.fieldLink RJ0 38 "java/lang/String" "COMPACT_STRINGS" "Z", Cond.fieldLink RJ0 15 "java/lang/String" "coder" "B", Cond.methodLink RJ0 505 yJ0_length_8abf5, Cond.instanceMethod yJ0_length_8abf5, Cond.selects RJ0 yJ0_length_8abf5 yJ0_length_8abf5, Cond.code yJ0_length_8abf5 cJ0_length_8abf5 1 (some .int), Cond.methodLink RJ0 335 yJ0_coder_7d493, Cond.instanceMethod yJ0_coder_7d493, Cond.selects RJ0 yJ0_coder_7d493 yJ0_coder_7d493, Cond.code yJ0_coder_7d493 cJ0_coder_7d493 1 (some .byte), Cond.methodLink RJ0 637 yJ1_indexOf_4cfef, Cond.static yJ1_indexOf_4cfef, Cond.initialized RJ1, Cond.code yJ1_indexOf_4cfef cJ1_indexOf_4cfef 4 (some .int)]
def wsX6_readClauses_r3 : List Cond := [Cond.methodLink RJ1 92 Lib.Math.max.name, Cond.static Lib.Math.max.name, Cond.initialized "java/lang/Math", Cond.code Lib.Math.max.name Lib.Math.max.code 2 (some .int), Cond.methodLink RJ1 38 Lib.Math.min.name, Cond.static Lib.Math.min.name, Cond.code Lib.Math.min.name Lib.Math.min.code 2 (some .int), Cond.methodLink RJ1 88 yJ1_canEncode_9a6ad, Cond.static yJ1_canEncode_9a6ad, Cond.code yJ1_canEncode_9a6ad cJ1_canEncode_9a6ad 1 (some .boolean), Cond.methodLink RJ1 95 yJ1_indexOfChar_4cfef, Cond.static yJ1_indexOfChar_4cfef, Cond.code yJ1_indexOfChar_4cfef cJ1_indexOfChar_4cfef 6 (some .int), Cond.methodLink RJ0 640 yJ2_indexOf_4cfef, Cond.static yJ2_indexOf_4cfef, Cond.initialized RJ2, Cond.code yJ2_indexOf_4cfef cJ2_indexOf_4cfef 4 (some .int), Cond.methodLink RJ2 224 Lib.Math.max.name, Cond.methodLink RJ2 183 Lib.Math.min.name, Cond.constant RJ2 227 (65536), Cond.methodLink RJ2 228 yJ2_indexOfChar_4cfef, Cond.static yJ2_indexOfChar_4cfef, Cond.code yJ2_indexOfChar_4cfef cJ2_indexOfChar_4cfef 4 (some .int), Cond.methodLink RJ2 96 yJ2_checkBoundsBeginEnd_d044e]
def wsX6_readClauses_r4 : List Cond := [Cond.static yJ2_checkBoundsBeginEnd_d044e, Cond.code yJ2_checkBoundsBeginEnd_d044e cJ2_checkBoundsBeginEnd_d044e 3 none, Cond.methodLink RJ2 48 yJ2_length_9d52b, Cond.static yJ2_length_9d52b, Cond.code yJ2_length_9d52b cJ2_length_9d52b 1 (some .int), Cond.methodLink RJ2 241 yJ0_checkBoundsBeginEnd_23922, Cond.static yJ0_checkBoundsBeginEnd_23922, Cond.code yJ0_checkBoundsBeginEnd_23922 cJ0_checkBoundsBeginEnd_23922 3 none, Cond.fieldLink RJ0 1053 "jdk/internal/util/Preconditions" "SIOOBE_FORMATTER" "Ljava/util/function/BiFunction;", Cond.methodLink RJ0 1062 yJ3_checkFromToIndex_8c36e, Cond.static yJ3_checkFromToIndex_8c36e, Cond.initialized RJ3, Cond.code yJ3_checkFromToIndex_8c36e cJ3_checkFromToIndex_8c36e 4 (some .int), Cond.methodLink RJ2 244 yJ2_indexOfCharUnsafe_4cfef, Cond.static yJ2_indexOfCharUnsafe_4cfef, Cond.code yJ2_indexOfCharUnsafe_4cfef cJ2_indexOfCharUnsafe_4cfef 5 (some .int), Cond.methodLink RJ2 71 yJ2_getChar_3b067, Cond.static yJ2_getChar_3b067, Cond.code yJ2_getChar_3b067 cJ2_getChar_3b067 2 (some .char), Cond.fieldLink RJ2 44 "java/lang/StringUTF16" "$assertionsDisabled" "Z", Cond.fieldLink RJ2 59 "java/lang/StringUTF16" "HI_BYTE_SHIFT" "I", Cond.fieldLink RJ2 63 "java/lang/StringUTF16" "LO_BYTE_SHIFT" "I", Cond.methodLink RJ2 232 yJ2_indexOfSupplementary_4cfef, Cond.static yJ2_indexOfSupplementary_4cfef]
def wsX6_readClauses_r5 : List Cond := [Cond.code yJ2_indexOfSupplementary_4cfef cJ2_indexOfSupplementary_4cfef 7 (some .int), Cond.methodLink RJ2 164 yJ11_isValidCodePoint_9a6ad, Cond.static yJ11_isValidCodePoint_9a6ad, Cond.initialized RJ11, Cond.code yJ11_isValidCodePoint_9a6ad cJ11_isValidCodePoint_9a6ad 2 (some .boolean), Cond.methodLink RJ2 157 yJ11_highSurrogate_5068e, Cond.static yJ11_highSurrogate_5068e, Cond.code yJ11_highSurrogate_5068e cJ11_highSurrogate_5068e 1 (some .char), Cond.constant RJ11 110 (55232), Cond.methodLink RJ2 161 yJ11_lowSurrogate_5068e, Cond.static yJ11_lowSurrogate_5068e, Cond.code yJ11_lowSurrogate_5068e cJ11_lowSurrogate_5068e 1 (some .char), Cond.constant RJ11 76 (56320), Cond.methodLink RX6 58 yX5_isTold, Cond.instanceMethod yX5_isTold, Cond.selects RX5 yX5_isTold yX5_isTold, Cond.initialized RX5, Cond.code yX5_isTold cX5_isTold 1 (some .boolean), Cond.fieldLink RX5 30 "ThreeBelow$Shore" "law" "I", Cond.methodLink RX6 62 yX6_blame, Cond.instanceMethod yX6_blame, Cond.selects RX6 yX6_blame yX6_blame, Cond.code yX6_blame cX6_blame 3 none, Cond.fieldLink RX6 18 "ThreeBelow$ShoreText" "faultAt" "I"]
def wsX6_readClauses_r6 : List Cond := [Cond.methodLink RX6 66 yX5_hasRoomFor, Cond.instanceMethod yX5_hasRoomFor, Cond.selects RX5 yX5_hasRoomFor yX5_hasRoomFor, Cond.code yX5_hasRoomFor cX5_hasRoomFor 2 (some .boolean), Cond.fieldLink RX5 37 "ThreeBelow$Shore" "depths" "I", Cond.fieldLink RX5 40 "ThreeBelow$Shore" "persons" "I", Cond.fieldLink RX5 43 "ThreeBelow$Shore" "goods" "I", Cond.methodLink RX5 46 yX5_isTold, Cond.methodLink RX6 76 yX6_readNumber, Cond.instanceMethod yX6_readNumber, Cond.selects RX6 yX6_readNumber yX6_readNumber, Cond.code yX6_readNumber cX6_readNumber 6 none, Cond.fieldLink RX6 89 "ThreeBelow$ShoreText" "LEAST" "[I", Cond.fieldLink RX6 92 "ThreeBelow$ShoreText" "GREATEST" "[I", Cond.methodLink RX6 86 yX6_isFigure, Cond.instanceMethod yX6_isFigure, Cond.selects RX6 yX6_isFigure yX6_isFigure, Cond.code yX6_isFigure cX6_isFigure 2 (some .boolean), Cond.methodLink RX6 79 yX6_readSemicolon, Cond.instanceMethod yX6_readSemicolon, Cond.selects RX6 yX6_readSemicolon yX6_readSemicolon, Cond.code yX6_readSemicolon cX6_readSemicolon 1 none, Cond.methodLink RX6 82 yX5_add, Cond.instanceMethod yX5_add]
def wsX6_readClauses_r7 : List Cond := [Cond.selects RX5 yX5_add yX5_add, Cond.code yX5_add cX5_add 5 none, Cond.fieldLink RX5 34 "ThreeBelow$Shore" "reign" "I", Cond.fieldLink RX5 9 "ThreeBelow$Shore" "rate" "[I", Cond.fieldLink RX5 15 "ThreeBelow$Shore" "toldAge" "[I", Cond.fieldLink RX5 18 "ThreeBelow$Shore" "lifespan" "[I", Cond.fieldLink RX5 21 "ThreeBelow$Shore" "toldWorth" "[I", Cond.fieldLink RX5 24 "ThreeBelow$Shore" "change" "[I", Cond.fieldLink RX5 27 "ThreeBelow$Shore" "mostWorth" "[I", Cond.methodLink RX5 50 yX5_hasRoomFor]
def wsX6_readClauses : List Cond := .code yX6_readClauses cX6_readClauses 3 none :: ((wsX6_readClauses_r1 ++ (wsX6_readClauses_r2 ++ (wsX6_readClauses_r3 ++ (wsX6_readClauses_r4 ++ (wsX6_readClauses_r5 ++ (wsX6_readClauses_r6 ++ wsX6_readClauses_r7)))))) ++ wsX60 ++ wsX50)
def wsX6_readInto_r1 : List Cond := [Cond.fieldLink RX6 25 "ThreeBelow$ShoreText" "at" "I", Cond.fieldLink RX6 28 "ThreeBelow$ShoreText" "faultNumber" "I", Cond.fieldLink RX6 18 "ThreeBelow$ShoreText" "faultAt" "I", Cond.methodLink RX6 31 yX5_empty, Cond.instanceMethod yX5_empty, Cond.selects RX5 yX5_empty yX5_empty, Cond.initialized RX5, Cond.code yX5_empty cX5_empty 1 none, Cond.fieldLink RX5 30 "ThreeBelow$Shore" "law" "I", Cond.fieldLink RX5 34 "ThreeBelow$Shore" "reign" "I", Cond.fieldLink RX5 37 "ThreeBelow$Shore" "depths" "I", Cond.fieldLink RX5 40 "ThreeBelow$Shore" "persons" "I", Cond.fieldLink RX5 43 "ThreeBelow$Shore" "goods" "I", Cond.methodLink RX6 36 yX6_readClauses, Cond.instanceMethod yX6_readClauses, Cond.selects RX6 yX6_readClauses yX6_readClauses, Cond.initialized RX6, Cond.code yX6_readClauses cX6_readClauses 3 none, Cond.methodLink RX6 40 yX6_skipBlanks, Cond.instanceMethod yX6_skipBlanks, Cond.selects RX6 yX6_skipBlanks yX6_skipBlanks, Cond.code yX6_skipBlanks cX6_skipBlanks 2 none, Cond.methodLink RX6 43 yX6_here, Cond.instanceMethod yX6_here]
def wsX6_readInto_r2 : List Cond := [Cond.selects RX6 yX6_here yX6_here, Cond.code yX6_here cX6_here 1 (some .int), Cond.fieldLink RX6 22 "ThreeBelow$ShoreText" "length" "I", Cond.fieldLink RX6 9 "ThreeBelow$ShoreText" "signs" "[I", Cond.methodLink RX6 47 yX6_readClause, Cond.instanceMethod yX6_readClause, Cond.selects RX6 yX6_readClause yX6_readClause, Cond.code yX6_readClause cX6_readClause 5 none, Cond.fieldLink RX6 70 "ThreeBelow$ShoreText" "NUMBERS_OF_WORD" "[I", Cond.fieldLink RX6 73 "ThreeBelow$ShoreText" "FIRST_BOUND_OF_WORD" "[I", Cond.fieldLink RX6 15 "ThreeBelow$ShoreText" "numbers" "[I", Cond.methodLink RX6 52 yJ0_indexOf_0f7a4, Cond.instanceMethod yJ0_indexOf_0f7a4, Cond.selects RJ0 yJ0_indexOf_0f7a4 yJ0_indexOf_0f7a4, Cond.initialized RJ0, Cond.code yJ0_indexOf_0f7a4 cJ0_indexOf_0f7a4 2 (some .int), Cond.methodLink RJ0 633 yJ0_indexOf_7cf53, Cond.instanceMethod yJ0_indexOf_7cf53, Cond.selects RJ0 yJ0_indexOf_7cf53 yJ0_indexOf_7cf53, Cond.code yJ0_indexOf_7cf53 cJ0_indexOf_7cf53 3 (some .int), Cond.fieldLink RJ0 9 "java/lang/String" "value" "[B", Cond.methodLink RJ0 492 yJ0_isLatin1_aae02, Cond.instanceMethod yJ0_isLatin1_aae02, Cond.selects RJ0 yJ0_isLatin1_aae02 yJ0_isLatin1_aae02]
def wsX6_readInto_r3 : List Cond := [Cond.code yJ0_isLatin1_aae02 cJ0_isLatin1_aae02 1 (some .boolean), Cond.fieldLink RJ0 38 "java/lang/String" "COMPACT_STRINGS" "Z", Cond.fieldLink RJ0 15 "java/lang/String" "coder" "B", Cond.methodLink RJ0 505 yJ0_length_8abf5, Cond.instanceMethod yJ0_length_8abf5, Cond.selects RJ0 yJ0_length_8abf5 yJ0_length_8abf5, Cond.code yJ0_length_8abf5 cJ0_length_8abf5 1 (some .int), Cond.methodLink RJ0 335 yJ0_coder_7d493, Cond.instanceMethod yJ0_coder_7d493, Cond.selects RJ0 yJ0_coder_7d493 yJ0_coder_7d493, Cond.code yJ0_coder_7d493 cJ0_coder_7d493 1 (some .byte), Cond.methodLink RJ0 637 yJ1_indexOf_4cfef, Cond.static yJ1_indexOf_4cfef, Cond.initialized RJ1, Cond.code yJ1_indexOf_4cfef cJ1_indexOf_4cfef 4 (some .int), Cond.methodLink RJ1 92 Lib.Math.max.name, Cond.static Lib.Math.max.name, Cond.initialized "java/lang/Math", Cond.code Lib.Math.max.name Lib.Math.max.code 2 (some .int), Cond.methodLink RJ1 38 Lib.Math.min.name, Cond.static Lib.Math.min.name, Cond.code Lib.Math.min.name Lib.Math.min.code 2 (some .int), Cond.methodLink RJ1 88 yJ1_canEncode_9a6ad, Cond.static yJ1_canEncode_9a6ad]
def wsX6_readInto_r4 : List Cond := [Cond.code yJ1_canEncode_9a6ad cJ1_canEncode_9a6ad 1 (some .boolean), Cond.methodLink RJ1 95 yJ1_indexOfChar_4cfef, Cond.static yJ1_indexOfChar_4cfef, Cond.code yJ1_indexOfChar_4cfef cJ1_indexOfChar_4cfef 6 (some .int), Cond.methodLink RJ0 640 yJ2_indexOf_4cfef, Cond.static yJ2_indexOf_4cfef, Cond.initialized RJ2, Cond.code yJ2_indexOf_4cfef cJ2_indexOf_4cfef 4 (some .int), Cond.methodLink RJ2 224 Lib.Math.max.name, Cond.methodLink RJ2 183 Lib.Math.min.name, Cond.constant RJ2 227 (65536), Cond.methodLink RJ2 228 yJ2_indexOfChar_4cfef, Cond.static yJ2_indexOfChar_4cfef, Cond.code yJ2_indexOfChar_4cfef cJ2_indexOfChar_4cfef 4 (some .int), Cond.methodLink RJ2 96 yJ2_checkBoundsBeginEnd_d044e, Cond.static yJ2_checkBoundsBeginEnd_d044e, Cond.code yJ2_checkBoundsBeginEnd_d044e cJ2_checkBoundsBeginEnd_d044e 3 none, Cond.methodLink RJ2 48 yJ2_length_9d52b, Cond.static yJ2_length_9d52b, Cond.code yJ2_length_9d52b cJ2_length_9d52b 1 (some .int), Cond.methodLink RJ2 241 yJ0_checkBoundsBeginEnd_23922, Cond.static yJ0_checkBoundsBeginEnd_23922, Cond.code yJ0_checkBoundsBeginEnd_23922 cJ0_checkBoundsBeginEnd_23922 3 none, Cond.fieldLink RJ0 1053 "jdk/internal/util/Preconditions" "SIOOBE_FORMATTER" "Ljava/util/function/BiFunction;"]
def wsX6_readInto_r5 : List Cond := [Cond.methodLink RJ0 1062 yJ3_checkFromToIndex_8c36e, Cond.static yJ3_checkFromToIndex_8c36e, Cond.initialized RJ3, Cond.code yJ3_checkFromToIndex_8c36e cJ3_checkFromToIndex_8c36e 4 (some .int), Cond.methodLink RJ2 244 yJ2_indexOfCharUnsafe_4cfef, Cond.static yJ2_indexOfCharUnsafe_4cfef, Cond.code yJ2_indexOfCharUnsafe_4cfef cJ2_indexOfCharUnsafe_4cfef 5 (some .int), Cond.methodLink RJ2 71 yJ2_getChar_3b067, Cond.static yJ2_getChar_3b067, Cond.code yJ2_getChar_3b067 cJ2_getChar_3b067 2 (some .char), Cond.fieldLink RJ2 44 "java/lang/StringUTF16" "$assertionsDisabled" "Z", Cond.fieldLink RJ2 59 "java/lang/StringUTF16" "HI_BYTE_SHIFT" "I", Cond.fieldLink RJ2 63 "java/lang/StringUTF16" "LO_BYTE_SHIFT" "I", Cond.methodLink RJ2 232 yJ2_indexOfSupplementary_4cfef, Cond.static yJ2_indexOfSupplementary_4cfef, Cond.code yJ2_indexOfSupplementary_4cfef cJ2_indexOfSupplementary_4cfef 7 (some .int), Cond.methodLink RJ2 164 yJ11_isValidCodePoint_9a6ad, Cond.static yJ11_isValidCodePoint_9a6ad, Cond.initialized RJ11, Cond.code yJ11_isValidCodePoint_9a6ad cJ11_isValidCodePoint_9a6ad 2 (some .boolean), Cond.methodLink RJ2 157 yJ11_highSurrogate_5068e, Cond.static yJ11_highSurrogate_5068e, Cond.code yJ11_highSurrogate_5068e cJ11_highSurrogate_5068e 1 (some .char), Cond.constant RJ11 110 (55232)]
def wsX6_readInto_r6 : List Cond := [Cond.methodLink RJ2 161 yJ11_lowSurrogate_5068e, Cond.static yJ11_lowSurrogate_5068e, Cond.code yJ11_lowSurrogate_5068e cJ11_lowSurrogate_5068e 1 (some .char), Cond.constant RJ11 76 (56320), Cond.methodLink RX6 58 yX5_isTold, Cond.instanceMethod yX5_isTold, Cond.selects RX5 yX5_isTold yX5_isTold, Cond.code yX5_isTold cX5_isTold 1 (some .boolean), Cond.methodLink RX6 62 yX6_blame, Cond.instanceMethod yX6_blame, Cond.selects RX6 yX6_blame yX6_blame, Cond.code yX6_blame cX6_blame 3 none, Cond.methodLink RX6 66 yX5_hasRoomFor, Cond.instanceMethod yX5_hasRoomFor, Cond.selects RX5 yX5_hasRoomFor yX5_hasRoomFor, Cond.code yX5_hasRoomFor cX5_hasRoomFor 2 (some .boolean), Cond.methodLink RX5 46 yX5_isTold, Cond.methodLink RX6 76 yX6_readNumber, Cond.instanceMethod yX6_readNumber, Cond.selects RX6 yX6_readNumber yX6_readNumber, Cond.code yX6_readNumber cX6_readNumber 6 none, Cond.fieldLink RX6 89 "ThreeBelow$ShoreText" "LEAST" "[I", Cond.fieldLink RX6 92 "ThreeBelow$ShoreText" "GREATEST" "[I", Cond.methodLink RX6 86 yX6_isFigure]
def wsX6_readInto_r7 : List Cond := [Cond.instanceMethod yX6_isFigure, Cond.selects RX6 yX6_isFigure yX6_isFigure, Cond.code yX6_isFigure cX6_isFigure 2 (some .boolean), Cond.methodLink RX6 79 yX6_readSemicolon, Cond.instanceMethod yX6_readSemicolon, Cond.selects RX6 yX6_readSemicolon yX6_readSemicolon, Cond.code yX6_readSemicolon cX6_readSemicolon 1 none, Cond.methodLink RX6 82 yX5_add, Cond.instanceMethod yX5_add, Cond.selects RX5 yX5_add yX5_add, Cond.code yX5_add cX5_add 5 none, Cond.fieldLink RX5 9 "ThreeBelow$Shore" "rate" "[I", Cond.fieldLink RX5 15 "ThreeBelow$Shore" "toldAge" "[I", Cond.fieldLink RX5 18 "ThreeBelow$Shore" "lifespan" "[I", Cond.fieldLink RX5 21 "ThreeBelow$Shore" "toldWorth" "[I", Cond.fieldLink RX5 24 "ThreeBelow$Shore" "change" "[I", Cond.fieldLink RX5 27 "ThreeBelow$Shore" "mostWorth" "[I", Cond.methodLink RX5 50 yX5_hasRoomFor]
def wsX6_readInto : List Cond := .code yX6_readInto cX6_readInto 2 none :: ((wsX6_readInto_r1 ++ (wsX6_readInto_r2 ++ (wsX6_readInto_r3 ++ (wsX6_readInto_r4 ++ (wsX6_readInto_r5 ++ (wsX6_readInto_r6 ++ wsX6_readInto_r7)))))) ++ wsX60 ++ wsX50)
def wsX7_init_r1 : List Cond := [Cond.methodLink RX7 1 objectInit, Cond.instanceMethod objectInit, Cond.code objectInit ⟨#[0xb1]⟩ 1 none, Cond.classLink RX7 7 RX6, Cond.instantiable RX6 6, Cond.initialized RX6, Cond.fieldLink RX7 10 "ThreeBelow" "text" "LThreeBelow$ShoreText;", Cond.classLink RX7 16 RX5, Cond.instantiable RX5 11, Cond.initialized RX5, Cond.fieldLink RX7 19 "ThreeBelow" "land" "LThreeBelow$Shore;", Cond.fieldLink RX7 23 "ThreeBelow" "draft" "LThreeBelow$Shore;", Cond.classLink RX7 26 RX3, Cond.instantiable RX3 1, Cond.initialized RX3, Cond.fieldLink RX7 29 "ThreeBelow" "life" "LThreeBelow$Life;", Cond.classLink RX7 33 RX4, Cond.instantiable RX4 3, Cond.initialized RX4, Cond.fieldLink RX7 36 "ThreeBelow" "past" "LThreeBelow$Past;", Cond.classLink RX7 40 RX2, Cond.instantiable RX2 3, Cond.initialized RX2, Cond.fieldLink RX7 43 "ThreeBelow" "images" "LThreeBelow$Images;"]
def wsX7_init_r2 : List Cond := [Cond.classLink RX7 47 RX1, Cond.instantiable RX1 9, Cond.initialized RX1, Cond.fieldLink RX7 50 "ThreeBelow" "finds" "LThreeBelow$Finds;", Cond.classLink RX7 54 RX0, Cond.instantiable RX0 3, Cond.initialized RX0, Cond.fieldLink RX7 57 "ThreeBelow" "book" "LThreeBelow$Book;", Cond.instanceMethod yX6_init, Cond.code yX6_init cX6_init 1 none, Cond.methodLink RX6 3 objectInit, Cond.arrayClass .int, Cond.fieldLink RX6 9 "ThreeBelow$ShoreText" "signs" "[I", Cond.fieldLink RX6 15 "ThreeBelow$ShoreText" "numbers" "[I", Cond.fieldLink RX6 18 "ThreeBelow$ShoreText" "faultAt" "I", Cond.instanceMethod yX5_init, Cond.code yX5_init cX5_init 1 none, Cond.methodLink RX5 3 objectInit, Cond.fieldLink RX5 9 "ThreeBelow$Shore" "rate" "[I", Cond.fieldLink RX5 15 "ThreeBelow$Shore" "toldAge" "[I", Cond.fieldLink RX5 18 "ThreeBelow$Shore" "lifespan" "[I", Cond.fieldLink RX5 21 "ThreeBelow$Shore" "toldWorth" "[I", Cond.fieldLink RX5 24 "ThreeBelow$Shore" "change" "[I", Cond.fieldLink RX5 27 "ThreeBelow$Shore" "mostWorth" "[I"]
def wsX7_init_r3 : List Cond := [Cond.instanceMethod yX3_init, Cond.code yX3_init cX3_init 1 none, Cond.methodLink RX3 5 objectInit, Cond.fieldLink RX3 11 "ThreeBelow$Life" "row" "[I", Cond.instanceMethod yX4_init, Cond.code yX4_init cX4_init 1 none, Cond.methodLink RX4 1 objectInit, Cond.classLink RX4 11 "[[I", Cond.fieldLink RX4 13 "ThreeBelow$Past" "rows" "[[I", Cond.instanceMethod yX2_init, Cond.code yX2_init cX2_init 1 none, Cond.methodLink RX2 1 objectInit, Cond.classLink RX2 11 "[[I", Cond.fieldLink RX2 13 "ThreeBelow$Images" "rows" "[[I", Cond.fieldLink RX2 16 "ThreeBelow$Images" "seeds" "[I", Cond.arrayClass .boolean, Cond.fieldLink RX2 20 "ThreeBelow$Images" "isKept" "[Z", Cond.instanceMethod yX1_init, Cond.code yX1_init cX1_init 1 none, Cond.methodLink RX1 5 objectInit, Cond.fieldLink RX1 11 "ThreeBelow$Finds" "kinds" "[I", Cond.fieldLink RX1 15 "ThreeBelow$Finds" "numbers" "[I", Cond.fieldLink RX1 18 "ThreeBelow$Finds" "values" "[I", Cond.classLink RX1 21 "[[I"]
def wsX7_init_r4 : List Cond := [Cond.fieldLink RX1 23 "ThreeBelow$Finds" "worthThen" "[[I", Cond.fieldLink RX1 26 "ThreeBelow$Finds" "fit" "[I", Cond.instanceMethod yX0_init, Cond.code yX0_init cX0_init 1 none, Cond.methodLink RX0 3 objectInit, Cond.fieldLink RX0 11 "ThreeBelow$Book" "who" "[I", Cond.fieldLink RX0 15 "ThreeBelow$Book" "ages" "[I"]
def wsX7_init : List Cond := .code yX7_init cX7_init 1 none :: ((wsX7_init_r1 ++ (wsX7_init_r2 ++ (wsX7_init_r3 ++ wsX7_init_r4))) ++ wsX60 ++ wsX70 ++ wsX50 ++ wsX30 ++ wsX40 ++ wsX20 ++ wsX10 ++ wsX00)
def wsX7_feed : List Cond := .code yX7_feed cX7_feed 2 (some .int) :: ([.constant RX7 61 (-1000000002), .fieldLink RX7 10 "ThreeBelow" "text" "LThreeBelow$ShoreText;", .fieldLink RX7 62 "ThreeBelow$ShoreText" "length" "I", .constant RX7 66 (-1000000004), .methodLink RX7 67 yX6_add, .instanceMethod yX6_add, .selects RX6 yX6_add yX6_add, .initialized RX6, .code yX6_add cX6_add 2 none, .fieldLink RX6 22 "ThreeBelow$ShoreText" "length" "I", .fieldLink RX6 9 "ThreeBelow$ShoreText" "signs" "[I"] ++ wsX70 ++ wsX60)
def wsX7_shore_r1 : List Cond := [Cond.fieldLink RX7 10 "ThreeBelow" "text" "LThreeBelow$ShoreText;", Cond.fieldLink RX7 23 "ThreeBelow" "draft" "LThreeBelow$Shore;", Cond.fieldLink RX7 78 "ThreeBelow$ShoreText" "faultNumber" "I", Cond.fieldLink RX7 19 "ThreeBelow" "land" "LThreeBelow$Shore;", Cond.fieldLink RX7 29 "ThreeBelow" "life" "LThreeBelow$Life;", Cond.fieldLink RX7 36 "ThreeBelow" "past" "LThreeBelow$Past;", Cond.fieldLink RX7 43 "ThreeBelow" "images" "LThreeBelow$Images;", Cond.fieldLink RX7 50 "ThreeBelow" "finds" "LThreeBelow$Finds;", Cond.fieldLink RX7 57 "ThreeBelow" "book" "LThreeBelow$Book;", Cond.fieldLink RX7 92 "ThreeBelow$Shore" "persons" "I", Cond.methodLink RX7 71 yX6_readInto, Cond.instanceMethod yX6_readInto, Cond.selects RX6 yX6_readInto yX6_readInto, Cond.initialized RX6, Cond.code yX6_readInto cX6_readInto 2 none, Cond.fieldLink RX6 25 "ThreeBelow$ShoreText" "at" "I", Cond.fieldLink RX6 28 "ThreeBelow$ShoreText" "faultNumber" "I", Cond.fieldLink RX6 18 "ThreeBelow$ShoreText" "faultAt" "I", Cond.methodLink RX6 31 yX5_empty, Cond.instanceMethod yX5_empty, Cond.selects RX5 yX5_empty yX5_empty, Cond.initialized RX5, Cond.code yX5_empty cX5_empty 1 none, Cond.fieldLink RX5 30 "ThreeBelow$Shore" "law" "I"]
def wsX7_shore_r2 : List Cond := [Cond.fieldLink RX5 34 "ThreeBelow$Shore" "reign" "I", Cond.fieldLink RX5 37 "ThreeBelow$Shore" "depths" "I", Cond.fieldLink RX5 40 "ThreeBelow$Shore" "persons" "I", Cond.fieldLink RX5 43 "ThreeBelow$Shore" "goods" "I", Cond.methodLink RX6 36 yX6_readClauses, Cond.instanceMethod yX6_readClauses, Cond.selects RX6 yX6_readClauses yX6_readClauses, Cond.code yX6_readClauses cX6_readClauses 3 none, Cond.methodLink RX6 40 yX6_skipBlanks, Cond.instanceMethod yX6_skipBlanks, Cond.selects RX6 yX6_skipBlanks yX6_skipBlanks, Cond.code yX6_skipBlanks cX6_skipBlanks 2 none, Cond.methodLink RX6 43 yX6_here, Cond.instanceMethod yX6_here, Cond.selects RX6 yX6_here yX6_here, Cond.code yX6_here cX6_here 1 (some .int), Cond.fieldLink RX6 22 "ThreeBelow$ShoreText" "length" "I", Cond.fieldLink RX6 9 "ThreeBelow$ShoreText" "signs" "[I", Cond.methodLink RX6 47 yX6_readClause, Cond.instanceMethod yX6_readClause, Cond.selects RX6 yX6_readClause yX6_readClause, Cond.code yX6_readClause cX6_readClause 5 none, Cond.fieldLink RX6 70 "ThreeBelow$ShoreText" "NUMBERS_OF_WORD" "[I", Cond.fieldLink RX6 73 "ThreeBelow$ShoreText" "FIRST_BOUND_OF_WORD" "[I"]
def wsX7_shore_r3 : List Cond := [Cond.fieldLink RX6 15 "ThreeBelow$ShoreText" "numbers" "[I", Cond.methodLink RX6 52 yJ0_indexOf_0f7a4, Cond.instanceMethod yJ0_indexOf_0f7a4, Cond.selects RJ0 yJ0_indexOf_0f7a4 yJ0_indexOf_0f7a4, Cond.initialized RJ0, Cond.code yJ0_indexOf_0f7a4 cJ0_indexOf_0f7a4 2 (some .int), Cond.methodLink RJ0 633 yJ0_indexOf_7cf53, Cond.instanceMethod yJ0_indexOf_7cf53, Cond.selects RJ0 yJ0_indexOf_7cf53 yJ0_indexOf_7cf53, Cond.code yJ0_indexOf_7cf53 cJ0_indexOf_7cf53 3 (some .int), Cond.fieldLink RJ0 9 "java/lang/String" "value" "[B", Cond.methodLink RJ0 492 yJ0_isLatin1_aae02, Cond.instanceMethod yJ0_isLatin1_aae02, Cond.selects RJ0 yJ0_isLatin1_aae02 yJ0_isLatin1_aae02, Cond.code yJ0_isLatin1_aae02 cJ0_isLatin1_aae02 1 (some .boolean), Cond.fieldLink RJ0 38 "java/lang/String" "COMPACT_STRINGS" "Z", Cond.fieldLink RJ0 15 "java/lang/String" "coder" "B", Cond.methodLink RJ0 505 yJ0_length_8abf5, Cond.instanceMethod yJ0_length_8abf5, Cond.selects RJ0 yJ0_length_8abf5 yJ0_length_8abf5, Cond.code yJ0_length_8abf5 cJ0_length_8abf5 1 (some .int), Cond.methodLink RJ0 335 yJ0_coder_7d493, Cond.instanceMethod yJ0_coder_7d493, Cond.selects RJ0 yJ0_coder_7d493 yJ0_coder_7d493]
def wsX7_shore_r4 : List Cond := [Cond.code yJ0_coder_7d493 cJ0_coder_7d493 1 (some .byte), Cond.methodLink RJ0 637 yJ1_indexOf_4cfef, Cond.static yJ1_indexOf_4cfef, Cond.initialized RJ1, Cond.code yJ1_indexOf_4cfef cJ1_indexOf_4cfef 4 (some .int), Cond.methodLink RJ1 92 Lib.Math.max.name, Cond.static Lib.Math.max.name, Cond.initialized "java/lang/Math", Cond.code Lib.Math.max.name Lib.Math.max.code 2 (some .int), Cond.methodLink RJ1 38 Lib.Math.min.name, Cond.static Lib.Math.min.name, Cond.code Lib.Math.min.name Lib.Math.min.code 2 (some .int), Cond.methodLink RJ1 88 yJ1_canEncode_9a6ad, Cond.static yJ1_canEncode_9a6ad, Cond.code yJ1_canEncode_9a6ad cJ1_canEncode_9a6ad 1 (some .boolean), Cond.methodLink RJ1 95 yJ1_indexOfChar_4cfef, Cond.static yJ1_indexOfChar_4cfef, Cond.code yJ1_indexOfChar_4cfef cJ1_indexOfChar_4cfef 6 (some .int), Cond.methodLink RJ0 640 yJ2_indexOf_4cfef, Cond.static yJ2_indexOf_4cfef, Cond.initialized RJ2, Cond.code yJ2_indexOf_4cfef cJ2_indexOf_4cfef 4 (some .int), Cond.methodLink RJ2 224 Lib.Math.max.name, Cond.methodLink RJ2 183 Lib.Math.min.name]
def wsX7_shore_r5 : List Cond := [Cond.constant RJ2 227 (65536), Cond.methodLink RJ2 228 yJ2_indexOfChar_4cfef, Cond.static yJ2_indexOfChar_4cfef, Cond.code yJ2_indexOfChar_4cfef cJ2_indexOfChar_4cfef 4 (some .int), Cond.methodLink RJ2 96 yJ2_checkBoundsBeginEnd_d044e, Cond.static yJ2_checkBoundsBeginEnd_d044e, Cond.code yJ2_checkBoundsBeginEnd_d044e cJ2_checkBoundsBeginEnd_d044e 3 none, Cond.methodLink RJ2 48 yJ2_length_9d52b, Cond.static yJ2_length_9d52b, Cond.code yJ2_length_9d52b cJ2_length_9d52b 1 (some .int), Cond.methodLink RJ2 241 yJ0_checkBoundsBeginEnd_23922, Cond.static yJ0_checkBoundsBeginEnd_23922, Cond.code yJ0_checkBoundsBeginEnd_23922 cJ0_checkBoundsBeginEnd_23922 3 none, Cond.fieldLink RJ0 1053 "jdk/internal/util/Preconditions" "SIOOBE_FORMATTER" "Ljava/util/function/BiFunction;", Cond.methodLink RJ0 1062 yJ3_checkFromToIndex_8c36e, Cond.static yJ3_checkFromToIndex_8c36e, Cond.initialized RJ3, Cond.code yJ3_checkFromToIndex_8c36e cJ3_checkFromToIndex_8c36e 4 (some .int), Cond.methodLink RJ2 244 yJ2_indexOfCharUnsafe_4cfef, Cond.static yJ2_indexOfCharUnsafe_4cfef, Cond.code yJ2_indexOfCharUnsafe_4cfef cJ2_indexOfCharUnsafe_4cfef 5 (some .int), Cond.methodLink RJ2 71 yJ2_getChar_3b067, Cond.static yJ2_getChar_3b067, Cond.code yJ2_getChar_3b067 cJ2_getChar_3b067 2 (some .char)]
def wsX7_shore_r6 : List Cond := [Cond.fieldLink RJ2 44 "java/lang/StringUTF16" "$assertionsDisabled" "Z", Cond.fieldLink RJ2 59 "java/lang/StringUTF16" "HI_BYTE_SHIFT" "I", Cond.fieldLink RJ2 63 "java/lang/StringUTF16" "LO_BYTE_SHIFT" "I", Cond.methodLink RJ2 232 yJ2_indexOfSupplementary_4cfef, Cond.static yJ2_indexOfSupplementary_4cfef, Cond.code yJ2_indexOfSupplementary_4cfef cJ2_indexOfSupplementary_4cfef 7 (some .int), Cond.methodLink RJ2 164 yJ11_isValidCodePoint_9a6ad, Cond.static yJ11_isValidCodePoint_9a6ad, Cond.initialized RJ11, Cond.code yJ11_isValidCodePoint_9a6ad cJ11_isValidCodePoint_9a6ad 2 (some .boolean), Cond.methodLink RJ2 157 yJ11_highSurrogate_5068e, Cond.static yJ11_highSurrogate_5068e, Cond.code yJ11_highSurrogate_5068e cJ11_highSurrogate_5068e 1 (some .char), Cond.constant RJ11 110 (55232), Cond.methodLink RJ2 161 yJ11_lowSurrogate_5068e, Cond.static yJ11_lowSurrogate_5068e, Cond.code yJ11_lowSurrogate_5068e cJ11_lowSurrogate_5068e 1 (some .char), Cond.constant RJ11 76 (56320), Cond.methodLink RX6 58 yX5_isTold, Cond.instanceMethod yX5_isTold, Cond.selects RX5 yX5_isTold yX5_isTold, Cond.code yX5_isTold cX5_isTold 1 (some .boolean), Cond.methodLink RX6 62 yX6_blame, Cond.instanceMethod yX6_blame]
def wsX7_shore_r7 : List Cond := [Cond.selects RX6 yX6_blame yX6_blame, Cond.code yX6_blame cX6_blame 3 none, Cond.methodLink RX6 66 yX5_hasRoomFor, Cond.instanceMethod yX5_hasRoomFor, Cond.selects RX5 yX5_hasRoomFor yX5_hasRoomFor, Cond.code yX5_hasRoomFor cX5_hasRoomFor 2 (some .boolean), Cond.methodLink RX5 46 yX5_isTold, Cond.methodLink RX6 76 yX6_readNumber, Cond.instanceMethod yX6_readNumber, Cond.selects RX6 yX6_readNumber yX6_readNumber, Cond.code yX6_readNumber cX6_readNumber 6 none, Cond.fieldLink RX6 89 "ThreeBelow$ShoreText" "LEAST" "[I", Cond.fieldLink RX6 92 "ThreeBelow$ShoreText" "GREATEST" "[I", Cond.methodLink RX6 86 yX6_isFigure, Cond.instanceMethod yX6_isFigure, Cond.selects RX6 yX6_isFigure yX6_isFigure, Cond.code yX6_isFigure cX6_isFigure 2 (some .boolean), Cond.methodLink RX6 79 yX6_readSemicolon, Cond.instanceMethod yX6_readSemicolon, Cond.selects RX6 yX6_readSemicolon yX6_readSemicolon, Cond.code yX6_readSemicolon cX6_readSemicolon 1 none, Cond.methodLink RX6 82 yX5_add, Cond.instanceMethod yX5_add, Cond.selects RX5 yX5_add yX5_add]
def wsX7_shore_r8 : List Cond := [Cond.code yX5_add cX5_add 5 none, Cond.fieldLink RX5 9 "ThreeBelow$Shore" "rate" "[I", Cond.fieldLink RX5 15 "ThreeBelow$Shore" "toldAge" "[I", Cond.fieldLink RX5 18 "ThreeBelow$Shore" "lifespan" "[I", Cond.fieldLink RX5 21 "ThreeBelow$Shore" "toldWorth" "[I", Cond.fieldLink RX5 24 "ThreeBelow$Shore" "change" "[I", Cond.fieldLink RX5 27 "ThreeBelow$Shore" "mostWorth" "[I", Cond.methodLink RX5 50 yX5_hasRoomFor, Cond.methodLink RX7 75 yX6_empty, Cond.instanceMethod yX6_empty, Cond.selects RX6 yX6_empty yX6_empty, Cond.code yX6_empty cX6_empty 1 none, Cond.methodLink RX7 81 yX3_begin, Cond.instanceMethod yX3_begin, Cond.selects RX3 yX3_begin yX3_begin, Cond.initialized RX3, Cond.code yX3_begin cX3_begin 3 none, Cond.fieldLink RX3 11 "ThreeBelow$Life" "row" "[I", Cond.fieldLink RX3 15 "ThreeBelow$Shore" "persons" "I", Cond.fieldLink RX3 21 "ThreeBelow$Shore" "toldAge" "[I", Cond.fieldLink RX3 28 "ThreeBelow$Shore" "goods" "I", Cond.fieldLink RX3 31 "ThreeBelow$Shore" "toldWorth" "[I", Cond.methodLink RX3 24 yX3_buryIfOld, Cond.instanceMethod yX3_buryIfOld]
def wsX7_shore_r9 : List Cond := [Cond.selects RX3 yX3_buryIfOld yX3_buryIfOld, Cond.code yX3_buryIfOld cX3_buryIfOld 3 none, Cond.fieldLink RX3 66 "ThreeBelow$Shore" "lifespan" "[I", Cond.methodLink RX7 84 yX4_forget, Cond.instanceMethod yX4_forget, Cond.selects RX4 yX4_forget yX4_forget, Cond.initialized RX4, Cond.code yX4_forget cX4_forget 1 none, Cond.fieldLink RX4 16 "ThreeBelow$Past" "count" "I", Cond.methodLink RX7 87 yX2_forget, Cond.instanceMethod yX2_forget, Cond.selects RX2 yX2_forget yX2_forget, Cond.initialized RX2, Cond.code yX2_forget cX2_forget 2 none, Cond.fieldLink RX2 20 "ThreeBelow$Images" "isKept" "[Z", Cond.methodLink RX7 88 yX1_beginAnew, Cond.instanceMethod yX1_beginAnew, Cond.selects RX1 yX1_beginAnew yX1_beginAnew, Cond.initialized RX1, Cond.code yX1_beginAnew cX1_beginAnew 1 none, Cond.fieldLink RX1 29 "ThreeBelow$Finds" "isCounted" "Z", Cond.methodLink RX1 33 yX1_empty, Cond.instanceMethod yX1_empty, Cond.selects RX1 yX1_empty yX1_empty]
def wsX7_shore_r10 : List Cond := [Cond.code yX1_empty cX1_empty 1 none, Cond.fieldLink RX1 36 "ThreeBelow$Finds" "count" "I", Cond.fieldLink RX1 40 "ThreeBelow$Finds" "isSought" "Z", Cond.methodLink RX7 91 yX0_empty, Cond.instanceMethod yX0_empty, Cond.selects RX0 yX0_empty yX0_empty, Cond.initialized RX0, Cond.code yX0_empty cX0_empty 1 none, Cond.fieldLink RX0 18 "ThreeBelow$Book" "count" "I"]
def wsX7_shore : List Cond := .code yX7_shore cX7_shore 2 (some .int) :: ((wsX7_shore_r1 ++ (wsX7_shore_r2 ++ (wsX7_shore_r3 ++ (wsX7_shore_r4 ++ (wsX7_shore_r5 ++ (wsX7_shore_r6 ++ (wsX7_shore_r7 ++ (wsX7_shore_r8 ++ (wsX7_shore_r9 ++ wsX7_shore_r10))))))))) ++ wsX70 ++ wsX60 ++ wsX50 ++ wsX30 ++ wsX40 ++ wsX20 ++ wsX10 ++ wsX00)
def wsX7_fault : List Cond := .code yX7_fault cX7_fault 1 (some .int) :: ([.fieldLink RX7 10 "ThreeBelow" "text" "LThreeBelow$ShoreText;", .fieldLink RX7 95 "ThreeBelow$ShoreText" "faultAt" "I"] ++ wsX70 ++ wsX60)
def wsX7_told_r1 : List Cond := [Cond.fieldLink RX7 19 "ThreeBelow" "land" "LThreeBelow$Shore;", Cond.fieldLink RX7 98 "ThreeBelow$Shore" "law" "I", Cond.fieldLink RX7 101 "ThreeBelow$Shore" "reign" "I", Cond.fieldLink RX7 104 "ThreeBelow$Shore" "depths" "I", Cond.fieldLink RX7 92 "ThreeBelow$Shore" "persons" "I", Cond.fieldLink RX7 107 "ThreeBelow$Shore" "goods" "I", Cond.fieldLink RX7 10 "ThreeBelow" "text" "LThreeBelow$ShoreText;", Cond.fieldLink RX7 62 "ThreeBelow$ShoreText" "length" "I", Cond.fieldLink RX7 29 "ThreeBelow" "life" "LThreeBelow$Life;", Cond.fieldLink RX7 50 "ThreeBelow" "finds" "LThreeBelow$Finds;", Cond.fieldLink RX7 126 "ThreeBelow$Finds" "count" "I", Cond.fieldLink RX7 57 "ThreeBelow" "book" "LThreeBelow$Book;", Cond.fieldLink RX7 129 "ThreeBelow$Book" "count" "I", Cond.fieldLink RX7 36 "ThreeBelow" "past" "LThreeBelow$Past;", Cond.fieldLink RX7 130 "ThreeBelow$Past" "count" "I", Cond.constant RX7 61 (-1000000002), Cond.methodLink RX7 110 yX3_years, Cond.instanceMethod yX3_years, Cond.selects RX3 yX3_years yX3_years, Cond.initialized RX3, Cond.code yX3_years cX3_years 1 (some .int), Cond.fieldLink RX3 11 "ThreeBelow$Life" "row" "[I", Cond.methodLink RX7 114 yX5_kingAt, Cond.instanceMethod yX5_kingAt]
def wsX7_told_r2 : List Cond := [Cond.selects RX5 yX5_kingAt yX5_kingAt, Cond.initialized RX5, Cond.code yX5_kingAt cX5_kingAt 2 (some .int), Cond.fieldLink RX5 34 "ThreeBelow$Shore" "reign" "I", Cond.methodLink RX7 118 yX3_deadOnes, Cond.instanceMethod yX3_deadOnes, Cond.selects RX3 yX3_deadOnes yX3_deadOnes, Cond.code yX3_deadOnes cX3_deadOnes 4 (some .int), Cond.fieldLink RX3 15 "ThreeBelow$Shore" "persons" "I", Cond.methodLink RX3 53 yX3_place, Cond.instanceMethod yX3_place, Cond.selects RX3 yX3_place yX3_place, Cond.code yX3_place cX3_place 2 (some .int), Cond.methodLink RX3 46 yX3_isPerson, Cond.static yX3_isPerson, Cond.code yX3_isPerson cX3_isPerson 1 (some .boolean), Cond.methodLink RX7 122 yX3_stayersOf, Cond.instanceMethod yX3_stayersOf, Cond.selects RX3 yX3_stayersOf yX3_stayersOf, Cond.code yX3_stayersOf cX3_stayersOf 5 (some .int), Cond.methodLink RX3 57 yX3_isBelow, Cond.instanceMethod yX3_isBelow, Cond.selects RX3 yX3_isBelow yX3_isBelow, Cond.code yX3_isBelow cX3_isBelow 2 (some .boolean)]
def wsX7_told : List Cond := .code yX7_told cX7_told 2 (some .int) :: ((wsX7_told_r1 ++ wsX7_told_r2) ++ wsX70 ++ wsX50 ++ wsX60 ++ wsX10 ++ wsX00 ++ wsX40 ++ wsX30)
def wsX7_depth : List Cond := .code yX7_depth cX7_depth 2 (some .int) :: ([.fieldLink RX7 19 "ThreeBelow" "land" "LThreeBelow$Shore;", .fieldLink RX7 135 "ThreeBelow$Shore" "rate" "[I", .constant RX7 139 (-1000000001), .methodLink RX7 131 yX5_hasDepth, .instanceMethod yX5_hasDepth, .selects RX5 yX5_hasDepth yX5_hasDepth, .initialized RX5, .code yX5_hasDepth cX5_hasDepth 2 (some .boolean), .fieldLink RX5 37 "ThreeBelow$Shore" "depths" "I"] ++ wsX70 ++ wsX50)
def wsX7_person_r1 : List Cond := [Cond.fieldLink RX7 19 "ThreeBelow" "land" "LThreeBelow$Shore;", Cond.constant RX7 139 (-1000000001), Cond.fieldLink RX7 29 "ThreeBelow" "life" "LThreeBelow$Life;", Cond.fieldLink RX7 146 "ThreeBelow$Shore" "lifespan" "[I", Cond.constant RX7 61 (-1000000002), Cond.methodLink RX7 140 yX5_hasPerson, Cond.instanceMethod yX5_hasPerson, Cond.selects RX5 yX5_hasPerson yX5_hasPerson, Cond.initialized RX5, Cond.code yX5_hasPerson cX5_hasPerson 2 (some .boolean), Cond.fieldLink RX5 40 "ThreeBelow$Shore" "persons" "I", Cond.methodLink RX7 143 yX3_age, Cond.instanceMethod yX3_age, Cond.selects RX3 yX3_age yX3_age, Cond.initialized RX3, Cond.code yX3_age cX3_age 2 (some .int), Cond.fieldLink RX3 11 "ThreeBelow$Life" "row" "[I", Cond.methodLink RX3 46 yX3_isPerson, Cond.static yX3_isPerson, Cond.code yX3_isPerson cX3_isPerson 1 (some .boolean), Cond.methodLink RX7 149 yX3_place, Cond.instanceMethod yX3_place, Cond.selects RX3 yX3_place yX3_place, Cond.code yX3_place cX3_place 2 (some .int)]
def wsX7_person_r2 : List Cond := [Cond.methodLink RX7 152 yX3_box, Cond.instanceMethod yX3_box, Cond.selects RX3 yX3_box yX3_box, Cond.code yX3_box cX3_box 2 (some .int), Cond.methodLink RX7 155 yX3_daysBelow, Cond.instanceMethod yX3_daysBelow, Cond.selects RX3 yX3_daysBelow yX3_daysBelow, Cond.code yX3_daysBelow cX3_daysBelow 3 (some .int), Cond.methodLink RX3 57 yX3_isBelow, Cond.instanceMethod yX3_isBelow, Cond.selects RX3 yX3_isBelow yX3_isBelow, Cond.code yX3_isBelow cX3_isBelow 2 (some .boolean), Cond.methodLink RX3 53 yX3_place, Cond.methodLink RX3 60 yX5_daysIn, Cond.instanceMethod yX5_daysIn, Cond.selects RX5 yX5_daysIn yX5_daysIn, Cond.code yX5_daysIn cX5_daysIn 3 (some .int), Cond.fieldLink RX5 9 "ThreeBelow$Shore" "rate" "[I", Cond.methodLink RX5 54 yX5_hasDepth, Cond.instanceMethod yX5_hasDepth, Cond.selects RX5 yX5_hasDepth yX5_hasDepth, Cond.code yX5_hasDepth cX5_hasDepth 2 (some .boolean), Cond.fieldLink RX5 37 "ThreeBelow$Shore" "depths" "I"]
def wsX7_person : List Cond := .code yX7_person cX7_person 3 (some .int) :: ((wsX7_person_r1 ++ wsX7_person_r2) ++ wsX70 ++ wsX50 ++ wsX30)
def wsX7_good : List Cond := .code yX7_good cX7_good 3 (some .int) :: ([.fieldLink RX7 19 "ThreeBelow" "land" "LThreeBelow$Shore;", .constant RX7 139 (-1000000001), .fieldLink RX7 29 "ThreeBelow" "life" "LThreeBelow$Life;", .fieldLink RX7 164 "ThreeBelow$Shore" "toldWorth" "[I", .fieldLink RX7 167 "ThreeBelow$Shore" "change" "[I", .fieldLink RX7 170 "ThreeBelow$Shore" "mostWorth" "[I", .constant RX7 61 (-1000000002), .methodLink RX7 158 yX5_hasGood, .instanceMethod yX5_hasGood, .selects RX5 yX5_hasGood yX5_hasGood, .initialized RX5, .code yX5_hasGood cX5_hasGood 2 (some .boolean), .fieldLink RX5 43 "ThreeBelow$Shore" "goods" "I", .methodLink RX7 161 yX3_worth, .instanceMethod yX3_worth, .selects RX3 yX3_worth yX3_worth, .initialized RX3, .code yX3_worth cX3_worth 2 (some .int), .fieldLink RX3 11 "ThreeBelow$Life" "row" "[I", .methodLink RX3 50 yX3_isGood, .static yX3_isGood, .code yX3_isGood cX3_isGood 1 (some .boolean)] ++ wsX70 ++ wsX50 ++ wsX30)
def wsX7_refuseYears : List Cond := .code yX7_refuseYears cX7_refuseYears 3 (some .int) :: ([.constant RX7 61 (-1000000002), .fieldLink RX7 19 "ThreeBelow" "land" "LThreeBelow$Shore;", .constant RX7 188 (-1000000003), .fieldLink RX7 29 "ThreeBelow" "life" "LThreeBelow$Life;", .constant RX7 218 (90000), .constant RX7 66 (-1000000004), .methodLink RX7 214 yX5_isTold, .instanceMethod yX5_isTold, .selects RX5 yX5_isTold yX5_isTold, .initialized RX5, .code yX5_isTold cX5_isTold 1 (some .boolean), .fieldLink RX5 30 "ThreeBelow$Shore" "law" "I", .methodLink RX7 110 yX3_years, .instanceMethod yX3_years, .selects RX3 yX3_years yX3_years, .initialized RX3, .code yX3_years cX3_years 1 (some .int), .fieldLink RX3 11 "ThreeBelow$Life" "row" "[I"] ++ wsX70 ++ wsX50 ++ wsX30)
def wsX7_year_r1 : List Cond := [Cond.fieldLink RX7 36 "ThreeBelow" "past" "LThreeBelow$Past;", Cond.fieldLink RX7 29 "ThreeBelow" "life" "LThreeBelow$Life;", Cond.fieldLink RX7 19 "ThreeBelow" "land" "LThreeBelow$Shore;", Cond.methodLink RX7 173 yX7_refuseYears, Cond.instanceMethod yX7_refuseYears, Cond.selects RX7 yX7_refuseYears yX7_refuseYears, Cond.initialized RX7, Cond.code yX7_refuseYears cX7_refuseYears 3 (some .int), Cond.constant RX7 61 (-1000000002), Cond.constant RX7 188 (-1000000003), Cond.constant RX7 218 (90000), Cond.constant RX7 66 (-1000000004), Cond.methodLink RX7 214 yX5_isTold, Cond.instanceMethod yX5_isTold, Cond.selects RX5 yX5_isTold yX5_isTold, Cond.initialized RX5, Cond.code yX5_isTold cX5_isTold 1 (some .boolean), Cond.fieldLink RX5 30 "ThreeBelow$Shore" "law" "I", Cond.methodLink RX7 110 yX3_years, Cond.instanceMethod yX3_years, Cond.selects RX3 yX3_years yX3_years, Cond.initialized RX3, Cond.code yX3_years cX3_years 1 (some .int), Cond.fieldLink RX3 11 "ThreeBelow$Life" "row" "[I"]
def wsX7_year_r2 : List Cond := [Cond.methodLink RX7 177 yX4_remember, Cond.instanceMethod yX4_remember, Cond.selects RX4 yX4_remember yX4_remember, Cond.initialized RX4, Cond.code yX4_remember cX4_remember 2 none, Cond.fieldLink RX4 13 "ThreeBelow$Past" "rows" "[[I", Cond.fieldLink RX4 20 "ThreeBelow$Past" "next" "I", Cond.fieldLink RX4 16 "ThreeBelow$Past" "count" "I", Cond.methodLink RX4 27 Lib.Math.min.name, Cond.static Lib.Math.min.name, Cond.initialized "java/lang/Math", Cond.code Lib.Math.min.name Lib.Math.min.code 2 (some .int), Cond.methodLink RX4 23 yX3_copyTo, Cond.instanceMethod yX3_copyTo, Cond.selects RX3 yX3_copyTo yX3_copyTo, Cond.code yX3_copyTo cX3_copyTo 2 none, Cond.methodLink RX3 34 Lib.Math.min.name, Cond.methodLink RX3 40 arraycopyName, Cond.native arraycopyName, Cond.static arraycopyName, Cond.initialized "java/lang/System", Cond.methodLink RX7 181 yX3_passYears, Cond.instanceMethod yX3_passYears, Cond.selects RX3 yX3_passYears yX3_passYears]
def wsX7_year_r3 : List Cond := [Cond.code yX3_passYears cX3_passYears 4 none, Cond.fieldLink RX3 15 "ThreeBelow$Shore" "persons" "I", Cond.fieldLink RX3 66 "ThreeBelow$Shore" "lifespan" "[I", Cond.fieldLink RX3 28 "ThreeBelow$Shore" "goods" "I", Cond.methodLink RX3 63 yX3_isAbove, Cond.instanceMethod yX3_isAbove, Cond.selects RX3 yX3_isAbove yX3_isAbove, Cond.code yX3_isAbove cX3_isAbove 2 (some .boolean), Cond.methodLink RX3 53 yX3_place, Cond.instanceMethod yX3_place, Cond.selects RX3 yX3_place yX3_place, Cond.code yX3_place cX3_place 2 (some .int), Cond.methodLink RX3 46 yX3_isPerson, Cond.static yX3_isPerson, Cond.code yX3_isPerson cX3_isPerson 1 (some .boolean), Cond.methodLink RX3 24 yX3_buryIfOld, Cond.instanceMethod yX3_buryIfOld, Cond.selects RX3 yX3_buryIfOld yX3_buryIfOld, Cond.code yX3_buryIfOld cX3_buryIfOld 3 none, Cond.methodLink RX3 57 yX3_isBelow, Cond.instanceMethod yX3_isBelow, Cond.selects RX3 yX3_isBelow yX3_isBelow, Cond.code yX3_isBelow cX3_isBelow 2 (some .boolean), Cond.methodLink RX3 69 yX5_worthBehind]
def wsX7_year_r4 : List Cond := [Cond.instanceMethod yX5_worthBehind, Cond.selects RX5 yX5_worthBehind yX5_worthBehind, Cond.code yX5_worthBehind cX5_worthBehind 7 (some .int), Cond.methodLink RX5 60 yX5_worthNextYear, Cond.instanceMethod yX5_worthNextYear, Cond.selects RX5 yX5_worthNextYear yX5_worthNextYear, Cond.code yX5_worthNextYear cX5_worthNextYear 4 (some .int), Cond.fieldLink RX5 24 "ThreeBelow$Shore" "change" "[I", Cond.fieldLink RX5 27 "ThreeBelow$Shore" "mostWorth" "[I", Cond.methodLink RX5 57 yX5_hasGood, Cond.instanceMethod yX5_hasGood, Cond.selects RX5 yX5_hasGood yX5_hasGood, Cond.code yX5_hasGood cX5_hasGood 2 (some .boolean), Cond.fieldLink RX5 43 "ThreeBelow$Shore" "goods" "I"]
def wsX7_year : List Cond := .code yX7_year cX7_year 3 (some .int) :: ((wsX7_year_r1 ++ (wsX7_year_r2 ++ (wsX7_year_r3 ++ wsX7_year_r4))) ++ wsX70 ++ wsX50 ++ wsX30 ++ wsX40)
def wsX7_down_r1 : List Cond := [Cond.fieldLink RX7 19 "ThreeBelow" "land" "LThreeBelow$Shore;", Cond.constant RX7 139 (-1000000001), Cond.fieldLink RX7 29 "ThreeBelow" "life" "LThreeBelow$Life;", Cond.constant RX7 188 (-1000000003), Cond.fieldLink RX7 36 "ThreeBelow" "past" "LThreeBelow$Past;", Cond.methodLink RX7 140 yX5_hasPerson, Cond.instanceMethod yX5_hasPerson, Cond.selects RX5 yX5_hasPerson yX5_hasPerson, Cond.initialized RX5, Cond.code yX5_hasPerson cX5_hasPerson 2 (some .boolean), Cond.fieldLink RX5 40 "ThreeBelow$Shore" "persons" "I", Cond.methodLink RX7 131 yX5_hasDepth, Cond.instanceMethod yX5_hasDepth, Cond.selects RX5 yX5_hasDepth yX5_hasDepth, Cond.code yX5_hasDepth cX5_hasDepth 2 (some .boolean), Cond.fieldLink RX5 37 "ThreeBelow$Shore" "depths" "I", Cond.methodLink RX7 185 yX3_isAbove, Cond.instanceMethod yX3_isAbove, Cond.selects RX3 yX3_isAbove yX3_isAbove, Cond.initialized RX3, Cond.code yX3_isAbove cX3_isAbove 2 (some .boolean), Cond.methodLink RX3 53 yX3_place, Cond.instanceMethod yX3_place, Cond.selects RX3 yX3_place yX3_place]
def wsX7_down_r2 : List Cond := [Cond.code yX3_place cX3_place 2 (some .int), Cond.fieldLink RX3 11 "ThreeBelow$Life" "row" "[I", Cond.methodLink RX3 46 yX3_isPerson, Cond.static yX3_isPerson, Cond.code yX3_isPerson cX3_isPerson 1 (some .boolean), Cond.methodLink RX7 177 yX4_remember, Cond.instanceMethod yX4_remember, Cond.selects RX4 yX4_remember yX4_remember, Cond.initialized RX4, Cond.code yX4_remember cX4_remember 2 none, Cond.fieldLink RX4 13 "ThreeBelow$Past" "rows" "[[I", Cond.fieldLink RX4 20 "ThreeBelow$Past" "next" "I", Cond.fieldLink RX4 16 "ThreeBelow$Past" "count" "I", Cond.methodLink RX4 27 Lib.Math.min.name, Cond.static Lib.Math.min.name, Cond.initialized "java/lang/Math", Cond.code Lib.Math.min.name Lib.Math.min.code 2 (some .int), Cond.methodLink RX4 23 yX3_copyTo, Cond.instanceMethod yX3_copyTo, Cond.selects RX3 yX3_copyTo yX3_copyTo, Cond.code yX3_copyTo cX3_copyTo 2 none, Cond.methodLink RX3 34 Lib.Math.min.name, Cond.methodLink RX3 40 arraycopyName, Cond.native arraycopyName]
def wsX7_down_r3 : List Cond := [Cond.static arraycopyName, Cond.initialized "java/lang/System", Cond.methodLink RX7 189 yX3_goDown, Cond.instanceMethod yX3_goDown, Cond.selects RX3 yX3_goDown yX3_goDown, Cond.code yX3_goDown cX3_goDown 3 none, Cond.methodLink RX7 143 yX3_age, Cond.instanceMethod yX3_age, Cond.selects RX3 yX3_age yX3_age, Cond.code yX3_age cX3_age 2 (some .int)]
def wsX7_down : List Cond := .code yX7_down cX7_down 3 (some .int) :: ((wsX7_down_r1 ++ (wsX7_down_r2 ++ wsX7_down_r3)) ++ wsX70 ++ wsX50 ++ wsX30 ++ wsX40)
def wsX7_up_r1 : List Cond := [Cond.fieldLink RX7 19 "ThreeBelow" "land" "LThreeBelow$Shore;", Cond.constant RX7 139 (-1000000001), Cond.fieldLink RX7 29 "ThreeBelow" "life" "LThreeBelow$Life;", Cond.constant RX7 188 (-1000000003), Cond.fieldLink RX7 36 "ThreeBelow" "past" "LThreeBelow$Past;", Cond.methodLink RX7 140 yX5_hasPerson, Cond.instanceMethod yX5_hasPerson, Cond.selects RX5 yX5_hasPerson yX5_hasPerson, Cond.initialized RX5, Cond.code yX5_hasPerson cX5_hasPerson 2 (some .boolean), Cond.fieldLink RX5 40 "ThreeBelow$Shore" "persons" "I", Cond.methodLink RX7 193 yX3_isBelow, Cond.instanceMethod yX3_isBelow, Cond.selects RX3 yX3_isBelow yX3_isBelow, Cond.initialized RX3, Cond.code yX3_isBelow cX3_isBelow 2 (some .boolean), Cond.methodLink RX3 53 yX3_place, Cond.instanceMethod yX3_place, Cond.selects RX3 yX3_place yX3_place, Cond.code yX3_place cX3_place 2 (some .int), Cond.fieldLink RX3 11 "ThreeBelow$Life" "row" "[I", Cond.methodLink RX3 46 yX3_isPerson, Cond.static yX3_isPerson, Cond.code yX3_isPerson cX3_isPerson 1 (some .boolean)]
def wsX7_up_r2 : List Cond := [Cond.methodLink RX7 177 yX4_remember, Cond.instanceMethod yX4_remember, Cond.selects RX4 yX4_remember yX4_remember, Cond.initialized RX4, Cond.code yX4_remember cX4_remember 2 none, Cond.fieldLink RX4 13 "ThreeBelow$Past" "rows" "[[I", Cond.fieldLink RX4 20 "ThreeBelow$Past" "next" "I", Cond.fieldLink RX4 16 "ThreeBelow$Past" "count" "I", Cond.methodLink RX4 27 Lib.Math.min.name, Cond.static Lib.Math.min.name, Cond.initialized "java/lang/Math", Cond.code Lib.Math.min.name Lib.Math.min.code 2 (some .int), Cond.methodLink RX4 23 yX3_copyTo, Cond.instanceMethod yX3_copyTo, Cond.selects RX3 yX3_copyTo yX3_copyTo, Cond.code yX3_copyTo cX3_copyTo 2 none, Cond.methodLink RX3 34 Lib.Math.min.name, Cond.methodLink RX3 40 arraycopyName, Cond.native arraycopyName, Cond.static arraycopyName, Cond.initialized "java/lang/System", Cond.methodLink RX7 155 yX3_daysBelow, Cond.instanceMethod yX3_daysBelow, Cond.selects RX3 yX3_daysBelow yX3_daysBelow]
def wsX7_up_r3 : List Cond := [Cond.code yX3_daysBelow cX3_daysBelow 3 (some .int), Cond.methodLink RX3 57 yX3_isBelow, Cond.methodLink RX3 60 yX5_daysIn, Cond.instanceMethod yX5_daysIn, Cond.selects RX5 yX5_daysIn yX5_daysIn, Cond.code yX5_daysIn cX5_daysIn 3 (some .int), Cond.fieldLink RX5 9 "ThreeBelow$Shore" "rate" "[I", Cond.methodLink RX5 54 yX5_hasDepth, Cond.instanceMethod yX5_hasDepth, Cond.selects RX5 yX5_hasDepth yX5_hasDepth, Cond.code yX5_hasDepth cX5_hasDepth 2 (some .boolean), Cond.fieldLink RX5 37 "ThreeBelow$Shore" "depths" "I", Cond.methodLink RX7 196 yX3_comeUp, Cond.instanceMethod yX3_comeUp, Cond.selects RX3 yX3_comeUp yX3_comeUp, Cond.code yX3_comeUp cX3_comeUp 2 none]
def wsX7_up : List Cond := .code yX7_up cX7_up 3 (some .int) :: ((wsX7_up_r1 ++ (wsX7_up_r2 ++ wsX7_up_r3)) ++ wsX70 ++ wsX50 ++ wsX30 ++ wsX40)
def wsX7_refuseUnlessAbove : List Cond := .code yX7_refuseUnlessAbove cX7_refuseUnlessAbove 2 (some .int) :: ([.fieldLink RX7 19 "ThreeBelow" "land" "LThreeBelow$Shore;", .constant RX7 139 (-1000000001), .fieldLink RX7 29 "ThreeBelow" "life" "LThreeBelow$Life;", .constant RX7 188 (-1000000003), .methodLink RX7 140 yX5_hasPerson, .instanceMethod yX5_hasPerson, .selects RX5 yX5_hasPerson yX5_hasPerson, .initialized RX5, .code yX5_hasPerson cX5_hasPerson 2 (some .boolean), .fieldLink RX5 40 "ThreeBelow$Shore" "persons" "I", .methodLink RX7 185 yX3_isAbove, .instanceMethod yX3_isAbove, .selects RX3 yX3_isAbove yX3_isAbove, .initialized RX3, .code yX3_isAbove cX3_isAbove 2 (some .boolean), .methodLink RX3 53 yX3_place, .instanceMethod yX3_place, .selects RX3 yX3_place yX3_place, .code yX3_place cX3_place 2 (some .int), .fieldLink RX3 11 "ThreeBelow$Life" "row" "[I", .methodLink RX3 46 yX3_isPerson, .static yX3_isPerson, .code yX3_isPerson cX3_isPerson 1 (some .boolean)] ++ wsX70 ++ wsX50 ++ wsX30)
def wsX7_open_r1 : List Cond := [Cond.fieldLink RX7 36 "ThreeBelow" "past" "LThreeBelow$Past;", Cond.fieldLink RX7 29 "ThreeBelow" "life" "LThreeBelow$Life;", Cond.fieldLink RX7 19 "ThreeBelow" "land" "LThreeBelow$Shore;", Cond.methodLink RX7 199 yX7_refuseUnlessAbove, Cond.instanceMethod yX7_refuseUnlessAbove, Cond.selects RX7 yX7_refuseUnlessAbove yX7_refuseUnlessAbove, Cond.initialized RX7, Cond.code yX7_refuseUnlessAbove cX7_refuseUnlessAbove 2 (some .int), Cond.constant RX7 139 (-1000000001), Cond.constant RX7 188 (-1000000003), Cond.methodLink RX7 140 yX5_hasPerson, Cond.instanceMethod yX5_hasPerson, Cond.selects RX5 yX5_hasPerson yX5_hasPerson, Cond.initialized RX5, Cond.code yX5_hasPerson cX5_hasPerson 2 (some .boolean), Cond.fieldLink RX5 40 "ThreeBelow$Shore" "persons" "I", Cond.methodLink RX7 185 yX3_isAbove, Cond.instanceMethod yX3_isAbove, Cond.selects RX3 yX3_isAbove yX3_isAbove, Cond.initialized RX3, Cond.code yX3_isAbove cX3_isAbove 2 (some .boolean), Cond.methodLink RX3 53 yX3_place, Cond.instanceMethod yX3_place, Cond.selects RX3 yX3_place yX3_place]
def wsX7_open_r2 : List Cond := [Cond.code yX3_place cX3_place 2 (some .int), Cond.fieldLink RX3 11 "ThreeBelow$Life" "row" "[I", Cond.methodLink RX3 46 yX3_isPerson, Cond.static yX3_isPerson, Cond.code yX3_isPerson cX3_isPerson 1 (some .boolean), Cond.methodLink RX7 177 yX4_remember, Cond.instanceMethod yX4_remember, Cond.selects RX4 yX4_remember yX4_remember, Cond.initialized RX4, Cond.code yX4_remember cX4_remember 2 none, Cond.fieldLink RX4 13 "ThreeBelow$Past" "rows" "[[I", Cond.fieldLink RX4 20 "ThreeBelow$Past" "next" "I", Cond.fieldLink RX4 16 "ThreeBelow$Past" "count" "I", Cond.methodLink RX4 27 Lib.Math.min.name, Cond.static Lib.Math.min.name, Cond.initialized "java/lang/Math", Cond.code Lib.Math.min.name Lib.Math.min.code 2 (some .int), Cond.methodLink RX4 23 yX3_copyTo, Cond.instanceMethod yX3_copyTo, Cond.selects RX3 yX3_copyTo yX3_copyTo, Cond.code yX3_copyTo cX3_copyTo 2 none, Cond.methodLink RX3 34 Lib.Math.min.name, Cond.methodLink RX3 40 arraycopyName, Cond.native arraycopyName]
def wsX7_open_r3 : List Cond := [Cond.static arraycopyName, Cond.initialized "java/lang/System", Cond.methodLink RX7 202 yX3_openBox, Cond.instanceMethod yX3_openBox, Cond.selects RX3 yX3_openBox yX3_openBox, Cond.code yX3_openBox cX3_openBox 3 none, Cond.methodLink RX3 24 yX3_buryIfOld, Cond.instanceMethod yX3_buryIfOld, Cond.selects RX3 yX3_buryIfOld yX3_buryIfOld, Cond.code yX3_buryIfOld cX3_buryIfOld 3 none, Cond.fieldLink RX3 66 "ThreeBelow$Shore" "lifespan" "[I", Cond.methodLink RX7 143 yX3_age, Cond.instanceMethod yX3_age, Cond.selects RX3 yX3_age yX3_age, Cond.code yX3_age cX3_age 2 (some .int)]
def wsX7_open : List Cond := .code yX7_open cX7_open 3 (some .int) :: ((wsX7_open_r1 ++ (wsX7_open_r2 ++ wsX7_open_r3)) ++ wsX70 ++ wsX50 ++ wsX30 ++ wsX40)
def wsX7_take_r1 : List Cond := [Cond.fieldLink RX7 19 "ThreeBelow" "land" "LThreeBelow$Shore;", Cond.constant RX7 139 (-1000000001), Cond.fieldLink RX7 29 "ThreeBelow" "life" "LThreeBelow$Life;", Cond.constant RX7 188 (-1000000003), Cond.fieldLink RX7 36 "ThreeBelow" "past" "LThreeBelow$Past;", Cond.methodLink RX7 158 yX5_hasGood, Cond.instanceMethod yX5_hasGood, Cond.selects RX5 yX5_hasGood yX5_hasGood, Cond.initialized RX5, Cond.code yX5_hasGood cX5_hasGood 2 (some .boolean), Cond.fieldLink RX5 43 "ThreeBelow$Shore" "goods" "I", Cond.methodLink RX7 161 yX3_worth, Cond.instanceMethod yX3_worth, Cond.selects RX3 yX3_worth yX3_worth, Cond.initialized RX3, Cond.code yX3_worth cX3_worth 2 (some .int), Cond.fieldLink RX3 11 "ThreeBelow$Life" "row" "[I", Cond.methodLink RX3 50 yX3_isGood, Cond.static yX3_isGood, Cond.code yX3_isGood cX3_isGood 1 (some .boolean), Cond.methodLink RX7 177 yX4_remember, Cond.instanceMethod yX4_remember, Cond.selects RX4 yX4_remember yX4_remember, Cond.initialized RX4]
def wsX7_take_r2 : List Cond := [Cond.code yX4_remember cX4_remember 2 none, Cond.fieldLink RX4 13 "ThreeBelow$Past" "rows" "[[I", Cond.fieldLink RX4 20 "ThreeBelow$Past" "next" "I", Cond.fieldLink RX4 16 "ThreeBelow$Past" "count" "I", Cond.methodLink RX4 27 Lib.Math.min.name, Cond.static Lib.Math.min.name, Cond.initialized "java/lang/Math", Cond.code Lib.Math.min.name Lib.Math.min.code 2 (some .int), Cond.methodLink RX4 23 yX3_copyTo, Cond.instanceMethod yX3_copyTo, Cond.selects RX3 yX3_copyTo yX3_copyTo, Cond.code yX3_copyTo cX3_copyTo 2 none, Cond.methodLink RX3 34 Lib.Math.min.name, Cond.methodLink RX3 40 arraycopyName, Cond.native arraycopyName, Cond.static arraycopyName, Cond.initialized "java/lang/System", Cond.methodLink RX7 205 yX3_takeGood, Cond.instanceMethod yX3_takeGood, Cond.selects RX3 yX3_takeGood yX3_takeGood, Cond.code yX3_takeGood cX3_takeGood 2 none]
def wsX7_take : List Cond := .code yX7_take cX7_take 3 (some .int) :: ((wsX7_take_r1 ++ wsX7_take_r2) ++ wsX70 ++ wsX50 ++ wsX30 ++ wsX40)
def wsX7_draw : List Cond := .code yX7_draw cX7_draw 2 (some .int) :: ([.fieldLink RX7 222 "ThreeBelow" "seedNow" "I", .constant RX7 225 (1103515245), .constant RX7 226 (2147483647), .constant RX7 227 (65536)] ++ wsX70)
def wsX7_driftOne_r1 : List Cond := [Cond.fieldLink RX7 19 "ThreeBelow" "land" "LThreeBelow$Shore;", Cond.fieldLink RX7 92 "ThreeBelow$Shore" "persons" "I", Cond.fieldLink RX7 104 "ThreeBelow$Shore" "depths" "I", Cond.fieldLink RX7 29 "ThreeBelow" "life" "LThreeBelow$Life;", Cond.methodLink RX7 219 yX7_draw, Cond.instanceMethod yX7_draw, Cond.selects RX7 yX7_draw yX7_draw, Cond.initialized RX7, Cond.code yX7_draw cX7_draw 2 (some .int), Cond.fieldLink RX7 222 "ThreeBelow" "seedNow" "I", Cond.constant RX7 225 (1103515245), Cond.constant RX7 226 (2147483647), Cond.constant RX7 227 (65536), Cond.methodLink RX7 185 yX3_isAbove, Cond.instanceMethod yX3_isAbove, Cond.selects RX3 yX3_isAbove yX3_isAbove, Cond.initialized RX3, Cond.code yX3_isAbove cX3_isAbove 2 (some .boolean), Cond.methodLink RX3 53 yX3_place, Cond.instanceMethod yX3_place, Cond.selects RX3 yX3_place yX3_place, Cond.code yX3_place cX3_place 2 (some .int), Cond.fieldLink RX3 11 "ThreeBelow$Life" "row" "[I", Cond.methodLink RX3 46 yX3_isPerson]
def wsX7_driftOne_r2 : List Cond := [Cond.static yX3_isPerson, Cond.code yX3_isPerson cX3_isPerson 1 (some .boolean), Cond.methodLink RX7 189 yX3_goDown, Cond.instanceMethod yX3_goDown, Cond.selects RX3 yX3_goDown yX3_goDown, Cond.code yX3_goDown cX3_goDown 3 none, Cond.methodLink RX7 193 yX3_isBelow, Cond.instanceMethod yX3_isBelow, Cond.selects RX3 yX3_isBelow yX3_isBelow, Cond.code yX3_isBelow cX3_isBelow 2 (some .boolean), Cond.methodLink RX7 196 yX3_comeUp, Cond.instanceMethod yX3_comeUp, Cond.selects RX3 yX3_comeUp yX3_comeUp, Cond.code yX3_comeUp cX3_comeUp 2 none]
def wsX7_driftOne : List Cond := .code yX7_driftOne cX7_driftOne 3 none :: ((wsX7_driftOne_r1 ++ wsX7_driftOne_r2) ++ wsX70 ++ wsX50 ++ wsX30)
def wsX7_drift_r1 : List Cond := [Cond.fieldLink RX7 36 "ThreeBelow" "past" "LThreeBelow$Past;", Cond.fieldLink RX7 29 "ThreeBelow" "life" "LThreeBelow$Life;", Cond.fieldLink RX7 19 "ThreeBelow" "land" "LThreeBelow$Shore;", Cond.methodLink RX7 173 yX7_refuseYears, Cond.instanceMethod yX7_refuseYears, Cond.selects RX7 yX7_refuseYears yX7_refuseYears, Cond.initialized RX7, Cond.code yX7_refuseYears cX7_refuseYears 3 (some .int), Cond.constant RX7 61 (-1000000002), Cond.constant RX7 188 (-1000000003), Cond.constant RX7 218 (90000), Cond.constant RX7 66 (-1000000004), Cond.methodLink RX7 214 yX5_isTold, Cond.instanceMethod yX5_isTold, Cond.selects RX5 yX5_isTold yX5_isTold, Cond.initialized RX5, Cond.code yX5_isTold cX5_isTold 1 (some .boolean), Cond.fieldLink RX5 30 "ThreeBelow$Shore" "law" "I", Cond.methodLink RX7 110 yX3_years, Cond.instanceMethod yX3_years, Cond.selects RX3 yX3_years yX3_years, Cond.initialized RX3, Cond.code yX3_years cX3_years 1 (some .int), Cond.fieldLink RX3 11 "ThreeBelow$Life" "row" "[I"]
def wsX7_drift_r2 : List Cond := [Cond.methodLink RX7 177 yX4_remember, Cond.instanceMethod yX4_remember, Cond.selects RX4 yX4_remember yX4_remember, Cond.initialized RX4, Cond.code yX4_remember cX4_remember 2 none, Cond.fieldLink RX4 13 "ThreeBelow$Past" "rows" "[[I", Cond.fieldLink RX4 20 "ThreeBelow$Past" "next" "I", Cond.fieldLink RX4 16 "ThreeBelow$Past" "count" "I", Cond.methodLink RX4 27 Lib.Math.min.name, Cond.static Lib.Math.min.name, Cond.initialized "java/lang/Math", Cond.code Lib.Math.min.name Lib.Math.min.code 2 (some .int), Cond.methodLink RX4 23 yX3_copyTo, Cond.instanceMethod yX3_copyTo, Cond.selects RX3 yX3_copyTo yX3_copyTo, Cond.code yX3_copyTo cX3_copyTo 2 none, Cond.methodLink RX3 34 Lib.Math.min.name, Cond.methodLink RX3 40 arraycopyName, Cond.native arraycopyName, Cond.static arraycopyName, Cond.initialized "java/lang/System", Cond.methodLink RX7 208 yX7_driftOne, Cond.instanceMethod yX7_driftOne, Cond.selects RX7 yX7_driftOne yX7_driftOne]
def wsX7_drift_r3 : List Cond := [Cond.code yX7_driftOne cX7_driftOne 3 none, Cond.fieldLink RX7 92 "ThreeBelow$Shore" "persons" "I", Cond.fieldLink RX7 104 "ThreeBelow$Shore" "depths" "I", Cond.methodLink RX7 219 yX7_draw, Cond.instanceMethod yX7_draw, Cond.selects RX7 yX7_draw yX7_draw, Cond.code yX7_draw cX7_draw 2 (some .int), Cond.fieldLink RX7 222 "ThreeBelow" "seedNow" "I", Cond.constant RX7 225 (1103515245), Cond.constant RX7 226 (2147483647), Cond.constant RX7 227 (65536), Cond.methodLink RX7 185 yX3_isAbove, Cond.instanceMethod yX3_isAbove, Cond.selects RX3 yX3_isAbove yX3_isAbove, Cond.code yX3_isAbove cX3_isAbove 2 (some .boolean), Cond.methodLink RX3 53 yX3_place, Cond.instanceMethod yX3_place, Cond.selects RX3 yX3_place yX3_place, Cond.code yX3_place cX3_place 2 (some .int), Cond.methodLink RX3 46 yX3_isPerson, Cond.static yX3_isPerson, Cond.code yX3_isPerson cX3_isPerson 1 (some .boolean), Cond.methodLink RX7 189 yX3_goDown, Cond.instanceMethod yX3_goDown]
def wsX7_drift_r4 : List Cond := [Cond.selects RX3 yX3_goDown yX3_goDown, Cond.code yX3_goDown cX3_goDown 3 none, Cond.methodLink RX7 193 yX3_isBelow, Cond.instanceMethod yX3_isBelow, Cond.selects RX3 yX3_isBelow yX3_isBelow, Cond.code yX3_isBelow cX3_isBelow 2 (some .boolean), Cond.methodLink RX7 196 yX3_comeUp, Cond.instanceMethod yX3_comeUp, Cond.selects RX3 yX3_comeUp yX3_comeUp, Cond.code yX3_comeUp cX3_comeUp 2 none, Cond.methodLink RX7 181 yX3_passYears, Cond.instanceMethod yX3_passYears, Cond.selects RX3 yX3_passYears yX3_passYears, Cond.code yX3_passYears cX3_passYears 4 none, Cond.fieldLink RX3 15 "ThreeBelow$Shore" "persons" "I", Cond.fieldLink RX3 66 "ThreeBelow$Shore" "lifespan" "[I", Cond.fieldLink RX3 28 "ThreeBelow$Shore" "goods" "I", Cond.methodLink RX3 63 yX3_isAbove, Cond.methodLink RX3 24 yX3_buryIfOld, Cond.instanceMethod yX3_buryIfOld, Cond.selects RX3 yX3_buryIfOld yX3_buryIfOld, Cond.code yX3_buryIfOld cX3_buryIfOld 3 none, Cond.methodLink RX3 57 yX3_isBelow, Cond.methodLink RX3 69 yX5_worthBehind]
def wsX7_drift_r5 : List Cond := [Cond.instanceMethod yX5_worthBehind, Cond.selects RX5 yX5_worthBehind yX5_worthBehind, Cond.code yX5_worthBehind cX5_worthBehind 7 (some .int), Cond.methodLink RX5 60 yX5_worthNextYear, Cond.instanceMethod yX5_worthNextYear, Cond.selects RX5 yX5_worthNextYear yX5_worthNextYear, Cond.code yX5_worthNextYear cX5_worthNextYear 4 (some .int), Cond.fieldLink RX5 24 "ThreeBelow$Shore" "change" "[I", Cond.fieldLink RX5 27 "ThreeBelow$Shore" "mostWorth" "[I", Cond.methodLink RX5 57 yX5_hasGood, Cond.instanceMethod yX5_hasGood, Cond.selects RX5 yX5_hasGood yX5_hasGood, Cond.code yX5_hasGood cX5_hasGood 2 (some .boolean), Cond.fieldLink RX5 43 "ThreeBelow$Shore" "goods" "I"]
def wsX7_drift : List Cond := .code yX7_drift cX7_drift 4 (some .int) :: ((wsX7_drift_r1 ++ (wsX7_drift_r2 ++ (wsX7_drift_r3 ++ (wsX7_drift_r4 ++ wsX7_drift_r5)))) ++ wsX70 ++ wsX50 ++ wsX30 ++ wsX40)
def wsX7_undo_r1 : List Cond := [Cond.fieldLink RX7 36 "ThreeBelow" "past" "LThreeBelow$Past;", Cond.fieldLink RX7 130 "ThreeBelow$Past" "count" "I", Cond.constant RX7 188 (-1000000003), Cond.fieldLink RX7 29 "ThreeBelow" "life" "LThreeBelow$Life;", Cond.methodLink RX7 211 yX4_bringBack, Cond.instanceMethod yX4_bringBack, Cond.selects RX4 yX4_bringBack yX4_bringBack, Cond.initialized RX4, Cond.code yX4_bringBack cX4_bringBack 2 none, Cond.fieldLink RX4 16 "ThreeBelow$Past" "count" "I", Cond.fieldLink RX4 20 "ThreeBelow$Past" "next" "I", Cond.fieldLink RX4 13 "ThreeBelow$Past" "rows" "[[I", Cond.methodLink RX4 33 yX3_copyFrom, Cond.instanceMethod yX3_copyFrom, Cond.selects RX3 yX3_copyFrom yX3_copyFrom, Cond.initialized RX3, Cond.code yX3_copyFrom cX3_copyFrom 2 none, Cond.fieldLink RX3 11 "ThreeBelow$Life" "row" "[I", Cond.methodLink RX3 34 Lib.Math.min.name, Cond.static Lib.Math.min.name, Cond.initialized "java/lang/Math", Cond.code Lib.Math.min.name Lib.Math.min.code 2 (some .int), Cond.methodLink RX3 40 arraycopyName, Cond.native arraycopyName]
def wsX7_undo_r2 : List Cond := [Cond.static arraycopyName, Cond.initialized "java/lang/System"]
def wsX7_undo : List Cond := .code yX7_undo cX7_undo 1 (some .int) :: ((wsX7_undo_r1 ++ wsX7_undo_r2) ++ wsX70 ++ wsX40 ++ wsX30)
def wsX7_areTwoPersons : List Cond := .code yX7_areTwoPersons cX7_areTwoPersons 3 (some .boolean) :: ([.fieldLink RX7 19 "ThreeBelow" "land" "LThreeBelow$Shore;", .methodLink RX7 140 yX5_hasPerson, .instanceMethod yX5_hasPerson, .selects RX5 yX5_hasPerson yX5_hasPerson, .initialized RX5, .code yX5_hasPerson cX5_hasPerson 2 (some .boolean), .fieldLink RX5 40 "ThreeBelow$Shore" "persons" "I"] ++ wsX70 ++ wsX50)
def wsX7_meet_r1 : List Cond := [Cond.fieldLink RX7 19 "ThreeBelow" "land" "LThreeBelow$Shore;", Cond.constant RX7 139 (-1000000001), Cond.constant RX7 61 (-1000000002), Cond.fieldLink RX7 29 "ThreeBelow" "life" "LThreeBelow$Life;", Cond.constant RX7 188 (-1000000003), Cond.constant RX7 226 (2147483647), Cond.fieldLink RX7 135 "ThreeBelow$Shore" "rate" "[I", Cond.fieldLink RX7 146 "ThreeBelow$Shore" "lifespan" "[I", Cond.methodLink RX7 232 Lib.Math.abs.name, Cond.static Lib.Math.abs.name, Cond.initialized "java/lang/Math", Cond.code Lib.Math.abs.name Lib.Math.abs.code 1 (some .int), Cond.methodLink RX7 237 Lib.Math.min.name, Cond.static Lib.Math.min.name, Cond.code Lib.Math.min.name Lib.Math.min.code 2 (some .int), Cond.methodLink RX7 228 yX7_areTwoPersons, Cond.instanceMethod yX7_areTwoPersons, Cond.selects RX7 yX7_areTwoPersons yX7_areTwoPersons, Cond.initialized RX7, Cond.code yX7_areTwoPersons cX7_areTwoPersons 3 (some .boolean), Cond.methodLink RX7 140 yX5_hasPerson, Cond.instanceMethod yX5_hasPerson, Cond.selects RX5 yX5_hasPerson yX5_hasPerson, Cond.initialized RX5]
def wsX7_meet_r2 : List Cond := [Cond.code yX5_hasPerson cX5_hasPerson 2 (some .boolean), Cond.fieldLink RX5 40 "ThreeBelow$Shore" "persons" "I", Cond.methodLink RX7 131 yX5_hasDepth, Cond.instanceMethod yX5_hasDepth, Cond.selects RX5 yX5_hasDepth yX5_hasDepth, Cond.code yX5_hasDepth cX5_hasDepth 2 (some .boolean), Cond.fieldLink RX5 37 "ThreeBelow$Shore" "depths" "I", Cond.methodLink RX7 185 yX3_isAbove, Cond.instanceMethod yX3_isAbove, Cond.selects RX3 yX3_isAbove yX3_isAbove, Cond.initialized RX3, Cond.code yX3_isAbove cX3_isAbove 2 (some .boolean), Cond.methodLink RX3 53 yX3_place, Cond.instanceMethod yX3_place, Cond.selects RX3 yX3_place yX3_place, Cond.code yX3_place cX3_place 2 (some .int), Cond.fieldLink RX3 11 "ThreeBelow$Life" "row" "[I", Cond.methodLink RX3 46 yX3_isPerson, Cond.static yX3_isPerson, Cond.code yX3_isPerson cX3_isPerson 1 (some .boolean), Cond.methodLink RX7 143 yX3_age, Cond.instanceMethod yX3_age, Cond.selects RX3 yX3_age yX3_age, Cond.code yX3_age cX3_age 2 (some .int)]
def wsX7_meet : List Cond := .code yX7_meet cX7_meet 10 (some .int) :: ((wsX7_meet_r1 ++ wsX7_meet_r2) ++ wsX70 ++ wsX50 ++ wsX30)
def wsX7_yearsOfStay : List Cond := .code yX7_yearsOfStay cX7_yearsOfStay 3 (some .int) :: ([.fieldLink RX7 19 "ThreeBelow" "land" "LThreeBelow$Shore;", .fieldLink RX7 135 "ThreeBelow$Shore" "rate" "[I", .methodLink RX7 131 yX5_hasDepth, .instanceMethod yX5_hasDepth, .selects RX5 yX5_hasDepth yX5_hasDepth, .initialized RX5, .code yX5_hasDepth cX5_hasDepth 2 (some .boolean), .fieldLink RX5 37 "ThreeBelow$Shore" "depths" "I"] ++ wsX70 ++ wsX50)
def wsX7_figuresOfStay : List Cond := .code yX7_figuresOfStay cX7_figuresOfStay 2 (some .int) :: ([])
def wsX7_bothBy_r1 : List Cond := [Cond.methodLink RX7 247 Lib.Math.max.name, Cond.static Lib.Math.max.name, Cond.initialized "java/lang/Math", Cond.code Lib.Math.max.name Lib.Math.max.code 2 (some .int), Cond.fieldLink RX7 29 "ThreeBelow" "life" "LThreeBelow$Life;", Cond.fieldLink RX7 19 "ThreeBelow" "land" "LThreeBelow$Shore;", Cond.fieldLink RX7 146 "ThreeBelow$Shore" "lifespan" "[I", Cond.constant RX7 226 (2147483647), Cond.methodLink RX7 244 yX7_yearsOfStay, Cond.instanceMethod yX7_yearsOfStay, Cond.selects RX7 yX7_yearsOfStay yX7_yearsOfStay, Cond.initialized RX7, Cond.code yX7_yearsOfStay cX7_yearsOfStay 3 (some .int), Cond.fieldLink RX7 135 "ThreeBelow$Shore" "rate" "[I", Cond.methodLink RX7 131 yX5_hasDepth, Cond.instanceMethod yX5_hasDepth, Cond.selects RX5 yX5_hasDepth yX5_hasDepth, Cond.initialized RX5, Cond.code yX5_hasDepth cX5_hasDepth 2 (some .boolean), Cond.fieldLink RX5 37 "ThreeBelow$Shore" "depths" "I", Cond.methodLink RX7 143 yX3_age, Cond.instanceMethod yX3_age, Cond.selects RX3 yX3_age yX3_age, Cond.initialized RX3]
def wsX7_bothBy_r2 : List Cond := [Cond.code yX3_age cX3_age 2 (some .int), Cond.fieldLink RX3 11 "ThreeBelow$Life" "row" "[I", Cond.methodLink RX3 46 yX3_isPerson, Cond.static yX3_isPerson, Cond.code yX3_isPerson cX3_isPerson 1 (some .boolean), Cond.methodLink RX7 250 yX7_figuresOfStay, Cond.instanceMethod yX7_figuresOfStay, Cond.selects RX7 yX7_figuresOfStay yX7_figuresOfStay, Cond.code yX7_figuresOfStay cX7_figuresOfStay 2 (some .int)]
def wsX7_bothBy : List Cond := .code yX7_bothBy cX7_bothBy 10 (some .int) :: ((wsX7_bothBy_r1 ++ wsX7_bothBy_r2) ++ wsX70 ++ wsX50 ++ wsX30)
def wsX7_both_r1 : List Cond := [Cond.constant RX7 139 (-1000000001), Cond.constant RX7 61 (-1000000002), Cond.fieldLink RX7 29 "ThreeBelow" "life" "LThreeBelow$Life;", Cond.constant RX7 188 (-1000000003), Cond.constant RX7 226 (2147483647), Cond.fieldLink RX7 19 "ThreeBelow" "land" "LThreeBelow$Shore;", Cond.fieldLink RX7 104 "ThreeBelow$Shore" "depths" "I", Cond.methodLink RX7 237 Lib.Math.min.name, Cond.static Lib.Math.min.name, Cond.initialized "java/lang/Math", Cond.code Lib.Math.min.name Lib.Math.min.code 2 (some .int), Cond.methodLink RX7 228 yX7_areTwoPersons, Cond.instanceMethod yX7_areTwoPersons, Cond.selects RX7 yX7_areTwoPersons yX7_areTwoPersons, Cond.initialized RX7, Cond.code yX7_areTwoPersons cX7_areTwoPersons 3 (some .boolean), Cond.methodLink RX7 140 yX5_hasPerson, Cond.instanceMethod yX5_hasPerson, Cond.selects RX5 yX5_hasPerson yX5_hasPerson, Cond.initialized RX5, Cond.code yX5_hasPerson cX5_hasPerson 2 (some .boolean), Cond.fieldLink RX5 40 "ThreeBelow$Shore" "persons" "I", Cond.methodLink RX7 185 yX3_isAbove, Cond.instanceMethod yX3_isAbove]
def wsX7_both_r2 : List Cond := [Cond.selects RX3 yX3_isAbove yX3_isAbove, Cond.initialized RX3, Cond.code yX3_isAbove cX3_isAbove 2 (some .boolean), Cond.methodLink RX3 53 yX3_place, Cond.instanceMethod yX3_place, Cond.selects RX3 yX3_place yX3_place, Cond.code yX3_place cX3_place 2 (some .int), Cond.fieldLink RX3 11 "ThreeBelow$Life" "row" "[I", Cond.methodLink RX3 46 yX3_isPerson, Cond.static yX3_isPerson, Cond.code yX3_isPerson cX3_isPerson 1 (some .boolean), Cond.methodLink RX7 240 yX7_bothBy, Cond.instanceMethod yX7_bothBy, Cond.selects RX7 yX7_bothBy yX7_bothBy, Cond.code yX7_bothBy cX7_bothBy 10 (some .int), Cond.methodLink RX7 247 Lib.Math.max.name, Cond.static Lib.Math.max.name, Cond.code Lib.Math.max.name Lib.Math.max.code 2 (some .int), Cond.fieldLink RX7 146 "ThreeBelow$Shore" "lifespan" "[I", Cond.methodLink RX7 244 yX7_yearsOfStay, Cond.instanceMethod yX7_yearsOfStay, Cond.selects RX7 yX7_yearsOfStay yX7_yearsOfStay, Cond.code yX7_yearsOfStay cX7_yearsOfStay 3 (some .int), Cond.fieldLink RX7 135 "ThreeBelow$Shore" "rate" "[I"]
def wsX7_both_r3 : List Cond := [Cond.methodLink RX7 131 yX5_hasDepth, Cond.instanceMethod yX5_hasDepth, Cond.selects RX5 yX5_hasDepth yX5_hasDepth, Cond.code yX5_hasDepth cX5_hasDepth 2 (some .boolean), Cond.fieldLink RX5 37 "ThreeBelow$Shore" "depths" "I", Cond.methodLink RX7 143 yX3_age, Cond.instanceMethod yX3_age, Cond.selects RX3 yX3_age yX3_age, Cond.code yX3_age cX3_age 2 (some .int), Cond.methodLink RX7 250 yX7_figuresOfStay, Cond.instanceMethod yX7_figuresOfStay, Cond.selects RX7 yX7_figuresOfStay yX7_figuresOfStay, Cond.code yX7_figuresOfStay cX7_figuresOfStay 2 (some .int)]
def wsX7_both : List Cond := .code yX7_both cX7_both 7 (some .int) :: ((wsX7_both_r1 ++ (wsX7_both_r2 ++ wsX7_both_r3)) ++ wsX70 ++ wsX50 ++ wsX30)
def wsX7_leave_r1 : List Cond := [Cond.constant RX7 61 (-1000000002), Cond.fieldLink RX7 19 "ThreeBelow" "land" "LThreeBelow$Shore;", Cond.fieldLink RX7 107 "ThreeBelow$Shore" "goods" "I", Cond.fieldLink RX7 29 "ThreeBelow" "life" "LThreeBelow$Life;", Cond.methodLink RX7 161 yX3_worth, Cond.instanceMethod yX3_worth, Cond.selects RX3 yX3_worth yX3_worth, Cond.initialized RX3, Cond.code yX3_worth cX3_worth 2 (some .int), Cond.fieldLink RX3 11 "ThreeBelow$Life" "row" "[I", Cond.methodLink RX3 50 yX3_isGood, Cond.static yX3_isGood, Cond.code yX3_isGood cX3_isGood 1 (some .boolean), Cond.methodLink RX7 253 yX5_worthBehind, Cond.instanceMethod yX5_worthBehind, Cond.selects RX5 yX5_worthBehind yX5_worthBehind, Cond.initialized RX5, Cond.code yX5_worthBehind cX5_worthBehind 7 (some .int), Cond.methodLink RX5 60 yX5_worthNextYear, Cond.instanceMethod yX5_worthNextYear, Cond.selects RX5 yX5_worthNextYear yX5_worthNextYear, Cond.code yX5_worthNextYear cX5_worthNextYear 4 (some .int), Cond.fieldLink RX5 24 "ThreeBelow$Shore" "change" "[I", Cond.fieldLink RX5 27 "ThreeBelow$Shore" "mostWorth" "[I"]
def wsX7_leave_r2 : List Cond := [Cond.methodLink RX5 57 yX5_hasGood, Cond.instanceMethod yX5_hasGood, Cond.selects RX5 yX5_hasGood yX5_hasGood, Cond.code yX5_hasGood cX5_hasGood 2 (some .boolean), Cond.fieldLink RX5 43 "ThreeBelow$Shore" "goods" "I"]
def wsX7_leave : List Cond := .code yX7_leave cX7_leave 7 (some .int) :: ((wsX7_leave_r1 ++ wsX7_leave_r2) ++ wsX70 ++ wsX50 ++ wsX30)
def wsX7_when_r1 : List Cond := [Cond.fieldLink RX7 19 "ThreeBelow" "land" "LThreeBelow$Shore;", Cond.constant RX7 139 (-1000000001), Cond.constant RX7 61 (-1000000002), Cond.fieldLink RX7 29 "ThreeBelow" "life" "LThreeBelow$Life;", Cond.methodLink RX7 158 yX5_hasGood, Cond.instanceMethod yX5_hasGood, Cond.selects RX5 yX5_hasGood yX5_hasGood, Cond.initialized RX5, Cond.code yX5_hasGood cX5_hasGood 2 (some .boolean), Cond.fieldLink RX5 43 "ThreeBelow$Shore" "goods" "I", Cond.methodLink RX7 161 yX3_worth, Cond.instanceMethod yX3_worth, Cond.selects RX3 yX3_worth yX3_worth, Cond.initialized RX3, Cond.code yX3_worth cX3_worth 2 (some .int), Cond.fieldLink RX3 11 "ThreeBelow$Life" "row" "[I", Cond.methodLink RX3 50 yX3_isGood, Cond.static yX3_isGood, Cond.code yX3_isGood cX3_isGood 1 (some .boolean), Cond.methodLink RX7 257 yX5_worthNextYear, Cond.instanceMethod yX5_worthNextYear, Cond.selects RX5 yX5_worthNextYear yX5_worthNextYear, Cond.code yX5_worthNextYear cX5_worthNextYear 4 (some .int), Cond.fieldLink RX5 24 "ThreeBelow$Shore" "change" "[I"]
def wsX7_when_r2 : List Cond := [Cond.fieldLink RX5 27 "ThreeBelow$Shore" "mostWorth" "[I", Cond.methodLink RX5 57 yX5_hasGood]
def wsX7_when : List Cond := .code yX7_when cX7_when 5 (some .int) :: ((wsX7_when_r1 ++ wsX7_when_r2) ++ wsX70 ++ wsX50 ++ wsX30)
def wsX7_letters : List Cond := .code yX7_letters cX7_letters 3 (some .int) :: ([.fieldLink RX7 19 "ThreeBelow" "land" "LThreeBelow$Shore;", .constant RX7 139 (-1000000001), .constant RX7 61 (-1000000002), .fieldLink RX7 29 "ThreeBelow" "life" "LThreeBelow$Life;", .fieldLink RX7 135 "ThreeBelow$Shore" "rate" "[I", .methodLink RX7 131 yX5_hasDepth, .instanceMethod yX5_hasDepth, .selects RX5 yX5_hasDepth yX5_hasDepth, .initialized RX5, .code yX5_hasDepth cX5_hasDepth 2 (some .boolean), .fieldLink RX5 37 "ThreeBelow$Shore" "depths" "I", .methodLink RX7 110 yX3_years, .instanceMethod yX3_years, .selects RX3 yX3_years yX3_years, .initialized RX3, .code yX3_years cX3_years 1 (some .int), .fieldLink RX3 11 "ThreeBelow$Life" "row" "[I", .methodLink RX7 260 yX5_daysIn, .instanceMethod yX5_daysIn, .selects RX5 yX5_daysIn yX5_daysIn, .code yX5_daysIn cX5_daysIn 3 (some .int), .fieldLink RX5 9 "ThreeBelow$Shore" "rate" "[I", .methodLink RX5 54 yX5_hasDepth] ++ wsX70 ++ wsX50 ++ wsX30)
def wsX7_wouldOpen_r1 : List Cond := [Cond.fieldLink RX7 29 "ThreeBelow" "life" "LThreeBelow$Life;", Cond.fieldLink RX7 19 "ThreeBelow" "land" "LThreeBelow$Shore;", Cond.fieldLink RX7 146 "ThreeBelow$Shore" "lifespan" "[I", Cond.methodLink RX7 199 yX7_refuseUnlessAbove, Cond.instanceMethod yX7_refuseUnlessAbove, Cond.selects RX7 yX7_refuseUnlessAbove yX7_refuseUnlessAbove, Cond.initialized RX7, Cond.code yX7_refuseUnlessAbove cX7_refuseUnlessAbove 2 (some .int), Cond.constant RX7 139 (-1000000001), Cond.constant RX7 188 (-1000000003), Cond.methodLink RX7 140 yX5_hasPerson, Cond.instanceMethod yX5_hasPerson, Cond.selects RX5 yX5_hasPerson yX5_hasPerson, Cond.initialized RX5, Cond.code yX5_hasPerson cX5_hasPerson 2 (some .boolean), Cond.fieldLink RX5 40 "ThreeBelow$Shore" "persons" "I", Cond.methodLink RX7 185 yX3_isAbove, Cond.instanceMethod yX3_isAbove, Cond.selects RX3 yX3_isAbove yX3_isAbove, Cond.initialized RX3, Cond.code yX3_isAbove cX3_isAbove 2 (some .boolean), Cond.methodLink RX3 53 yX3_place, Cond.instanceMethod yX3_place, Cond.selects RX3 yX3_place yX3_place]
def wsX7_wouldOpen_r2 : List Cond := [Cond.code yX3_place cX3_place 2 (some .int), Cond.fieldLink RX3 11 "ThreeBelow$Life" "row" "[I", Cond.methodLink RX3 46 yX3_isPerson, Cond.static yX3_isPerson, Cond.code yX3_isPerson cX3_isPerson 1 (some .boolean), Cond.methodLink RX7 143 yX3_age, Cond.instanceMethod yX3_age, Cond.selects RX3 yX3_age yX3_age, Cond.code yX3_age cX3_age 2 (some .int), Cond.methodLink RX7 152 yX3_box, Cond.instanceMethod yX3_box, Cond.selects RX3 yX3_box yX3_box, Cond.code yX3_box cX3_box 2 (some .int)]
def wsX7_wouldOpen : List Cond := .code yX7_wouldOpen cX7_wouldOpen 4 (some .int) :: ((wsX7_wouldOpen_r1 ++ wsX7_wouldOpen_r2) ++ wsX70 ++ wsX50 ++ wsX30)
def wsX7_yearsLeft_r1 : List Cond := [Cond.fieldLink RX7 19 "ThreeBelow" "land" "LThreeBelow$Shore;", Cond.fieldLink RX7 146 "ThreeBelow$Shore" "lifespan" "[I", Cond.fieldLink RX7 29 "ThreeBelow" "life" "LThreeBelow$Life;", Cond.methodLink RX7 199 yX7_refuseUnlessAbove, Cond.instanceMethod yX7_refuseUnlessAbove, Cond.selects RX7 yX7_refuseUnlessAbove yX7_refuseUnlessAbove, Cond.initialized RX7, Cond.code yX7_refuseUnlessAbove cX7_refuseUnlessAbove 2 (some .int), Cond.constant RX7 139 (-1000000001), Cond.constant RX7 188 (-1000000003), Cond.methodLink RX7 140 yX5_hasPerson, Cond.instanceMethod yX5_hasPerson, Cond.selects RX5 yX5_hasPerson yX5_hasPerson, Cond.initialized RX5, Cond.code yX5_hasPerson cX5_hasPerson 2 (some .boolean), Cond.fieldLink RX5 40 "ThreeBelow$Shore" "persons" "I", Cond.methodLink RX7 185 yX3_isAbove, Cond.instanceMethod yX3_isAbove, Cond.selects RX3 yX3_isAbove yX3_isAbove, Cond.initialized RX3, Cond.code yX3_isAbove cX3_isAbove 2 (some .boolean), Cond.methodLink RX3 53 yX3_place, Cond.instanceMethod yX3_place, Cond.selects RX3 yX3_place yX3_place]
def wsX7_yearsLeft_r2 : List Cond := [Cond.code yX3_place cX3_place 2 (some .int), Cond.fieldLink RX3 11 "ThreeBelow$Life" "row" "[I", Cond.methodLink RX3 46 yX3_isPerson, Cond.static yX3_isPerson, Cond.code yX3_isPerson cX3_isPerson 1 (some .boolean), Cond.methodLink RX7 143 yX3_age, Cond.instanceMethod yX3_age, Cond.selects RX3 yX3_age yX3_age, Cond.code yX3_age cX3_age 2 (some .int)]
def wsX7_yearsLeft : List Cond := .code yX7_yearsLeft cX7_yearsLeft 3 (some .int) :: ((wsX7_yearsLeft_r1 ++ wsX7_yearsLeft_r2) ++ wsX70 ++ wsX50 ++ wsX30)
def wsX7_latest : List Cond := .code yX7_latest cX7_latest 5 (some .int) :: ([.fieldLink RX7 19 "ThreeBelow" "land" "LThreeBelow$Shore;", .fieldLink RX7 92 "ThreeBelow$Shore" "persons" "I", .fieldLink RX7 146 "ThreeBelow$Shore" "lifespan" "[I", .fieldLink RX7 29 "ThreeBelow" "life" "LThreeBelow$Life;", .methodLink RX7 143 yX3_age, .instanceMethod yX3_age, .selects RX3 yX3_age yX3_age, .initialized RX3, .code yX3_age cX3_age 2 (some .int), .fieldLink RX3 11 "ThreeBelow$Life" "row" "[I", .methodLink RX3 46 yX3_isPerson, .static yX3_isPerson, .code yX3_isPerson cX3_isPerson 1 (some .boolean), .methodLink RX7 185 yX3_isAbove, .instanceMethod yX3_isAbove, .selects RX3 yX3_isAbove yX3_isAbove, .code yX3_isAbove cX3_isAbove 2 (some .boolean), .methodLink RX3 53 yX3_place, .instanceMethod yX3_place, .selects RX3 yX3_place yX3_place, .code yX3_place cX3_place 2 (some .int)] ++ wsX70 ++ wsX50 ++ wsX30)
def wsX7_storm : List Cond := .code yX7_storm cX7_storm 6 (some .int) :: ([.constant RX7 61 (-1000000002), .constantLong RX7 263 (1000000000), .constantLong RX7 265 (100)])
def wsX7_find : List Cond := .code yX7_find cX7_find 4 (some .int) :: ([.fieldLink RX7 19 "ThreeBelow" "land" "LThreeBelow$Shore;", .constant RX7 139 (-1000000001), .constant RX7 61 (-1000000002), .fieldLink RX7 50 "ThreeBelow" "finds" "LThreeBelow$Finds;", .fieldLink RX7 126 "ThreeBelow$Finds" "count" "I", .constant RX7 66 (-1000000004), .methodLink RX7 158 yX5_hasGood, .instanceMethod yX5_hasGood, .selects RX5 yX5_hasGood yX5_hasGood, .initialized RX5, .code yX5_hasGood cX5_hasGood 2 (some .boolean), .fieldLink RX5 43 "ThreeBelow$Shore" "goods" "I", .methodLink RX7 267 yX1_add, .instanceMethod yX1_add, .selects RX1 yX1_add yX1_add, .initialized RX1, .code yX1_add cX1_add 4 none, .fieldLink RX1 36 "ThreeBelow$Finds" "count" "I", .fieldLink RX1 11 "ThreeBelow$Finds" "kinds" "[I", .fieldLink RX1 15 "ThreeBelow$Finds" "numbers" "[I", .fieldLink RX1 18 "ThreeBelow$Finds" "values" "[I", .fieldLink RX1 40 "ThreeBelow$Finds" "isSought" "Z"] ++ wsX70 ++ wsX10 ++ wsX50)
def wsX7_stays_r1 : List Cond := [Cond.fieldLink RX7 50 "ThreeBelow" "finds" "LThreeBelow$Finds;", Cond.fieldLink RX7 19 "ThreeBelow" "land" "LThreeBelow$Shore;", Cond.fieldLink RX7 273 "ThreeBelow$Finds" "fitting" "I", Cond.fieldLink RX7 276 "ThreeBelow$Finds" "fit" "[I", Cond.methodLink RX7 270 yX1_seek, Cond.instanceMethod yX1_seek, Cond.selects RX1 yX1_seek yX1_seek, Cond.initialized RX1, Cond.code yX1_seek cX1_seek 4 none, Cond.fieldLink RX1 40 "ThreeBelow$Finds" "isSought" "Z", Cond.fieldLink RX1 47 "ThreeBelow$Finds" "fitting" "I", Cond.fieldLink RX1 50 "ThreeBelow$Shore" "depths" "I", Cond.fieldLink RX1 26 "ThreeBelow$Finds" "fit" "[I", Cond.methodLink RX1 43 yX1_countWorths, Cond.instanceMethod yX1_countWorths, Cond.selects RX1 yX1_countWorths yX1_countWorths, Cond.code yX1_countWorths cX1_countWorths 6 none, Cond.fieldLink RX1 29 "ThreeBelow$Finds" "isCounted" "Z", Cond.fieldLink RX1 78 "ThreeBelow$Shore" "goods" "I", Cond.fieldLink RX1 81 "ThreeBelow$Shore" "toldWorth" "[I", Cond.fieldLink RX1 23 "ThreeBelow$Finds" "worthThen" "[[I", Cond.fieldLink RX1 71 "ThreeBelow$Shore" "rate" "[I", Cond.methodLink RX1 84 yX5_worthBehind, Cond.instanceMethod yX5_worthBehind]
def wsX7_stays_r2 : List Cond := [Cond.selects RX5 yX5_worthBehind yX5_worthBehind, Cond.initialized RX5, Cond.code yX5_worthBehind cX5_worthBehind 7 (some .int), Cond.methodLink RX5 60 yX5_worthNextYear, Cond.instanceMethod yX5_worthNextYear, Cond.selects RX5 yX5_worthNextYear yX5_worthNextYear, Cond.code yX5_worthNextYear cX5_worthNextYear 4 (some .int), Cond.fieldLink RX5 24 "ThreeBelow$Shore" "change" "[I", Cond.fieldLink RX5 27 "ThreeBelow$Shore" "mostWorth" "[I", Cond.methodLink RX5 57 yX5_hasGood, Cond.instanceMethod yX5_hasGood, Cond.selects RX5 yX5_hasGood yX5_hasGood, Cond.code yX5_hasGood cX5_hasGood 2 (some .boolean), Cond.fieldLink RX5 43 "ThreeBelow$Shore" "goods" "I", Cond.methodLink RX1 55 yX1_fitsAll, Cond.instanceMethod yX1_fitsAll, Cond.selects RX1 yX1_fitsAll yX1_fitsAll, Cond.code yX1_fitsAll cX1_fitsAll 6 (some .boolean), Cond.fieldLink RX1 36 "ThreeBelow$Finds" "count" "I", Cond.fieldLink RX1 11 "ThreeBelow$Finds" "kinds" "[I", Cond.fieldLink RX1 15 "ThreeBelow$Finds" "numbers" "[I", Cond.fieldLink RX1 18 "ThreeBelow$Finds" "values" "[I", Cond.methodLink RX1 68 yX1_worthBy, Cond.instanceMethod yX1_worthBy]
def wsX7_stays_r3 : List Cond := [Cond.selects RX1 yX1_worthBy yX1_worthBy, Cond.code yX1_worthBy cX1_worthBy 4 (some .int), Cond.methodLink RX1 74 yX5_kingAt, Cond.instanceMethod yX5_kingAt, Cond.selects RX5 yX5_kingAt yX5_kingAt, Cond.code yX5_kingAt cX5_kingAt 2 (some .int), Cond.fieldLink RX5 34 "ThreeBelow$Shore" "reign" "I"]
def wsX7_stays : List Cond := .code yX7_stays cX7_stays 2 (some .int) :: ((wsX7_stays_r1 ++ (wsX7_stays_r2 ++ wsX7_stays_r3)) ++ wsX70 ++ wsX10 ++ wsX50)
def wsX7_ask_r1 : List Cond := [Cond.fieldLink RX7 50 "ThreeBelow" "finds" "LThreeBelow$Finds;", Cond.fieldLink RX7 19 "ThreeBelow" "land" "LThreeBelow$Shore;", Cond.fieldLink RX7 273 "ThreeBelow$Finds" "fitting" "I", Cond.fieldLink RX7 107 "ThreeBelow$Shore" "goods" "I", Cond.methodLink RX7 270 yX1_seek, Cond.instanceMethod yX1_seek, Cond.selects RX1 yX1_seek yX1_seek, Cond.initialized RX1, Cond.code yX1_seek cX1_seek 4 none, Cond.fieldLink RX1 40 "ThreeBelow$Finds" "isSought" "Z", Cond.fieldLink RX1 47 "ThreeBelow$Finds" "fitting" "I", Cond.fieldLink RX1 50 "ThreeBelow$Shore" "depths" "I", Cond.fieldLink RX1 26 "ThreeBelow$Finds" "fit" "[I", Cond.methodLink RX1 43 yX1_countWorths, Cond.instanceMethod yX1_countWorths, Cond.selects RX1 yX1_countWorths yX1_countWorths, Cond.code yX1_countWorths cX1_countWorths 6 none, Cond.fieldLink RX1 29 "ThreeBelow$Finds" "isCounted" "Z", Cond.fieldLink RX1 78 "ThreeBelow$Shore" "goods" "I", Cond.fieldLink RX1 81 "ThreeBelow$Shore" "toldWorth" "[I", Cond.fieldLink RX1 23 "ThreeBelow$Finds" "worthThen" "[[I", Cond.fieldLink RX1 71 "ThreeBelow$Shore" "rate" "[I", Cond.methodLink RX1 84 yX5_worthBehind, Cond.instanceMethod yX5_worthBehind]
def wsX7_ask_r2 : List Cond := [Cond.selects RX5 yX5_worthBehind yX5_worthBehind, Cond.initialized RX5, Cond.code yX5_worthBehind cX5_worthBehind 7 (some .int), Cond.methodLink RX5 60 yX5_worthNextYear, Cond.instanceMethod yX5_worthNextYear, Cond.selects RX5 yX5_worthNextYear yX5_worthNextYear, Cond.code yX5_worthNextYear cX5_worthNextYear 4 (some .int), Cond.fieldLink RX5 24 "ThreeBelow$Shore" "change" "[I", Cond.fieldLink RX5 27 "ThreeBelow$Shore" "mostWorth" "[I", Cond.methodLink RX5 57 yX5_hasGood, Cond.instanceMethod yX5_hasGood, Cond.selects RX5 yX5_hasGood yX5_hasGood, Cond.code yX5_hasGood cX5_hasGood 2 (some .boolean), Cond.fieldLink RX5 43 "ThreeBelow$Shore" "goods" "I", Cond.methodLink RX1 55 yX1_fitsAll, Cond.instanceMethod yX1_fitsAll, Cond.selects RX1 yX1_fitsAll yX1_fitsAll, Cond.code yX1_fitsAll cX1_fitsAll 6 (some .boolean), Cond.fieldLink RX1 36 "ThreeBelow$Finds" "count" "I", Cond.fieldLink RX1 11 "ThreeBelow$Finds" "kinds" "[I", Cond.fieldLink RX1 15 "ThreeBelow$Finds" "numbers" "[I", Cond.fieldLink RX1 18 "ThreeBelow$Finds" "values" "[I", Cond.methodLink RX1 68 yX1_worthBy, Cond.instanceMethod yX1_worthBy]
def wsX7_ask_r3 : List Cond := [Cond.selects RX1 yX1_worthBy yX1_worthBy, Cond.code yX1_worthBy cX1_worthBy 4 (some .int), Cond.methodLink RX1 74 yX5_kingAt, Cond.instanceMethod yX5_kingAt, Cond.selects RX5 yX5_kingAt yX5_kingAt, Cond.code yX5_kingAt cX5_kingAt 2 (some .int), Cond.fieldLink RX5 34 "ThreeBelow$Shore" "reign" "I", Cond.methodLink RX7 279 yX1_greatestPart, Cond.instanceMethod yX1_greatestPart, Cond.selects RX1 yX1_greatestPart yX1_greatestPart, Cond.code yX1_greatestPart cX1_greatestPart 4 (some .int), Cond.methodLink RX1 63 Lib.Math.max.name, Cond.static Lib.Math.max.name, Cond.initialized "java/lang/Math", Cond.code Lib.Math.max.name Lib.Math.max.code 2 (some .int), Cond.methodLink RX1 59 yX1_alikeFrom, Cond.instanceMethod yX1_alikeFrom, Cond.selects RX1 yX1_alikeFrom yX1_alikeFrom, Cond.code yX1_alikeFrom cX1_alikeFrom 6 (some .int)]
def wsX7_ask : List Cond := .code yX7_ask cX7_ask 5 (some .int) :: ((wsX7_ask_r1 ++ (wsX7_ask_r2 ++ wsX7_ask_r3)) ++ wsX70 ++ wsX10 ++ wsX50)
def wsX7_write : List Cond := .code yX7_write cX7_write 3 (some .int) :: ([.fieldLink RX7 19 "ThreeBelow" "land" "LThreeBelow$Shore;", .constant RX7 139 (-1000000001), .constant RX7 61 (-1000000002), .fieldLink RX7 57 "ThreeBelow" "book" "LThreeBelow$Book;", .fieldLink RX7 129 "ThreeBelow$Book" "count" "I", .constant RX7 66 (-1000000004), .methodLink RX7 140 yX5_hasPerson, .instanceMethod yX5_hasPerson, .selects RX5 yX5_hasPerson yX5_hasPerson, .initialized RX5, .code yX5_hasPerson cX5_hasPerson 2 (some .boolean), .fieldLink RX5 40 "ThreeBelow$Shore" "persons" "I", .methodLink RX7 282 yX0_add, .instanceMethod yX0_add, .selects RX0 yX0_add yX0_add, .initialized RX0, .code yX0_add cX0_add 3 none, .fieldLink RX0 18 "ThreeBelow$Book" "count" "I", .fieldLink RX0 11 "ThreeBelow$Book" "who" "[I", .fieldLink RX0 15 "ThreeBelow$Book" "ages" "[I"] ++ wsX70 ++ wsX00 ++ wsX50)
def wsX7_tear : List Cond := .code yX7_tear cX7_tear 2 (some .int) :: ([.fieldLink RX7 50 "ThreeBelow" "finds" "LThreeBelow$Finds;", .fieldLink RX7 126 "ThreeBelow$Finds" "count" "I", .fieldLink RX7 57 "ThreeBelow" "book" "LThreeBelow$Book;", .fieldLink RX7 129 "ThreeBelow$Book" "count" "I", .methodLink RX7 284 yX1_empty, .instanceMethod yX1_empty, .selects RX1 yX1_empty yX1_empty, .initialized RX1, .code yX1_empty cX1_empty 1 none, .fieldLink RX1 36 "ThreeBelow$Finds" "count" "I", .fieldLink RX1 40 "ThreeBelow$Finds" "isSought" "Z", .methodLink RX7 91 yX0_empty, .instanceMethod yX0_empty, .selects RX0 yX0_empty yX0_empty, .initialized RX0, .code yX0_empty cX0_empty 1 none, .fieldLink RX0 18 "ThreeBelow$Book" "count" "I"] ++ wsX70 ++ wsX10 ++ wsX00)
def wsX7_judge : List Cond := .code yX7_judge cX7_judge 1 (some .int) :: ([.fieldLink RX7 57 "ThreeBelow" "book" "LThreeBelow$Book;", .fieldLink RX7 29 "ThreeBelow" "life" "LThreeBelow$Life;", .methodLink RX7 285 yX0_firstWrong, .instanceMethod yX0_firstWrong, .selects RX0 yX0_firstWrong yX0_firstWrong, .initialized RX0, .code yX0_firstWrong cX0_firstWrong 3 (some .int), .fieldLink RX0 18 "ThreeBelow$Book" "count" "I", .fieldLink RX0 11 "ThreeBelow$Book" "who" "[I", .fieldLink RX0 15 "ThreeBelow$Book" "ages" "[I", .methodLink RX0 22 yX3_age, .instanceMethod yX3_age, .selects RX3 yX3_age yX3_age, .initialized RX3, .code yX3_age cX3_age 2 (some .int), .fieldLink RX3 11 "ThreeBelow$Life" "row" "[I", .methodLink RX3 46 yX3_isPerson, .static yX3_isPerson, .code yX3_isPerson cX3_isPerson 1 (some .boolean)] ++ wsX70 ++ wsX00 ++ wsX30)
def wsX7_seed : List Cond := .code yX7_seed cX7_seed 3 (some .int) :: ([.constant RX7 61 (-1000000002), .fieldLink RX7 222 "ThreeBelow" "seedNow" "I"] ++ wsX70)
def wsX7_keep_r1 : List Cond := [Cond.fieldLink RX7 43 "ThreeBelow" "images" "LThreeBelow$Images;", Cond.constant RX7 139 (-1000000001), Cond.fieldLink RX7 29 "ThreeBelow" "life" "LThreeBelow$Life;", Cond.fieldLink RX7 222 "ThreeBelow" "seedNow" "I", Cond.fieldLink RX7 36 "ThreeBelow" "past" "LThreeBelow$Past;", Cond.methodLink RX7 289 yX2_hasPlace, Cond.instanceMethod yX2_hasPlace, Cond.selects RX2 yX2_hasPlace yX2_hasPlace, Cond.initialized RX2, Cond.code yX2_hasPlace cX2_hasPlace 2 (some .boolean), Cond.methodLink RX7 292 yX2_put, Cond.instanceMethod yX2_put, Cond.selects RX2 yX2_put yX2_put, Cond.code yX2_put cX2_put 4 none, Cond.fieldLink RX2 13 "ThreeBelow$Images" "rows" "[[I", Cond.fieldLink RX2 16 "ThreeBelow$Images" "seeds" "[I", Cond.fieldLink RX2 20 "ThreeBelow$Images" "isKept" "[Z", Cond.methodLink RX2 24 yX2_hasPlace, Cond.methodLink RX2 28 yX3_copyTo, Cond.instanceMethod yX3_copyTo, Cond.selects RX3 yX3_copyTo yX3_copyTo, Cond.initialized RX3, Cond.code yX3_copyTo cX3_copyTo 2 none, Cond.fieldLink RX3 11 "ThreeBelow$Life" "row" "[I"]
def wsX7_keep_r2 : List Cond := [Cond.methodLink RX3 34 Lib.Math.min.name, Cond.static Lib.Math.min.name, Cond.initialized "java/lang/Math", Cond.code Lib.Math.min.name Lib.Math.min.code 2 (some .int), Cond.methodLink RX3 40 arraycopyName, Cond.native arraycopyName, Cond.static arraycopyName, Cond.initialized "java/lang/System", Cond.methodLink RX7 84 yX4_forget, Cond.instanceMethod yX4_forget, Cond.selects RX4 yX4_forget yX4_forget, Cond.initialized RX4, Cond.code yX4_forget cX4_forget 1 none, Cond.fieldLink RX4 16 "ThreeBelow$Past" "count" "I"]
def wsX7_keep : List Cond := .code yX7_keep cX7_keep 2 (some .int) :: ((wsX7_keep_r1 ++ wsX7_keep_r2) ++ wsX70 ++ wsX20 ++ wsX30 ++ wsX40)
def wsX7_goBack_r1 : List Cond := [Cond.fieldLink RX7 43 "ThreeBelow" "images" "LThreeBelow$Images;", Cond.constant RX7 139 (-1000000001), Cond.fieldLink RX7 296 "ThreeBelow$Images" "isKept" "[Z", Cond.constant RX7 188 (-1000000003), Cond.fieldLink RX7 29 "ThreeBelow" "life" "LThreeBelow$Life;", Cond.fieldLink RX7 300 "ThreeBelow$Images" "rows" "[[I", Cond.fieldLink RX7 308 "ThreeBelow$Images" "seeds" "[I", Cond.fieldLink RX7 222 "ThreeBelow" "seedNow" "I", Cond.fieldLink RX7 36 "ThreeBelow" "past" "LThreeBelow$Past;", Cond.methodLink RX7 289 yX2_hasPlace, Cond.instanceMethod yX2_hasPlace, Cond.selects RX2 yX2_hasPlace yX2_hasPlace, Cond.initialized RX2, Cond.code yX2_hasPlace cX2_hasPlace 2 (some .boolean), Cond.methodLink RX7 304 yX3_copyFrom, Cond.instanceMethod yX3_copyFrom, Cond.selects RX3 yX3_copyFrom yX3_copyFrom, Cond.initialized RX3, Cond.code yX3_copyFrom cX3_copyFrom 2 none, Cond.fieldLink RX3 11 "ThreeBelow$Life" "row" "[I", Cond.methodLink RX3 34 Lib.Math.min.name, Cond.static Lib.Math.min.name, Cond.initialized "java/lang/Math", Cond.code Lib.Math.min.name Lib.Math.min.code 2 (some .int)]
def wsX7_goBack_r2 : List Cond := [Cond.methodLink RX3 40 arraycopyName, Cond.native arraycopyName, Cond.static arraycopyName, Cond.initialized "java/lang/System", Cond.methodLink RX7 84 yX4_forget, Cond.instanceMethod yX4_forget, Cond.selects RX4 yX4_forget yX4_forget, Cond.initialized RX4, Cond.code yX4_forget cX4_forget 1 none, Cond.fieldLink RX4 16 "ThreeBelow$Past" "count" "I"]
def wsX7_goBack : List Cond := .code yX7_goBack cX7_goBack 2 (some .int) :: ((wsX7_goBack_r1 ++ wsX7_goBack_r2) ++ wsX70 ++ wsX20 ++ wsX30 ++ wsX40)
def wsX8_init_r1 : List Cond := [Cond.methodLink RX8 1 objectInit, Cond.instanceMethod objectInit, Cond.code objectInit ⟨#[0xb1]⟩ 1 none, Cond.arrayClass .int, Cond.fieldLink RX8 7 "ThreeBelowModel" "text" "[I", Cond.fieldLink RX8 13 "ThreeBelowModel" "faultAt" "I", Cond.fieldLink RX8 17 "ThreeBelowModel" "law" "[I", Cond.fieldLink RX8 20 "ThreeBelowModel" "depths" "[I", Cond.fieldLink RX8 23 "ThreeBelowModel" "people" "[I", Cond.fieldLink RX8 26 "ThreeBelowModel" "goods" "[I", Cond.fieldLink RX8 29 "ThreeBelowModel" "draftLaw" "[I", Cond.fieldLink RX8 32 "ThreeBelowModel" "draftDepths" "[I", Cond.fieldLink RX8 35 "ThreeBelowModel" "draftPeople" "[I", Cond.fieldLink RX8 38 "ThreeBelowModel" "draftGoods" "[I", Cond.fieldLink RX8 41 "ThreeBelowModel" "now" "[I", Cond.fieldLink RX8 44 "ThreeBelowModel" "past" "[I", Cond.fieldLink RX8 47 "ThreeBelowModel" "images" "[I", Cond.fieldLink RX8 50 "ThreeBelowModel" "imageSeeds" "[I", Cond.arrayClass .boolean, Cond.fieldLink RX8 53 "ThreeBelowModel" "kept" "[Z", Cond.fieldLink RX8 57 "ThreeBelowModel" "found" "[I", Cond.fieldLink RX8 60 "ThreeBelowModel" "book" "[I", Cond.fieldLink RX8 63 "ThreeBelowModel" "worths" "[I", Cond.fieldLink RX8 66 "ThreeBelowModel" "stays" "[I"]
def wsX8_init_r2 : List Cond := [Cond.fieldLink RX8 69 "ThreeBelowModel" "by" "[I"]
def wsX8_init : List Cond := .code yX8_init cX8_init 1 none :: ((wsX8_init_r1 ++ wsX8_init_r2) ++ wsX80)
def wsX8_in : List Cond := .code yX8_in cX8_in 3 (some .boolean) :: ([])
def wsX8_feed : List Cond := .code yX8_feed cX8_feed 2 (some .int) :: ([.constant RX8 76 (-1000000002), .fieldLink RX8 77 "ThreeBelowModel" "letters" "I", .constant RX8 80 (-1000000004), .fieldLink RX8 7 "ThreeBelowModel" "text" "[I", .methodLink RX8 72 yX8_in, .static yX8_in, .initialized RX8, .code yX8_in cX8_in 3 (some .boolean)] ++ wsX80)
def wsX8_look : List Cond := .code yX8_look cX8_look 1 (some .int) :: ([.fieldLink RX8 81 "ThreeBelowModel" "at" "I", .fieldLink RX8 77 "ThreeBelowModel" "letters" "I", .fieldLink RX8 7 "ThreeBelowModel" "text" "[I"] ++ wsX80)
def wsX8_skips : List Cond := .code yX8_skips cX8_skips 1 none :: ([.fieldLink RX8 84 "ThreeBelowModel" "wrong" "I", .fieldLink RX8 81 "ThreeBelowModel" "at" "I", .methodLink RX8 87 yX8_look, .instanceMethod yX8_look, .selects RX8 yX8_look yX8_look, .initialized RX8, .code yX8_look cX8_look 1 (some .int), .fieldLink RX8 77 "ThreeBelowModel" "letters" "I", .fieldLink RX8 7 "ThreeBelowModel" "text" "[I"] ++ wsX80)
def wsX8_fails : List Cond := .code yX8_fails cX8_fails 2 none :: ([.fieldLink RX8 84 "ThreeBelowModel" "wrong" "I"] ++ wsX80)
def wsX8_stops : List Cond := .code yX8_stops cX8_stops 1 none :: ([.fieldLink RX8 84 "ThreeBelowModel" "wrong" "I", .fieldLink RX8 81 "ThreeBelowModel" "at" "I", .methodLink RX8 91 yX8_skips, .instanceMethod yX8_skips, .selects RX8 yX8_skips yX8_skips, .initialized RX8, .code yX8_skips cX8_skips 1 none, .methodLink RX8 87 yX8_look, .instanceMethod yX8_look, .selects RX8 yX8_look yX8_look, .code yX8_look cX8_look 1 (some .int), .fieldLink RX8 77 "ThreeBelowModel" "letters" "I", .fieldLink RX8 7 "ThreeBelowModel" "text" "[I", .methodLink RX8 94 yX8_fails, .instanceMethod yX8_fails, .selects RX8 yX8_fails yX8_fails, .code yX8_fails cX8_fails 2 none] ++ wsX80)
def wsX8_number : List Cond := .code yX8_number cX8_number 5 (some .int) :: ([.fieldLink RX8 84 "ThreeBelowModel" "wrong" "I", .fieldLink RX8 81 "ThreeBelowModel" "at" "I", .methodLink RX8 91 yX8_skips, .instanceMethod yX8_skips, .selects RX8 yX8_skips yX8_skips, .initialized RX8, .code yX8_skips cX8_skips 1 none, .methodLink RX8 87 yX8_look, .instanceMethod yX8_look, .selects RX8 yX8_look yX8_look, .code yX8_look cX8_look 1 (some .int), .fieldLink RX8 77 "ThreeBelowModel" "letters" "I", .fieldLink RX8 7 "ThreeBelowModel" "text" "[I", .methodLink RX8 72 yX8_in, .static yX8_in, .code yX8_in cX8_in 3 (some .boolean), .methodLink RX8 94 yX8_fails, .instanceMethod yX8_fails, .selects RX8 yX8_fails yX8_fails, .code yX8_fails cX8_fails 2 none] ++ wsX80)
def wsX8_opens : List Cond := .code yX8_opens cX8_opens 3 (some .boolean) :: ([.fieldLink RX8 81 "ThreeBelowModel" "at" "I", .methodLink RX8 94 yX8_fails, .instanceMethod yX8_fails, .selects RX8 yX8_fails yX8_fails, .initialized RX8, .code yX8_fails cX8_fails 2 none, .fieldLink RX8 84 "ThreeBelowModel" "wrong" "I"] ++ wsX80)
def wsX8_readsLaw_r1 : List Cond := [Cond.fieldLink RX8 29 "ThreeBelowModel" "draftLaw" "[I", Cond.methodLink RX8 98 yX8_opens, Cond.instanceMethod yX8_opens, Cond.selects RX8 yX8_opens yX8_opens, Cond.initialized RX8, Cond.code yX8_opens cX8_opens 3 (some .boolean), Cond.fieldLink RX8 81 "ThreeBelowModel" "at" "I", Cond.methodLink RX8 94 yX8_fails, Cond.instanceMethod yX8_fails, Cond.selects RX8 yX8_fails yX8_fails, Cond.code yX8_fails cX8_fails 2 none, Cond.fieldLink RX8 84 "ThreeBelowModel" "wrong" "I", Cond.methodLink RX8 102 yX8_number, Cond.instanceMethod yX8_number, Cond.selects RX8 yX8_number yX8_number, Cond.code yX8_number cX8_number 5 (some .int), Cond.methodLink RX8 91 yX8_skips, Cond.instanceMethod yX8_skips, Cond.selects RX8 yX8_skips yX8_skips, Cond.code yX8_skips cX8_skips 1 none, Cond.methodLink RX8 87 yX8_look, Cond.instanceMethod yX8_look, Cond.selects RX8 yX8_look yX8_look, Cond.code yX8_look cX8_look 1 (some .int)]
def wsX8_readsLaw_r2 : List Cond := [Cond.fieldLink RX8 77 "ThreeBelowModel" "letters" "I", Cond.fieldLink RX8 7 "ThreeBelowModel" "text" "[I", Cond.methodLink RX8 72 yX8_in, Cond.static yX8_in, Cond.code yX8_in cX8_in 3 (some .boolean), Cond.methodLink RX8 106 yX8_stops, Cond.instanceMethod yX8_stops, Cond.selects RX8 yX8_stops yX8_stops, Cond.code yX8_stops cX8_stops 1 none]
def wsX8_readsLaw : List Cond := .code yX8_readsLaw cX8_readsLaw 1 none :: ((wsX8_readsLaw_r1 ++ wsX8_readsLaw_r2) ++ wsX80)
def wsX8_readsDepth_r1 : List Cond := [Cond.fieldLink RX8 29 "ThreeBelowModel" "draftLaw" "[I", Cond.fieldLink RX8 32 "ThreeBelowModel" "draftDepths" "[I", Cond.methodLink RX8 98 yX8_opens, Cond.instanceMethod yX8_opens, Cond.selects RX8 yX8_opens yX8_opens, Cond.initialized RX8, Cond.code yX8_opens cX8_opens 3 (some .boolean), Cond.fieldLink RX8 81 "ThreeBelowModel" "at" "I", Cond.methodLink RX8 94 yX8_fails, Cond.instanceMethod yX8_fails, Cond.selects RX8 yX8_fails yX8_fails, Cond.code yX8_fails cX8_fails 2 none, Cond.fieldLink RX8 84 "ThreeBelowModel" "wrong" "I", Cond.methodLink RX8 102 yX8_number, Cond.instanceMethod yX8_number, Cond.selects RX8 yX8_number yX8_number, Cond.code yX8_number cX8_number 5 (some .int), Cond.methodLink RX8 91 yX8_skips, Cond.instanceMethod yX8_skips, Cond.selects RX8 yX8_skips yX8_skips, Cond.code yX8_skips cX8_skips 1 none, Cond.methodLink RX8 87 yX8_look, Cond.instanceMethod yX8_look, Cond.selects RX8 yX8_look yX8_look]
def wsX8_readsDepth_r2 : List Cond := [Cond.code yX8_look cX8_look 1 (some .int), Cond.fieldLink RX8 77 "ThreeBelowModel" "letters" "I", Cond.fieldLink RX8 7 "ThreeBelowModel" "text" "[I", Cond.methodLink RX8 72 yX8_in, Cond.static yX8_in, Cond.code yX8_in cX8_in 3 (some .boolean), Cond.methodLink RX8 106 yX8_stops, Cond.instanceMethod yX8_stops, Cond.selects RX8 yX8_stops yX8_stops, Cond.code yX8_stops cX8_stops 1 none]
def wsX8_readsDepth : List Cond := .code yX8_readsDepth cX8_readsDepth 1 none :: ((wsX8_readsDepth_r1 ++ wsX8_readsDepth_r2) ++ wsX80)
def wsX8_readsPerson_r1 : List Cond := [Cond.fieldLink RX8 29 "ThreeBelowModel" "draftLaw" "[I", Cond.fieldLink RX8 35 "ThreeBelowModel" "draftPeople" "[I", Cond.methodLink RX8 98 yX8_opens, Cond.instanceMethod yX8_opens, Cond.selects RX8 yX8_opens yX8_opens, Cond.initialized RX8, Cond.code yX8_opens cX8_opens 3 (some .boolean), Cond.fieldLink RX8 81 "ThreeBelowModel" "at" "I", Cond.methodLink RX8 94 yX8_fails, Cond.instanceMethod yX8_fails, Cond.selects RX8 yX8_fails yX8_fails, Cond.code yX8_fails cX8_fails 2 none, Cond.fieldLink RX8 84 "ThreeBelowModel" "wrong" "I", Cond.methodLink RX8 102 yX8_number, Cond.instanceMethod yX8_number, Cond.selects RX8 yX8_number yX8_number, Cond.code yX8_number cX8_number 5 (some .int), Cond.methodLink RX8 91 yX8_skips, Cond.instanceMethod yX8_skips, Cond.selects RX8 yX8_skips yX8_skips, Cond.code yX8_skips cX8_skips 1 none, Cond.methodLink RX8 87 yX8_look, Cond.instanceMethod yX8_look, Cond.selects RX8 yX8_look yX8_look]
def wsX8_readsPerson_r2 : List Cond := [Cond.code yX8_look cX8_look 1 (some .int), Cond.fieldLink RX8 77 "ThreeBelowModel" "letters" "I", Cond.fieldLink RX8 7 "ThreeBelowModel" "text" "[I", Cond.methodLink RX8 72 yX8_in, Cond.static yX8_in, Cond.code yX8_in cX8_in 3 (some .boolean), Cond.methodLink RX8 106 yX8_stops, Cond.instanceMethod yX8_stops, Cond.selects RX8 yX8_stops yX8_stops, Cond.code yX8_stops cX8_stops 1 none]
def wsX8_readsPerson : List Cond := .code yX8_readsPerson cX8_readsPerson 1 none :: ((wsX8_readsPerson_r1 ++ wsX8_readsPerson_r2) ++ wsX80)
def wsX8_readsGood_r1 : List Cond := [Cond.fieldLink RX8 29 "ThreeBelowModel" "draftLaw" "[I", Cond.fieldLink RX8 38 "ThreeBelowModel" "draftGoods" "[I", Cond.methodLink RX8 98 yX8_opens, Cond.instanceMethod yX8_opens, Cond.selects RX8 yX8_opens yX8_opens, Cond.initialized RX8, Cond.code yX8_opens cX8_opens 3 (some .boolean), Cond.fieldLink RX8 81 "ThreeBelowModel" "at" "I", Cond.methodLink RX8 94 yX8_fails, Cond.instanceMethod yX8_fails, Cond.selects RX8 yX8_fails yX8_fails, Cond.code yX8_fails cX8_fails 2 none, Cond.fieldLink RX8 84 "ThreeBelowModel" "wrong" "I", Cond.methodLink RX8 102 yX8_number, Cond.instanceMethod yX8_number, Cond.selects RX8 yX8_number yX8_number, Cond.code yX8_number cX8_number 5 (some .int), Cond.methodLink RX8 91 yX8_skips, Cond.instanceMethod yX8_skips, Cond.selects RX8 yX8_skips yX8_skips, Cond.code yX8_skips cX8_skips 1 none, Cond.methodLink RX8 87 yX8_look, Cond.instanceMethod yX8_look, Cond.selects RX8 yX8_look yX8_look]
def wsX8_readsGood_r2 : List Cond := [Cond.code yX8_look cX8_look 1 (some .int), Cond.fieldLink RX8 77 "ThreeBelowModel" "letters" "I", Cond.fieldLink RX8 7 "ThreeBelowModel" "text" "[I", Cond.methodLink RX8 72 yX8_in, Cond.static yX8_in, Cond.code yX8_in cX8_in 3 (some .boolean), Cond.methodLink RX8 106 yX8_stops, Cond.instanceMethod yX8_stops, Cond.selects RX8 yX8_stops yX8_stops, Cond.code yX8_stops cX8_stops 1 none]
def wsX8_readsGood : List Cond := .code yX8_readsGood cX8_readsGood 1 none :: ((wsX8_readsGood_r1 ++ wsX8_readsGood_r2) ++ wsX80)
def wsX8_reads_r1 : List Cond := [Cond.fieldLink RX8 84 "ThreeBelowModel" "wrong" "I", Cond.fieldLink RX8 29 "ThreeBelowModel" "draftLaw" "[I", Cond.methodLink RX8 87 yX8_look, Cond.instanceMethod yX8_look, Cond.selects RX8 yX8_look yX8_look, Cond.initialized RX8, Cond.code yX8_look cX8_look 1 (some .int), Cond.fieldLink RX8 81 "ThreeBelowModel" "at" "I", Cond.fieldLink RX8 77 "ThreeBelowModel" "letters" "I", Cond.fieldLink RX8 7 "ThreeBelowModel" "text" "[I", Cond.methodLink RX8 109 yX8_readsLaw, Cond.instanceMethod yX8_readsLaw, Cond.selects RX8 yX8_readsLaw yX8_readsLaw, Cond.code yX8_readsLaw cX8_readsLaw 1 none, Cond.methodLink RX8 98 yX8_opens, Cond.instanceMethod yX8_opens, Cond.selects RX8 yX8_opens yX8_opens, Cond.code yX8_opens cX8_opens 3 (some .boolean), Cond.methodLink RX8 94 yX8_fails, Cond.instanceMethod yX8_fails, Cond.selects RX8 yX8_fails yX8_fails, Cond.code yX8_fails cX8_fails 2 none, Cond.methodLink RX8 102 yX8_number, Cond.instanceMethod yX8_number]
def wsX8_reads_r2 : List Cond := [Cond.selects RX8 yX8_number yX8_number, Cond.code yX8_number cX8_number 5 (some .int), Cond.methodLink RX8 91 yX8_skips, Cond.instanceMethod yX8_skips, Cond.selects RX8 yX8_skips yX8_skips, Cond.code yX8_skips cX8_skips 1 none, Cond.methodLink RX8 72 yX8_in, Cond.static yX8_in, Cond.code yX8_in cX8_in 3 (some .boolean), Cond.methodLink RX8 106 yX8_stops, Cond.instanceMethod yX8_stops, Cond.selects RX8 yX8_stops yX8_stops, Cond.code yX8_stops cX8_stops 1 none, Cond.methodLink RX8 112 yX8_readsDepth, Cond.instanceMethod yX8_readsDepth, Cond.selects RX8 yX8_readsDepth yX8_readsDepth, Cond.code yX8_readsDepth cX8_readsDepth 1 none, Cond.fieldLink RX8 32 "ThreeBelowModel" "draftDepths" "[I", Cond.methodLink RX8 115 yX8_readsPerson, Cond.instanceMethod yX8_readsPerson, Cond.selects RX8 yX8_readsPerson yX8_readsPerson, Cond.code yX8_readsPerson cX8_readsPerson 1 none, Cond.fieldLink RX8 35 "ThreeBelowModel" "draftPeople" "[I", Cond.methodLink RX8 118 yX8_readsGood]
def wsX8_reads_r3 : List Cond := [Cond.instanceMethod yX8_readsGood, Cond.selects RX8 yX8_readsGood yX8_readsGood, Cond.code yX8_readsGood cX8_readsGood 1 none, Cond.fieldLink RX8 38 "ThreeBelowModel" "draftGoods" "[I"]
def wsX8_reads : List Cond := .code yX8_reads cX8_reads 1 none :: ((wsX8_reads_r1 ++ (wsX8_reads_r2 ++ wsX8_reads_r3)) ++ wsX80)
def wsX8_copies : List Cond := .code yX8_copies cX8_copies 4 none :: ([])
def wsX8_shore_r1 : List Cond := [Cond.fieldLink RX8 81 "ThreeBelowModel" "at" "I", Cond.fieldLink RX8 84 "ThreeBelowModel" "wrong" "I", Cond.fieldLink RX8 38 "ThreeBelowModel" "draftGoods" "[I", Cond.fieldLink RX8 35 "ThreeBelowModel" "draftPeople" "[I", Cond.fieldLink RX8 29 "ThreeBelowModel" "draftLaw" "[I", Cond.fieldLink RX8 32 "ThreeBelowModel" "draftDepths" "[I", Cond.fieldLink RX8 77 "ThreeBelowModel" "letters" "I", Cond.fieldLink RX8 13 "ThreeBelowModel" "faultAt" "I", Cond.fieldLink RX8 17 "ThreeBelowModel" "law" "[I", Cond.fieldLink RX8 20 "ThreeBelowModel" "depths" "[I", Cond.fieldLink RX8 23 "ThreeBelowModel" "people" "[I", Cond.fieldLink RX8 26 "ThreeBelowModel" "goods" "[I", Cond.fieldLink RX8 41 "ThreeBelowModel" "now" "[I", Cond.fieldLink RX8 128 "ThreeBelowModel" "deeds" "I", Cond.fieldLink RX8 131 "ThreeBelowModel" "finds" "I", Cond.fieldLink RX8 134 "ThreeBelowModel" "entries" "I", Cond.fieldLink RX8 53 "ThreeBelowModel" "kept" "[Z", Cond.methodLink RX8 91 yX8_skips, Cond.instanceMethod yX8_skips, Cond.selects RX8 yX8_skips yX8_skips, Cond.initialized RX8, Cond.code yX8_skips cX8_skips 1 none, Cond.methodLink RX8 87 yX8_look, Cond.instanceMethod yX8_look]
def wsX8_shore_r2 : List Cond := [Cond.selects RX8 yX8_look yX8_look, Cond.code yX8_look cX8_look 1 (some .int), Cond.fieldLink RX8 7 "ThreeBelowModel" "text" "[I", Cond.methodLink RX8 121 yX8_reads, Cond.instanceMethod yX8_reads, Cond.selects RX8 yX8_reads yX8_reads, Cond.code yX8_reads cX8_reads 1 none, Cond.methodLink RX8 109 yX8_readsLaw, Cond.instanceMethod yX8_readsLaw, Cond.selects RX8 yX8_readsLaw yX8_readsLaw, Cond.code yX8_readsLaw cX8_readsLaw 1 none, Cond.methodLink RX8 98 yX8_opens, Cond.instanceMethod yX8_opens, Cond.selects RX8 yX8_opens yX8_opens, Cond.code yX8_opens cX8_opens 3 (some .boolean), Cond.methodLink RX8 94 yX8_fails, Cond.instanceMethod yX8_fails, Cond.selects RX8 yX8_fails yX8_fails, Cond.code yX8_fails cX8_fails 2 none, Cond.methodLink RX8 102 yX8_number, Cond.instanceMethod yX8_number, Cond.selects RX8 yX8_number yX8_number, Cond.code yX8_number cX8_number 5 (some .int), Cond.methodLink RX8 72 yX8_in]
def wsX8_shore_r3 : List Cond := [Cond.static yX8_in, Cond.code yX8_in cX8_in 3 (some .boolean), Cond.methodLink RX8 106 yX8_stops, Cond.instanceMethod yX8_stops, Cond.selects RX8 yX8_stops yX8_stops, Cond.code yX8_stops cX8_stops 1 none, Cond.methodLink RX8 112 yX8_readsDepth, Cond.instanceMethod yX8_readsDepth, Cond.selects RX8 yX8_readsDepth yX8_readsDepth, Cond.code yX8_readsDepth cX8_readsDepth 1 none, Cond.methodLink RX8 115 yX8_readsPerson, Cond.instanceMethod yX8_readsPerson, Cond.selects RX8 yX8_readsPerson yX8_readsPerson, Cond.code yX8_readsPerson cX8_readsPerson 1 none, Cond.methodLink RX8 118 yX8_readsGood, Cond.instanceMethod yX8_readsGood, Cond.selects RX8 yX8_readsGood yX8_readsGood, Cond.code yX8_readsGood cX8_readsGood 1 none, Cond.methodLink RX8 124 yX8_copies, Cond.static yX8_copies, Cond.code yX8_copies cX8_copies 4 none]
def wsX8_shore : List Cond := .code yX8_shore cX8_shore 2 (some .int) :: ((wsX8_shore_r1 ++ (wsX8_shore_r2 ++ wsX8_shore_r3)) ++ wsX80)
def wsX8_fault : List Cond := .code yX8_fault cX8_fault 1 (some .int) :: ([.fieldLink RX8 13 "ThreeBelowModel" "faultAt" "I"] ++ wsX80)
def wsX8_isShore : List Cond := .code yX8_isShore cX8_isShore 1 (some .boolean) :: ([.fieldLink RX8 17 "ThreeBelowModel" "law" "[I"] ++ wsX80)
def wsX8_isDepth : List Cond := .code yX8_isDepth cX8_isDepth 2 (some .boolean) :: ([.fieldLink RX8 17 "ThreeBelowModel" "law" "[I", .methodLink RX8 72 yX8_in, .static yX8_in, .initialized RX8, .code yX8_in cX8_in 3 (some .boolean)] ++ wsX80)
def wsX8_isPerson : List Cond := .code yX8_isPerson cX8_isPerson 2 (some .boolean) :: ([.fieldLink RX8 17 "ThreeBelowModel" "law" "[I", .methodLink RX8 72 yX8_in, .static yX8_in, .initialized RX8, .code yX8_in cX8_in 3 (some .boolean)] ++ wsX80)
def wsX8_isGood : List Cond := .code yX8_isGood cX8_isGood 2 (some .boolean) :: ([.fieldLink RX8 17 "ThreeBelowModel" "law" "[I", .methodLink RX8 72 yX8_in, .static yX8_in, .initialized RX8, .code yX8_in cX8_in 3 (some .boolean)] ++ wsX80)
def wsX8_isAbove : List Cond := .code yX8_isAbove cX8_isAbove 2 (some .boolean) :: ([.fieldLink RX8 41 "ThreeBelowModel" "now" "[I"] ++ wsX80)
def wsX8_isBelow : List Cond := .code yX8_isBelow cX8_isBelow 2 (some .boolean) :: ([.fieldLink RX8 41 "ThreeBelowModel" "now" "[I"] ++ wsX80)
def wsX8_end : List Cond := .code yX8_end cX8_end 2 (some .int) :: ([.fieldLink RX8 23 "ThreeBelowModel" "people" "[I"] ++ wsX80)
def wsX8_who : List Cond := .code yX8_who cX8_who 5 (some .int) :: ([.fieldLink RX8 17 "ThreeBelowModel" "law" "[I", .fieldLink RX8 41 "ThreeBelowModel" "now" "[I", .methodLink RX8 137 yX8_isBelow, .instanceMethod yX8_isBelow, .selects RX8 yX8_isBelow yX8_isBelow, .initialized RX8, .code yX8_isBelow cX8_isBelow 2 (some .boolean)] ++ wsX80)
def wsX8_told : List Cond := .code yX8_told cX8_told 2 (some .int) :: ([.fieldLink RX8 17 "ThreeBelowModel" "law" "[I", .fieldLink RX8 77 "ThreeBelowModel" "letters" "I", .fieldLink RX8 41 "ThreeBelowModel" "now" "[I", .fieldLink RX8 131 "ThreeBelowModel" "finds" "I", .fieldLink RX8 134 "ThreeBelowModel" "entries" "I", .fieldLink RX8 128 "ThreeBelowModel" "deeds" "I", .constant RX8 76 (-1000000002), .methodLink RX8 141 yX8_isShore, .instanceMethod yX8_isShore, .selects RX8 yX8_isShore yX8_isShore, .initialized RX8, .code yX8_isShore cX8_isShore 1 (some .boolean), .methodLink RX8 145 yX8_who, .instanceMethod yX8_who, .selects RX8 yX8_who yX8_who, .code yX8_who cX8_who 5 (some .int), .methodLink RX8 137 yX8_isBelow, .instanceMethod yX8_isBelow, .selects RX8 yX8_isBelow yX8_isBelow, .code yX8_isBelow cX8_isBelow 2 (some .boolean)] ++ wsX80)
def wsX8_depth : List Cond := .code yX8_depth cX8_depth 2 (some .int) :: ([.fieldLink RX8 20 "ThreeBelowModel" "depths" "[I", .constant RX8 152 (-1000000001), .methodLink RX8 149 yX8_isDepth, .instanceMethod yX8_isDepth, .selects RX8 yX8_isDepth yX8_isDepth, .initialized RX8, .code yX8_isDepth cX8_isDepth 2 (some .boolean), .fieldLink RX8 17 "ThreeBelowModel" "law" "[I", .methodLink RX8 72 yX8_in, .static yX8_in, .code yX8_in cX8_in 3 (some .boolean)] ++ wsX80)
def wsX8_daysOf : List Cond := .code yX8_daysOf cX8_daysOf 2 (some .int) :: ([.fieldLink RX8 41 "ThreeBelowModel" "now" "[I", .fieldLink RX8 20 "ThreeBelowModel" "depths" "[I", .methodLink RX8 137 yX8_isBelow, .instanceMethod yX8_isBelow, .selects RX8 yX8_isBelow yX8_isBelow, .initialized RX8, .code yX8_isBelow cX8_isBelow 2 (some .boolean)] ++ wsX80)
def wsX8_person_r1 : List Cond := [Cond.constant RX8 152 (-1000000001), Cond.fieldLink RX8 41 "ThreeBelowModel" "now" "[I", Cond.constant RX8 76 (-1000000002), Cond.methodLink RX8 153 yX8_isPerson, Cond.instanceMethod yX8_isPerson, Cond.selects RX8 yX8_isPerson yX8_isPerson, Cond.initialized RX8, Cond.code yX8_isPerson cX8_isPerson 2 (some .boolean), Cond.fieldLink RX8 17 "ThreeBelowModel" "law" "[I", Cond.methodLink RX8 72 yX8_in, Cond.static yX8_in, Cond.code yX8_in cX8_in 3 (some .boolean), Cond.methodLink RX8 156 yX8_end, Cond.instanceMethod yX8_end, Cond.selects RX8 yX8_end yX8_end, Cond.code yX8_end cX8_end 2 (some .int), Cond.fieldLink RX8 23 "ThreeBelowModel" "people" "[I", Cond.methodLink RX8 159 yX8_daysOf, Cond.instanceMethod yX8_daysOf, Cond.selects RX8 yX8_daysOf yX8_daysOf, Cond.code yX8_daysOf cX8_daysOf 2 (some .int), Cond.fieldLink RX8 20 "ThreeBelowModel" "depths" "[I", Cond.methodLink RX8 137 yX8_isBelow, Cond.instanceMethod yX8_isBelow]
def wsX8_person_r2 : List Cond := [Cond.selects RX8 yX8_isBelow yX8_isBelow, Cond.code yX8_isBelow cX8_isBelow 2 (some .boolean)]
def wsX8_person : List Cond := .code yX8_person cX8_person 3 (some .int) :: ((wsX8_person_r1 ++ wsX8_person_r2) ++ wsX80)
def wsX8_good : List Cond := .code yX8_good cX8_good 3 (some .int) :: ([.constant RX8 152 (-1000000001), .constant RX8 76 (-1000000002), .fieldLink RX8 41 "ThreeBelowModel" "now" "[I", .fieldLink RX8 26 "ThreeBelowModel" "goods" "[I", .methodLink RX8 162 yX8_isGood, .instanceMethod yX8_isGood, .selects RX8 yX8_isGood yX8_isGood, .initialized RX8, .code yX8_isGood cX8_isGood 2 (some .boolean), .fieldLink RX8 17 "ThreeBelowModel" "law" "[I", .methodLink RX8 72 yX8_in, .static yX8_in, .code yX8_in cX8_in 3 (some .boolean)] ++ wsX80)
def wsX8_notes : List Cond := .code yX8_notes cX8_notes 2 none :: ([.fieldLink RX8 128 "ThreeBelowModel" "deeds" "I", .fieldLink RX8 44 "ThreeBelowModel" "past" "[I", .fieldLink RX8 41 "ThreeBelowModel" "now" "[I"] ++ wsX80)
def wsX8_later : List Cond := .code yX8_later cX8_later 5 (some .int) :: ([.fieldLink RX8 26 "ThreeBelowModel" "goods" "[I"] ++ wsX80)
def wsX8_passes : List Cond := .code yX8_passes cX8_passes 2 none :: ([.fieldLink RX8 17 "ThreeBelowModel" "law" "[I", .fieldLink RX8 41 "ThreeBelowModel" "now" "[I", .methodLink RX8 165 yX8_isAbove, .instanceMethod yX8_isAbove, .selects RX8 yX8_isAbove yX8_isAbove, .initialized RX8, .code yX8_isAbove cX8_isAbove 2 (some .boolean), .methodLink RX8 156 yX8_end, .instanceMethod yX8_end, .selects RX8 yX8_end yX8_end, .code yX8_end cX8_end 2 (some .int), .fieldLink RX8 23 "ThreeBelowModel" "people" "[I", .methodLink RX8 137 yX8_isBelow, .instanceMethod yX8_isBelow, .selects RX8 yX8_isBelow yX8_isBelow, .code yX8_isBelow cX8_isBelow 2 (some .boolean), .methodLink RX8 168 yX8_later, .instanceMethod yX8_later, .selects RX8 yX8_later yX8_later, .code yX8_later cX8_later 5 (some .int), .fieldLink RX8 26 "ThreeBelowModel" "goods" "[I"] ++ wsX80)
def wsX8_barred : List Cond := .code yX8_barred cX8_barred 3 (some .int) :: ([.constant RX8 76 (-1000000002), .constant RX8 171 (-1000000003), .fieldLink RX8 41 "ThreeBelowModel" "now" "[I", .constant RX8 172 (90000), .constant RX8 80 (-1000000004), .methodLink RX8 72 yX8_in, .static yX8_in, .initialized RX8, .code yX8_in cX8_in 3 (some .boolean), .methodLink RX8 141 yX8_isShore, .instanceMethod yX8_isShore, .selects RX8 yX8_isShore yX8_isShore, .code yX8_isShore cX8_isShore 1 (some .boolean), .fieldLink RX8 17 "ThreeBelowModel" "law" "[I"] ++ wsX80)
def wsX8_year_r1 : List Cond := [Cond.fieldLink RX8 41 "ThreeBelowModel" "now" "[I", Cond.methodLink RX8 173 yX8_barred, Cond.instanceMethod yX8_barred, Cond.selects RX8 yX8_barred yX8_barred, Cond.initialized RX8, Cond.code yX8_barred cX8_barred 3 (some .int), Cond.constant RX8 76 (-1000000002), Cond.constant RX8 171 (-1000000003), Cond.constant RX8 172 (90000), Cond.constant RX8 80 (-1000000004), Cond.methodLink RX8 72 yX8_in, Cond.static yX8_in, Cond.code yX8_in cX8_in 3 (some .boolean), Cond.methodLink RX8 141 yX8_isShore, Cond.instanceMethod yX8_isShore, Cond.selects RX8 yX8_isShore yX8_isShore, Cond.code yX8_isShore cX8_isShore 1 (some .boolean), Cond.fieldLink RX8 17 "ThreeBelowModel" "law" "[I", Cond.methodLink RX8 176 yX8_notes, Cond.instanceMethod yX8_notes, Cond.selects RX8 yX8_notes yX8_notes, Cond.code yX8_notes cX8_notes 2 none, Cond.fieldLink RX8 128 "ThreeBelowModel" "deeds" "I", Cond.fieldLink RX8 44 "ThreeBelowModel" "past" "[I"]
def wsX8_year_r2 : List Cond := [Cond.methodLink RX8 179 yX8_passes, Cond.instanceMethod yX8_passes, Cond.selects RX8 yX8_passes yX8_passes, Cond.code yX8_passes cX8_passes 2 none, Cond.methodLink RX8 165 yX8_isAbove, Cond.instanceMethod yX8_isAbove, Cond.selects RX8 yX8_isAbove yX8_isAbove, Cond.code yX8_isAbove cX8_isAbove 2 (some .boolean), Cond.methodLink RX8 156 yX8_end, Cond.instanceMethod yX8_end, Cond.selects RX8 yX8_end yX8_end, Cond.code yX8_end cX8_end 2 (some .int), Cond.fieldLink RX8 23 "ThreeBelowModel" "people" "[I", Cond.methodLink RX8 137 yX8_isBelow, Cond.instanceMethod yX8_isBelow, Cond.selects RX8 yX8_isBelow yX8_isBelow, Cond.code yX8_isBelow cX8_isBelow 2 (some .boolean), Cond.methodLink RX8 168 yX8_later, Cond.instanceMethod yX8_later, Cond.selects RX8 yX8_later yX8_later, Cond.code yX8_later cX8_later 5 (some .int), Cond.fieldLink RX8 26 "ThreeBelowModel" "goods" "[I"]
def wsX8_year : List Cond := .code yX8_year cX8_year 4 (some .int) :: ((wsX8_year_r1 ++ wsX8_year_r2) ++ wsX80)
def wsX8_descends : List Cond := .code yX8_descends cX8_descends 3 none :: ([.fieldLink RX8 41 "ThreeBelowModel" "now" "[I"] ++ wsX80)
def wsX8_down_r1 : List Cond := [Cond.constant RX8 152 (-1000000001), Cond.constant RX8 171 (-1000000003), Cond.fieldLink RX8 41 "ThreeBelowModel" "now" "[I", Cond.methodLink RX8 153 yX8_isPerson, Cond.instanceMethod yX8_isPerson, Cond.selects RX8 yX8_isPerson yX8_isPerson, Cond.initialized RX8, Cond.code yX8_isPerson cX8_isPerson 2 (some .boolean), Cond.fieldLink RX8 17 "ThreeBelowModel" "law" "[I", Cond.methodLink RX8 72 yX8_in, Cond.static yX8_in, Cond.code yX8_in cX8_in 3 (some .boolean), Cond.methodLink RX8 149 yX8_isDepth, Cond.instanceMethod yX8_isDepth, Cond.selects RX8 yX8_isDepth yX8_isDepth, Cond.code yX8_isDepth cX8_isDepth 2 (some .boolean), Cond.methodLink RX8 165 yX8_isAbove, Cond.instanceMethod yX8_isAbove, Cond.selects RX8 yX8_isAbove yX8_isAbove, Cond.code yX8_isAbove cX8_isAbove 2 (some .boolean), Cond.methodLink RX8 176 yX8_notes, Cond.instanceMethod yX8_notes, Cond.selects RX8 yX8_notes yX8_notes, Cond.code yX8_notes cX8_notes 2 none]
def wsX8_down_r2 : List Cond := [Cond.fieldLink RX8 128 "ThreeBelowModel" "deeds" "I", Cond.fieldLink RX8 44 "ThreeBelowModel" "past" "[I", Cond.methodLink RX8 182 yX8_descends, Cond.instanceMethod yX8_descends, Cond.selects RX8 yX8_descends yX8_descends, Cond.code yX8_descends cX8_descends 3 none]
def wsX8_down : List Cond := .code yX8_down cX8_down 3 (some .int) :: ((wsX8_down_r1 ++ wsX8_down_r2) ++ wsX80)
def wsX8_ascends : List Cond := .code yX8_ascends cX8_ascends 2 none :: ([.fieldLink RX8 41 "ThreeBelowModel" "now" "[I"] ++ wsX80)
def wsX8_up_r1 : List Cond := [Cond.constant RX8 152 (-1000000001), Cond.constant RX8 171 (-1000000003), Cond.methodLink RX8 153 yX8_isPerson, Cond.instanceMethod yX8_isPerson, Cond.selects RX8 yX8_isPerson yX8_isPerson, Cond.initialized RX8, Cond.code yX8_isPerson cX8_isPerson 2 (some .boolean), Cond.fieldLink RX8 17 "ThreeBelowModel" "law" "[I", Cond.methodLink RX8 72 yX8_in, Cond.static yX8_in, Cond.code yX8_in cX8_in 3 (some .boolean), Cond.methodLink RX8 137 yX8_isBelow, Cond.instanceMethod yX8_isBelow, Cond.selects RX8 yX8_isBelow yX8_isBelow, Cond.code yX8_isBelow cX8_isBelow 2 (some .boolean), Cond.fieldLink RX8 41 "ThreeBelowModel" "now" "[I", Cond.methodLink RX8 176 yX8_notes, Cond.instanceMethod yX8_notes, Cond.selects RX8 yX8_notes yX8_notes, Cond.code yX8_notes cX8_notes 2 none, Cond.fieldLink RX8 128 "ThreeBelowModel" "deeds" "I", Cond.fieldLink RX8 44 "ThreeBelowModel" "past" "[I", Cond.methodLink RX8 159 yX8_daysOf, Cond.instanceMethod yX8_daysOf]
def wsX8_up_r2 : List Cond := [Cond.selects RX8 yX8_daysOf yX8_daysOf, Cond.code yX8_daysOf cX8_daysOf 2 (some .int), Cond.fieldLink RX8 20 "ThreeBelowModel" "depths" "[I", Cond.methodLink RX8 186 yX8_ascends, Cond.instanceMethod yX8_ascends, Cond.selects RX8 yX8_ascends yX8_ascends, Cond.code yX8_ascends cX8_ascends 2 none]
def wsX8_up : List Cond := .code yX8_up cX8_up 3 (some .int) :: ((wsX8_up_r1 ++ wsX8_up_r2) ++ wsX80)
def wsX8_open_r1 : List Cond := [Cond.constant RX8 152 (-1000000001), Cond.constant RX8 171 (-1000000003), Cond.fieldLink RX8 41 "ThreeBelowModel" "now" "[I", Cond.methodLink RX8 153 yX8_isPerson, Cond.instanceMethod yX8_isPerson, Cond.selects RX8 yX8_isPerson yX8_isPerson, Cond.initialized RX8, Cond.code yX8_isPerson cX8_isPerson 2 (some .boolean), Cond.fieldLink RX8 17 "ThreeBelowModel" "law" "[I", Cond.methodLink RX8 72 yX8_in, Cond.static yX8_in, Cond.code yX8_in cX8_in 3 (some .boolean), Cond.methodLink RX8 165 yX8_isAbove, Cond.instanceMethod yX8_isAbove, Cond.selects RX8 yX8_isAbove yX8_isAbove, Cond.code yX8_isAbove cX8_isAbove 2 (some .boolean), Cond.methodLink RX8 176 yX8_notes, Cond.instanceMethod yX8_notes, Cond.selects RX8 yX8_notes yX8_notes, Cond.code yX8_notes cX8_notes 2 none, Cond.fieldLink RX8 128 "ThreeBelowModel" "deeds" "I", Cond.fieldLink RX8 44 "ThreeBelowModel" "past" "[I", Cond.methodLink RX8 156 yX8_end, Cond.instanceMethod yX8_end]
def wsX8_open_r2 : List Cond := [Cond.selects RX8 yX8_end yX8_end, Cond.code yX8_end cX8_end 2 (some .int), Cond.fieldLink RX8 23 "ThreeBelowModel" "people" "[I"]
def wsX8_open : List Cond := .code yX8_open cX8_open 2 (some .int) :: ((wsX8_open_r1 ++ wsX8_open_r2) ++ wsX80)
def wsX8_take : List Cond := .code yX8_take cX8_take 3 (some .int) :: ([.constant RX8 152 (-1000000001), .fieldLink RX8 41 "ThreeBelowModel" "now" "[I", .constant RX8 171 (-1000000003), .methodLink RX8 162 yX8_isGood, .instanceMethod yX8_isGood, .selects RX8 yX8_isGood yX8_isGood, .initialized RX8, .code yX8_isGood cX8_isGood 2 (some .boolean), .fieldLink RX8 17 "ThreeBelowModel" "law" "[I", .methodLink RX8 72 yX8_in, .static yX8_in, .code yX8_in cX8_in 3 (some .boolean), .methodLink RX8 176 yX8_notes, .instanceMethod yX8_notes, .selects RX8 yX8_notes yX8_notes, .code yX8_notes cX8_notes 2 none, .fieldLink RX8 128 "ThreeBelowModel" "deeds" "I", .fieldLink RX8 44 "ThreeBelowModel" "past" "[I"] ++ wsX80)
def wsX8_draw : List Cond := .code yX8_draw cX8_draw 2 (some .int) :: ([.fieldLink RX8 189 "ThreeBelowModel" "seed" "I", .constantLong RX8 192 (1103515245), .constantLong RX8 194 (12345), .constantLong RX8 196 (2147483647), .constant RX8 198 (65536)] ++ wsX80)
def wsX8_drift_r1 : List Cond := [Cond.fieldLink RX8 17 "ThreeBelowModel" "law" "[I", Cond.fieldLink RX8 41 "ThreeBelowModel" "now" "[I", Cond.methodLink RX8 173 yX8_barred, Cond.instanceMethod yX8_barred, Cond.selects RX8 yX8_barred yX8_barred, Cond.initialized RX8, Cond.code yX8_barred cX8_barred 3 (some .int), Cond.constant RX8 76 (-1000000002), Cond.constant RX8 171 (-1000000003), Cond.constant RX8 172 (90000), Cond.constant RX8 80 (-1000000004), Cond.methodLink RX8 72 yX8_in, Cond.static yX8_in, Cond.code yX8_in cX8_in 3 (some .boolean), Cond.methodLink RX8 141 yX8_isShore, Cond.instanceMethod yX8_isShore, Cond.selects RX8 yX8_isShore yX8_isShore, Cond.code yX8_isShore cX8_isShore 1 (some .boolean), Cond.methodLink RX8 176 yX8_notes, Cond.instanceMethod yX8_notes, Cond.selects RX8 yX8_notes yX8_notes, Cond.code yX8_notes cX8_notes 2 none, Cond.fieldLink RX8 128 "ThreeBelowModel" "deeds" "I", Cond.fieldLink RX8 44 "ThreeBelowModel" "past" "[I"]
def wsX8_drift_r2 : List Cond := [Cond.methodLink RX8 199 yX8_draw, Cond.instanceMethod yX8_draw, Cond.selects RX8 yX8_draw yX8_draw, Cond.code yX8_draw cX8_draw 2 (some .int), Cond.fieldLink RX8 189 "ThreeBelowModel" "seed" "I", Cond.constantLong RX8 192 (1103515245), Cond.constantLong RX8 194 (12345), Cond.constantLong RX8 196 (2147483647), Cond.constant RX8 198 (65536), Cond.methodLink RX8 165 yX8_isAbove, Cond.instanceMethod yX8_isAbove, Cond.selects RX8 yX8_isAbove yX8_isAbove, Cond.code yX8_isAbove cX8_isAbove 2 (some .boolean), Cond.methodLink RX8 182 yX8_descends, Cond.instanceMethod yX8_descends, Cond.selects RX8 yX8_descends yX8_descends, Cond.code yX8_descends cX8_descends 3 none, Cond.methodLink RX8 137 yX8_isBelow, Cond.instanceMethod yX8_isBelow, Cond.selects RX8 yX8_isBelow yX8_isBelow, Cond.code yX8_isBelow cX8_isBelow 2 (some .boolean), Cond.methodLink RX8 186 yX8_ascends, Cond.instanceMethod yX8_ascends, Cond.selects RX8 yX8_ascends yX8_ascends]
def wsX8_drift_r3 : List Cond := [Cond.code yX8_ascends cX8_ascends 2 none, Cond.methodLink RX8 179 yX8_passes, Cond.instanceMethod yX8_passes, Cond.selects RX8 yX8_passes yX8_passes, Cond.code yX8_passes cX8_passes 2 none, Cond.methodLink RX8 156 yX8_end, Cond.instanceMethod yX8_end, Cond.selects RX8 yX8_end yX8_end, Cond.code yX8_end cX8_end 2 (some .int), Cond.fieldLink RX8 23 "ThreeBelowModel" "people" "[I", Cond.methodLink RX8 168 yX8_later, Cond.instanceMethod yX8_later, Cond.selects RX8 yX8_later yX8_later, Cond.code yX8_later cX8_later 5 (some .int), Cond.fieldLink RX8 26 "ThreeBelowModel" "goods" "[I"]
def wsX8_drift : List Cond := .code yX8_drift cX8_drift 6 (some .int) :: ((wsX8_drift_r1 ++ (wsX8_drift_r2 ++ wsX8_drift_r3)) ++ wsX80)
def wsX8_undo : List Cond := .code yX8_undo cX8_undo 2 (some .int) :: ([.fieldLink RX8 128 "ThreeBelowModel" "deeds" "I", .constant RX8 171 (-1000000003), .fieldLink RX8 41 "ThreeBelowModel" "now" "[I", .fieldLink RX8 44 "ThreeBelowModel" "past" "[I"] ++ wsX80)
def wsX8_off : List Cond := .code yX8_off cX8_off 2 (some .int) :: ([])
def wsX8_meet_r1 : List Cond := [Cond.constant RX8 152 (-1000000001), Cond.constant RX8 76 (-1000000002), Cond.constant RX8 171 (-1000000003), Cond.fieldLink RX8 41 "ThreeBelowModel" "now" "[I", Cond.fieldLink RX8 20 "ThreeBelowModel" "depths" "[I", Cond.methodLink RX8 153 yX8_isPerson, Cond.instanceMethod yX8_isPerson, Cond.selects RX8 yX8_isPerson yX8_isPerson, Cond.initialized RX8, Cond.code yX8_isPerson cX8_isPerson 2 (some .boolean), Cond.fieldLink RX8 17 "ThreeBelowModel" "law" "[I", Cond.methodLink RX8 72 yX8_in, Cond.static yX8_in, Cond.code yX8_in cX8_in 3 (some .boolean), Cond.methodLink RX8 149 yX8_isDepth, Cond.instanceMethod yX8_isDepth, Cond.selects RX8 yX8_isDepth yX8_isDepth, Cond.code yX8_isDepth cX8_isDepth 2 (some .boolean), Cond.methodLink RX8 165 yX8_isAbove, Cond.instanceMethod yX8_isAbove, Cond.selects RX8 yX8_isAbove yX8_isAbove, Cond.code yX8_isAbove cX8_isAbove 2 (some .boolean), Cond.methodLink RX8 202 yX8_off, Cond.static yX8_off]
def wsX8_meet_r2 : List Cond := [Cond.code yX8_off cX8_off 2 (some .int), Cond.methodLink RX8 156 yX8_end, Cond.instanceMethod yX8_end, Cond.selects RX8 yX8_end yX8_end, Cond.code yX8_end cX8_end 2 (some .int), Cond.fieldLink RX8 23 "ThreeBelowModel" "people" "[I"]
def wsX8_meet : List Cond := .code yX8_meet cX8_meet 12 (some .int) :: ((wsX8_meet_r1 ++ wsX8_meet_r2) ++ wsX80)
def wsX8_spanOf : List Cond := .code yX8_spanOf cX8_spanOf 2 (some .int) :: ([.fieldLink RX8 20 "ThreeBelowModel" "depths" "[I"] ++ wsX80)
def wsX8_isStay : List Cond := .code yX8_isStay cX8_isStay 2 (some .boolean) :: ([.fieldLink RX8 17 "ThreeBelowModel" "law" "[I", .methodLink RX8 72 yX8_in, .static yX8_in, .initialized RX8, .code yX8_in cX8_in 3 (some .boolean)] ++ wsX80)
def wsX8_both_r1 : List Cond := [Cond.constant RX8 152 (-1000000001), Cond.constant RX8 76 (-1000000002), Cond.constant RX8 171 (-1000000003), Cond.fieldLink RX8 41 "ThreeBelowModel" "now" "[I", Cond.methodLink RX8 153 yX8_isPerson, Cond.instanceMethod yX8_isPerson, Cond.selects RX8 yX8_isPerson yX8_isPerson, Cond.initialized RX8, Cond.code yX8_isPerson cX8_isPerson 2 (some .boolean), Cond.fieldLink RX8 17 "ThreeBelowModel" "law" "[I", Cond.methodLink RX8 72 yX8_in, Cond.static yX8_in, Cond.code yX8_in cX8_in 3 (some .boolean), Cond.methodLink RX8 165 yX8_isAbove, Cond.instanceMethod yX8_isAbove, Cond.selects RX8 yX8_isAbove yX8_isAbove, Cond.code yX8_isAbove cX8_isAbove 2 (some .boolean), Cond.methodLink RX8 205 yX8_isStay, Cond.instanceMethod yX8_isStay, Cond.selects RX8 yX8_isStay yX8_isStay, Cond.code yX8_isStay cX8_isStay 2 (some .boolean), Cond.methodLink RX8 208 yX8_spanOf, Cond.instanceMethod yX8_spanOf, Cond.selects RX8 yX8_spanOf yX8_spanOf]
def wsX8_both_r2 : List Cond := [Cond.code yX8_spanOf cX8_spanOf 2 (some .int), Cond.fieldLink RX8 20 "ThreeBelowModel" "depths" "[I", Cond.methodLink RX8 156 yX8_end, Cond.instanceMethod yX8_end, Cond.selects RX8 yX8_end yX8_end, Cond.code yX8_end cX8_end 2 (some .int), Cond.fieldLink RX8 23 "ThreeBelowModel" "people" "[I"]
def wsX8_both : List Cond := .code yX8_both cX8_both 15 (some .int) :: ((wsX8_both_r1 ++ wsX8_both_r2) ++ wsX80)
def wsX8_worthIn : List Cond := .code yX8_worthIn cX8_worthIn 6 (some .int) :: ([.methodLink RX8 168 yX8_later, .instanceMethod yX8_later, .selects RX8 yX8_later yX8_later, .initialized RX8, .code yX8_later cX8_later 5 (some .int), .fieldLink RX8 26 "ThreeBelowModel" "goods" "[I"] ++ wsX80)
def wsX8_leave : List Cond := .code yX8_leave cX8_leave 7 (some .int) :: ([.constant RX8 76 (-1000000002), .fieldLink RX8 17 "ThreeBelowModel" "law" "[I", .fieldLink RX8 41 "ThreeBelowModel" "now" "[I", .methodLink RX8 72 yX8_in, .static yX8_in, .initialized RX8, .code yX8_in cX8_in 3 (some .boolean), .methodLink RX8 211 yX8_worthIn, .instanceMethod yX8_worthIn, .selects RX8 yX8_worthIn yX8_worthIn, .code yX8_worthIn cX8_worthIn 6 (some .int), .methodLink RX8 168 yX8_later, .instanceMethod yX8_later, .selects RX8 yX8_later yX8_later, .code yX8_later cX8_later 5 (some .int), .fieldLink RX8 26 "ThreeBelowModel" "goods" "[I"] ++ wsX80)
def wsX8_when : List Cond := .code yX8_when cX8_when 5 (some .int) :: ([.constant RX8 152 (-1000000001), .constant RX8 76 (-1000000002), .fieldLink RX8 41 "ThreeBelowModel" "now" "[I", .methodLink RX8 162 yX8_isGood, .instanceMethod yX8_isGood, .selects RX8 yX8_isGood yX8_isGood, .initialized RX8, .code yX8_isGood cX8_isGood 2 (some .boolean), .fieldLink RX8 17 "ThreeBelowModel" "law" "[I", .methodLink RX8 72 yX8_in, .static yX8_in, .code yX8_in cX8_in 3 (some .boolean), .methodLink RX8 168 yX8_later, .instanceMethod yX8_later, .selects RX8 yX8_later yX8_later, .code yX8_later cX8_later 5 (some .int), .fieldLink RX8 26 "ThreeBelowModel" "goods" "[I"] ++ wsX80)
def wsX8_letters : List Cond := .code yX8_letters cX8_letters 3 (some .int) :: ([.constant RX8 152 (-1000000001), .constant RX8 76 (-1000000002), .fieldLink RX8 41 "ThreeBelowModel" "now" "[I", .fieldLink RX8 20 "ThreeBelowModel" "depths" "[I", .methodLink RX8 149 yX8_isDepth, .instanceMethod yX8_isDepth, .selects RX8 yX8_isDepth yX8_isDepth, .initialized RX8, .code yX8_isDepth cX8_isDepth 2 (some .boolean), .fieldLink RX8 17 "ThreeBelowModel" "law" "[I", .methodLink RX8 72 yX8_in, .static yX8_in, .code yX8_in cX8_in 3 (some .boolean)] ++ wsX80)
def wsX8_wouldOpen : List Cond := .code yX8_wouldOpen cX8_wouldOpen 3 (some .int) :: ([.constant RX8 152 (-1000000001), .constant RX8 171 (-1000000003), .fieldLink RX8 41 "ThreeBelowModel" "now" "[I", .methodLink RX8 153 yX8_isPerson, .instanceMethod yX8_isPerson, .selects RX8 yX8_isPerson yX8_isPerson, .initialized RX8, .code yX8_isPerson cX8_isPerson 2 (some .boolean), .fieldLink RX8 17 "ThreeBelowModel" "law" "[I", .methodLink RX8 72 yX8_in, .static yX8_in, .code yX8_in cX8_in 3 (some .boolean), .methodLink RX8 165 yX8_isAbove, .instanceMethod yX8_isAbove, .selects RX8 yX8_isAbove yX8_isAbove, .code yX8_isAbove cX8_isAbove 2 (some .boolean), .methodLink RX8 156 yX8_end, .instanceMethod yX8_end, .selects RX8 yX8_end yX8_end, .code yX8_end cX8_end 2 (some .int), .fieldLink RX8 23 "ThreeBelowModel" "people" "[I"] ++ wsX80)
def wsX8_yearsLeft : List Cond := .code yX8_yearsLeft cX8_yearsLeft 2 (some .int) :: ([.constant RX8 152 (-1000000001), .constant RX8 171 (-1000000003), .fieldLink RX8 41 "ThreeBelowModel" "now" "[I", .methodLink RX8 153 yX8_isPerson, .instanceMethod yX8_isPerson, .selects RX8 yX8_isPerson yX8_isPerson, .initialized RX8, .code yX8_isPerson cX8_isPerson 2 (some .boolean), .fieldLink RX8 17 "ThreeBelowModel" "law" "[I", .methodLink RX8 72 yX8_in, .static yX8_in, .code yX8_in cX8_in 3 (some .boolean), .methodLink RX8 165 yX8_isAbove, .instanceMethod yX8_isAbove, .selects RX8 yX8_isAbove yX8_isAbove, .code yX8_isAbove cX8_isAbove 2 (some .boolean), .methodLink RX8 156 yX8_end, .instanceMethod yX8_end, .selects RX8 yX8_end yX8_end, .code yX8_end cX8_end 2 (some .int), .fieldLink RX8 23 "ThreeBelowModel" "people" "[I"] ++ wsX80)
def wsX8_latest : List Cond := .code yX8_latest cX8_latest 5 (some .int) :: ([.fieldLink RX8 17 "ThreeBelowModel" "law" "[I", .fieldLink RX8 41 "ThreeBelowModel" "now" "[I", .methodLink RX8 165 yX8_isAbove, .instanceMethod yX8_isAbove, .selects RX8 yX8_isAbove yX8_isAbove, .initialized RX8, .code yX8_isAbove cX8_isAbove 2 (some .boolean), .methodLink RX8 156 yX8_end, .instanceMethod yX8_end, .selects RX8 yX8_end yX8_end, .code yX8_end cX8_end 2 (some .int), .fieldLink RX8 23 "ThreeBelowModel" "people" "[I"] ++ wsX80)
def wsX8_storm : List Cond := .code yX8_storm cX8_storm 6 (some .int) :: ([.constant RX8 76 (-1000000002), .constantLong RX8 215 (1000000000), .constantLong RX8 217 (100), .methodLink RX8 72 yX8_in, .static yX8_in, .initialized RX8, .code yX8_in cX8_in 3 (some .boolean)])
def wsX8_find : List Cond := .code yX8_find cX8_find 4 (some .int) :: ([.constant RX8 152 (-1000000001), .constant RX8 76 (-1000000002), .fieldLink RX8 131 "ThreeBelowModel" "finds" "I", .constant RX8 80 (-1000000004), .fieldLink RX8 57 "ThreeBelowModel" "found" "[I", .methodLink RX8 162 yX8_isGood, .instanceMethod yX8_isGood, .selects RX8 yX8_isGood yX8_isGood, .initialized RX8, .code yX8_isGood cX8_isGood 2 (some .boolean), .fieldLink RX8 17 "ThreeBelowModel" "law" "[I", .methodLink RX8 72 yX8_in, .static yX8_in, .code yX8_in cX8_in 3 (some .boolean)] ++ wsX80)
def wsX8_isSo : List Cond := .code yX8_isSo cX8_isSo 5 (some .boolean) :: ([.fieldLink RX8 131 "ThreeBelowModel" "finds" "I", .fieldLink RX8 57 "ThreeBelowModel" "found" "[I", .fieldLink RX8 63 "ThreeBelowModel" "worths" "[I", .fieldLink RX8 17 "ThreeBelowModel" "law" "[I"] ++ wsX80)
def wsX8_lays : List Cond := .code yX8_lays cX8_lays 5 (some .int) :: ([.fieldLink RX8 17 "ThreeBelowModel" "law" "[I", .fieldLink RX8 63 "ThreeBelowModel" "worths" "[I", .fieldLink RX8 26 "ThreeBelowModel" "goods" "[I", .fieldLink RX8 20 "ThreeBelowModel" "depths" "[I", .fieldLink RX8 66 "ThreeBelowModel" "stays" "[I", .fieldLink RX8 69 "ThreeBelowModel" "by" "[I", .methodLink RX8 219 yX8_isSo, .instanceMethod yX8_isSo, .selects RX8 yX8_isSo yX8_isSo, .initialized RX8, .code yX8_isSo cX8_isSo 5 (some .boolean), .fieldLink RX8 131 "ThreeBelowModel" "finds" "I", .fieldLink RX8 57 "ThreeBelowModel" "found" "[I", .methodLink RX8 211 yX8_worthIn, .instanceMethod yX8_worthIn, .selects RX8 yX8_worthIn yX8_worthIn, .code yX8_worthIn cX8_worthIn 6 (some .int), .methodLink RX8 168 yX8_later, .instanceMethod yX8_later, .selects RX8 yX8_later yX8_later, .code yX8_later cX8_later 5 (some .int)] ++ wsX80)
def wsX8_stays_r1 : List Cond := [Cond.fieldLink RX8 66 "ThreeBelowModel" "stays" "[I", Cond.methodLink RX8 222 yX8_lays, Cond.instanceMethod yX8_lays, Cond.selects RX8 yX8_lays yX8_lays, Cond.initialized RX8, Cond.code yX8_lays cX8_lays 5 (some .int), Cond.fieldLink RX8 17 "ThreeBelowModel" "law" "[I", Cond.fieldLink RX8 63 "ThreeBelowModel" "worths" "[I", Cond.fieldLink RX8 26 "ThreeBelowModel" "goods" "[I", Cond.fieldLink RX8 20 "ThreeBelowModel" "depths" "[I", Cond.fieldLink RX8 69 "ThreeBelowModel" "by" "[I", Cond.methodLink RX8 219 yX8_isSo, Cond.instanceMethod yX8_isSo, Cond.selects RX8 yX8_isSo yX8_isSo, Cond.code yX8_isSo cX8_isSo 5 (some .boolean), Cond.fieldLink RX8 131 "ThreeBelowModel" "finds" "I", Cond.fieldLink RX8 57 "ThreeBelowModel" "found" "[I", Cond.methodLink RX8 211 yX8_worthIn, Cond.instanceMethod yX8_worthIn, Cond.selects RX8 yX8_worthIn yX8_worthIn, Cond.code yX8_worthIn cX8_worthIn 6 (some .int), Cond.methodLink RX8 168 yX8_later, Cond.instanceMethod yX8_later, Cond.selects RX8 yX8_later yX8_later]
def wsX8_stays_r2 : List Cond := [Cond.code yX8_later cX8_later 5 (some .int), Cond.methodLink RX8 72 yX8_in, Cond.static yX8_in, Cond.code yX8_in cX8_in 3 (some .boolean)]
def wsX8_stays : List Cond := .code yX8_stays cX8_stays 3 (some .int) :: ((wsX8_stays_r1 ++ wsX8_stays_r2) ++ wsX80)
def wsX8_ask_r1 : List Cond := [Cond.fieldLink RX8 17 "ThreeBelowModel" "law" "[I", Cond.fieldLink RX8 69 "ThreeBelowModel" "by" "[I", Cond.methodLink RX8 222 yX8_lays, Cond.instanceMethod yX8_lays, Cond.selects RX8 yX8_lays yX8_lays, Cond.initialized RX8, Cond.code yX8_lays cX8_lays 5 (some .int), Cond.fieldLink RX8 63 "ThreeBelowModel" "worths" "[I", Cond.fieldLink RX8 26 "ThreeBelowModel" "goods" "[I", Cond.fieldLink RX8 20 "ThreeBelowModel" "depths" "[I", Cond.fieldLink RX8 66 "ThreeBelowModel" "stays" "[I", Cond.methodLink RX8 219 yX8_isSo, Cond.instanceMethod yX8_isSo, Cond.selects RX8 yX8_isSo yX8_isSo, Cond.code yX8_isSo cX8_isSo 5 (some .boolean), Cond.fieldLink RX8 131 "ThreeBelowModel" "finds" "I", Cond.fieldLink RX8 57 "ThreeBelowModel" "found" "[I", Cond.methodLink RX8 211 yX8_worthIn, Cond.instanceMethod yX8_worthIn, Cond.selects RX8 yX8_worthIn yX8_worthIn, Cond.code yX8_worthIn cX8_worthIn 6 (some .int), Cond.methodLink RX8 168 yX8_later, Cond.instanceMethod yX8_later, Cond.selects RX8 yX8_later yX8_later]
def wsX8_ask_r2 : List Cond := [Cond.code yX8_later cX8_later 5 (some .int)]
def wsX8_ask : List Cond := .code yX8_ask cX8_ask 9 (some .int) :: ((wsX8_ask_r1 ++ wsX8_ask_r2) ++ wsX80)
def wsX8_write : List Cond := .code yX8_write cX8_write 3 (some .int) :: ([.constant RX8 152 (-1000000001), .constant RX8 76 (-1000000002), .fieldLink RX8 134 "ThreeBelowModel" "entries" "I", .constant RX8 80 (-1000000004), .fieldLink RX8 60 "ThreeBelowModel" "book" "[I", .methodLink RX8 153 yX8_isPerson, .instanceMethod yX8_isPerson, .selects RX8 yX8_isPerson yX8_isPerson, .initialized RX8, .code yX8_isPerson cX8_isPerson 2 (some .boolean), .fieldLink RX8 17 "ThreeBelowModel" "law" "[I", .methodLink RX8 72 yX8_in, .static yX8_in, .code yX8_in cX8_in 3 (some .boolean)] ++ wsX80)
def wsX8_tear : List Cond := .code yX8_tear cX8_tear 2 (some .int) :: ([.fieldLink RX8 131 "ThreeBelowModel" "finds" "I", .fieldLink RX8 134 "ThreeBelowModel" "entries" "I"] ++ wsX80)
def wsX8_judge : List Cond := .code yX8_judge cX8_judge 2 (some .int) :: ([.fieldLink RX8 134 "ThreeBelowModel" "entries" "I", .fieldLink RX8 41 "ThreeBelowModel" "now" "[I", .fieldLink RX8 60 "ThreeBelowModel" "book" "[I"] ++ wsX80)
def wsX8_seed : List Cond := .code yX8_seed cX8_seed 3 (some .int) :: ([.constant RX8 76 (-1000000002), .fieldLink RX8 189 "ThreeBelowModel" "seed" "I"] ++ wsX80)
def wsX8_keep : List Cond := .code yX8_keep cX8_keep 3 (some .int) :: ([.constant RX8 152 (-1000000001), .fieldLink RX8 47 "ThreeBelowModel" "images" "[I", .fieldLink RX8 41 "ThreeBelowModel" "now" "[I", .fieldLink RX8 50 "ThreeBelowModel" "imageSeeds" "[I", .fieldLink RX8 189 "ThreeBelowModel" "seed" "I", .fieldLink RX8 53 "ThreeBelowModel" "kept" "[Z", .fieldLink RX8 128 "ThreeBelowModel" "deeds" "I", .methodLink RX8 72 yX8_in, .static yX8_in, .initialized RX8, .code yX8_in cX8_in 3 (some .boolean)] ++ wsX80)
def wsX8_goBack : List Cond := .code yX8_goBack cX8_goBack 3 (some .int) :: ([.constant RX8 152 (-1000000001), .fieldLink RX8 53 "ThreeBelowModel" "kept" "[Z", .constant RX8 171 (-1000000003), .fieldLink RX8 41 "ThreeBelowModel" "now" "[I", .fieldLink RX8 47 "ThreeBelowModel" "images" "[I", .fieldLink RX8 50 "ThreeBelowModel" "imageSeeds" "[I", .fieldLink RX8 189 "ThreeBelowModel" "seed" "I", .fieldLink RX8 128 "ThreeBelowModel" "deeds" "I", .methodLink RX8 72 yX8_in, .static yX8_in, .initialized RX8, .code yX8_in cX8_in 3 (some .boolean)] ++ wsX80)
def wsJ9_abs_0f7a4 : List Cond := .code yJ9_abs_0f7a4 cJ9_abs_0f7a4 1 (some .int) :: ([])
def wsJ9_max_7cf53 : List Cond := .code yJ9_max_7cf53 cJ9_max_7cf53 2 (some .int) :: ([])
def wsJ9_min_7cf53 : List Cond := .code yJ9_min_7cf53 cJ9_min_7cf53 2 (some .int) :: ([])
theorem inJ11 : ∀ w ∈ wsJ110, w ∈ lw_tbl := by decide +kernel
theorem inJ9 : ∀ w ∈ wsJ90, w ∈ lw_tbl := by decide +kernel
theorem inJ0 : ∀ w ∈ wsJ00, w ∈ lw_tbl := by decide +kernel
theorem inJ1 : ∀ w ∈ wsJ10, w ∈ lw_tbl := by decide +kernel
theorem inJ2 : ∀ w ∈ wsJ20, w ∈ lw_tbl := by decide +kernel
theorem inJ10 : ∀ w ∈ wsJ100, w ∈ lw_tbl := by decide +kernel
theorem inJ3 : ∀ w ∈ wsJ30, w ∈ lw_tbl := by decide +kernel
abbrev vwCl : List vw_C := [(RX0, TX0, 3), (RX1, TX1, 9), (RX2, TX2, 3), (RX3, TX3, 1), (RX4, TX4, 3), (RX5, TX5, 11), (RX6, TX6, 6), (RX7, TX7, 9), (RX8, TX8, 27)]
end
section
theorem dX0_init_0 : decode cX0_init 0 = .ok (.aload_n 0, 1) := by decide +kernel
theorem dX0_init_1 : decode cX0_init 1 = .ok (.invokespecial 3, 3) := by decide +kernel
theorem dX0_init_4 : decode cX0_init 4 = .ok (.aload_n 0, 1) := by decide +kernel
theorem dX0_init_5 : decode cX0_init 5 = .ok (.bipush 15, 2) := by decide +kernel
theorem dX0_init_7 : decode cX0_init 7 = .ok (.newarray .int, 2) := by decide +kernel
theorem dX0_init_9 : decode cX0_init 9 = .ok (.putfield 11, 3) := by decide +kernel
theorem dX0_init_12 : decode cX0_init 12 = .ok (.aload_n 0, 1) := by decide +kernel
theorem dX0_init_13 : decode cX0_init 13 = .ok (.bipush 15, 2) := by decide +kernel
theorem dX0_init_15 : decode cX0_init 15 = .ok (.newarray .int, 2) := by decide +kernel
theorem dX0_init_17 : decode cX0_init 17 = .ok (.putfield 15, 3) := by decide +kernel
theorem dX0_init_20 : decode cX0_init 20 = .ok (.return_, 1) := by decide +kernel
theorem dX0_empty_0 : decode cX0_empty 0 = .ok (.aload_n 0, 1) := by decide +kernel
theorem dX0_empty_1 : decode cX0_empty 1 = .ok (.iconst 0, 1) := by decide +kernel
theorem dX0_empty_2 : decode cX0_empty 2 = .ok (.putfield 18, 3) := by decide +kernel
theorem dX0_empty_5 : decode cX0_empty 5 = .ok (.return_, 1) := by decide +kernel
theorem dX0_add_0 : decode cX0_add 0 = .ok (.aload_n 0, 1) := by decide +kernel
theorem dX0_add_1 : decode cX0_add 1 = .ok (.getfield 18, 3) := by decide +kernel
theorem dX0_add_4 : decode cX0_add 4 = .ok (.bipush 15, 2) := by decide +kernel
theorem dX0_add_6 : decode cX0_add 6 = .ok (.if_icmp .ge 33, 3) := by decide +kernel
theorem dX0_add_9 : decode cX0_add 9 = .ok (.aload_n 0, 1) := by decide +kernel
theorem dX0_add_10 : decode cX0_add 10 = .ok (.getfield 11, 3) := by decide +kernel
theorem dX0_add_13 : decode cX0_add 13 = .ok (.aload_n 0, 1) := by decide +kernel
theorem dX0_add_14 : decode cX0_add 14 = .ok (.getfield 18, 3) := by decide +kernel
theorem dX0_add_17 : decode cX0_add 17 = .ok (.iload_n 1, 1) := by decide +kernel
theorem dX0_add_18 : decode cX0_add 18 = .ok (.iastore, 1) := by decide +kernel
theorem dX0_add_19 : decode cX0_add 19 = .ok (.aload_n 0, 1) := by decide +kernel
theorem dX0_add_20 : decode cX0_add 20 = .ok (.getfield 15, 3) := by decide +kernel
theorem dX0_add_23 : decode cX0_add 23 = .ok (.aload_n 0, 1) := by decide +kernel
theorem dX0_add_24 : decode cX0_add 24 = .ok (.getfield 18, 3) := by decide +kernel
theorem dX0_add_27 : decode cX0_add 27 = .ok (.iload_n 2, 1) := by decide +kernel
theorem dX0_add_28 : decode cX0_add 28 = .ok (.iastore, 1) := by decide +kernel
theorem dX0_add_29 : decode cX0_add 29 = .ok (.aload_n 0, 1) := by decide +kernel
theorem dX0_add_30 : decode cX0_add 30 = .ok (.dup, 1) := by decide +kernel
theorem dX0_add_31 : decode cX0_add 31 = .ok (.getfield 18, 3) := by decide +kernel
theorem dX0_add_34 : decode cX0_add 34 = .ok (.iconst 1, 1) := by decide +kernel
theorem dX0_add_35 : decode cX0_add 35 = .ok (.iadd, 1) := by decide +kernel
theorem dX0_add_36 : decode cX0_add 36 = .ok (.putfield 18, 3) := by decide +kernel
theorem dX0_add_39 : decode cX0_add 39 = .ok (.return_, 1) := by decide +kernel
set_option maxRecDepth 20000 in
theorem ggX0_firstWrong_X3_age : GoodIn wsX0_firstWrong wsX3_age := goodIn_r _ [8, 9, 10, 11, 7, 12, 16] (by decide +kernel) (by decide +kernel)
set_option maxRecDepth 20000 in
theorem gX0_firstWrong_X3_age : GoodIn wsX0_firstWrong (wsV RX0 22 RX3 yX3_age wsX3_age) := goodIn_app (goodIn_of _ (by decide +kernel)) ggX0_firstWrong_X3_age
theorem dX0_firstWrong_0 : decode cX0_firstWrong 0 = .ok (.iconst 0, 1) := by decide +kernel
theorem dX0_firstWrong_1 : decode cX0_firstWrong 1 = .ok (.istore_n 2, 1) := by decide +kernel
theorem dX0_firstWrong_2 : decode cX0_firstWrong 2 = .ok (.iload_n 2, 1) := by decide +kernel
theorem dX0_firstWrong_3 : decode cX0_firstWrong 3 = .ok (.aload_n 0, 1) := by decide +kernel
theorem dX0_firstWrong_4 : decode cX0_firstWrong 4 = .ok (.getfield 18, 3) := by decide +kernel
theorem dX0_firstWrong_7 : decode cX0_firstWrong 7 = .ok (.if_icmp .ge 36, 3) := by decide +kernel
theorem dX0_firstWrong_10 : decode cX0_firstWrong 10 = .ok (.iload_n 2, 1) := by decide +kernel
theorem dX0_firstWrong_11 : decode cX0_firstWrong 11 = .ok (.bipush 15, 2) := by decide +kernel
theorem dX0_firstWrong_13 : decode cX0_firstWrong 13 = .ok (.if_icmp .ge 30, 3) := by decide +kernel
theorem dX0_firstWrong_16 : decode cX0_firstWrong 16 = .ok (.aload_n 1, 1) := by decide +kernel
theorem dX0_firstWrong_17 : decode cX0_firstWrong 17 = .ok (.aload_n 0, 1) := by decide +kernel
theorem dX0_firstWrong_18 : decode cX0_firstWrong 18 = .ok (.getfield 11, 3) := by decide +kernel
theorem dX0_firstWrong_21 : decode cX0_firstWrong 21 = .ok (.iload_n 2, 1) := by decide +kernel
theorem dX0_firstWrong_22 : decode cX0_firstWrong 22 = .ok (.iaload, 1) := by decide +kernel
theorem dX0_firstWrong_23 : decode cX0_firstWrong 23 = .ok (.invokevirtual 22, 3) := by decide +kernel
theorem dX0_firstWrong_26 : decode cX0_firstWrong 26 = .ok (.aload_n 0, 1) := by decide +kernel
theorem dX0_firstWrong_27 : decode cX0_firstWrong 27 = .ok (.getfield 15, 3) := by decide +kernel
theorem dX0_firstWrong_30 : decode cX0_firstWrong 30 = .ok (.iload_n 2, 1) := by decide +kernel
theorem dX0_firstWrong_31 : decode cX0_firstWrong 31 = .ok (.iaload, 1) := by decide +kernel
theorem dX0_firstWrong_32 : decode cX0_firstWrong 32 = .ok (.if_icmp .eq 5, 3) := by decide +kernel
theorem dX0_firstWrong_35 : decode cX0_firstWrong 35 = .ok (.iload_n 2, 1) := by decide +kernel
theorem dX0_firstWrong_36 : decode cX0_firstWrong 36 = .ok (.ireturn, 1) := by decide +kernel
theorem dX0_firstWrong_37 : decode cX0_firstWrong 37 = .ok (.iinc 2 1, 3) := by decide +kernel
theorem dX0_firstWrong_40 : decode cX0_firstWrong 40 = .ok (.goto (-38), 3) := by decide +kernel
theorem dX0_firstWrong_43 : decode cX0_firstWrong 43 = .ok (.iconst (-1), 1) := by decide +kernel
theorem dX0_firstWrong_44 : decode cX0_firstWrong 44 = .ok (.ireturn, 1) := by decide +kernel
theorem dX1_init_0 : decode cX1_init 0 = .ok (.aload_n 0, 1) := by decide +kernel
theorem dX1_init_1 : decode cX1_init 1 = .ok (.invokespecial 5, 3) := by decide +kernel
theorem dX1_init_4 : decode cX1_init 4 = .ok (.aload_n 0, 1) := by decide +kernel
theorem dX1_init_5 : decode cX1_init 5 = .ok (.bipush 6, 2) := by decide +kernel
theorem dX1_init_7 : decode cX1_init 7 = .ok (.newarray .int, 2) := by decide +kernel
theorem dX1_init_9 : decode cX1_init 9 = .ok (.putfield 11, 3) := by decide +kernel
theorem dX1_init_12 : decode cX1_init 12 = .ok (.aload_n 0, 1) := by decide +kernel
theorem dX1_init_13 : decode cX1_init 13 = .ok (.bipush 6, 2) := by decide +kernel
theorem dX1_init_15 : decode cX1_init 15 = .ok (.newarray .int, 2) := by decide +kernel
theorem dX1_init_17 : decode cX1_init 17 = .ok (.putfield 15, 3) := by decide +kernel
theorem dX1_init_20 : decode cX1_init 20 = .ok (.aload_n 0, 1) := by decide +kernel
theorem dX1_init_21 : decode cX1_init 21 = .ok (.bipush 6, 2) := by decide +kernel
theorem dX1_init_23 : decode cX1_init 23 = .ok (.newarray .int, 2) := by decide +kernel
theorem dX1_init_25 : decode cX1_init 25 = .ok (.putfield 18, 3) := by decide +kernel
theorem dX1_init_28 : decode cX1_init 28 = .ok (.aload_n 0, 1) := by decide +kernel
theorem dX1_init_29 : decode cX1_init 29 = .ok (.bipush 6, 2) := by decide +kernel
theorem dX1_init_31 : decode cX1_init 31 = .ok (.bipush 124, 2) := by decide +kernel
theorem dX1_init_33 : decode cX1_init 33 = .ok (.multianewarray 21 2, 4) := by decide +kernel
theorem dX1_init_37 : decode cX1_init 37 = .ok (.putfield 23, 3) := by decide +kernel
theorem dX1_init_40 : decode cX1_init 40 = .ok (.aload_n 0, 1) := by decide +kernel
theorem dX1_init_41 : decode cX1_init 41 = .ok (.bipush 124, 2) := by decide +kernel
theorem dX1_init_43 : decode cX1_init 43 = .ok (.newarray .int, 2) := by decide +kernel
theorem dX1_init_45 : decode cX1_init 45 = .ok (.putfield 26, 3) := by decide +kernel
theorem dX1_init_48 : decode cX1_init 48 = .ok (.return_, 1) := by decide +kernel
set_option maxRecDepth 20000 in
theorem ggX1_beginAnew_X1_empty : GoodIn wsX1_beginAnew wsX1_empty := goodIn_r _ [6, 7, 8, 9, 10, 11, 12, 13, 14, 15, 16, 17] (by decide +kernel) (by decide +kernel)
set_option maxRecDepth 20000 in
theorem gX1_beginAnew_X1_empty : GoodIn wsX1_beginAnew (wsV RX1 33 RX1 yX1_empty wsX1_empty) := goodIn_app (goodIn_of _ (by decide +kernel)) ggX1_beginAnew_X1_empty
theorem dX1_beginAnew_0 : decode cX1_beginAnew 0 = .ok (.aload_n 0, 1) := by decide +kernel
theorem dX1_beginAnew_1 : decode cX1_beginAnew 1 = .ok (.iconst 0, 1) := by decide +kernel
theorem dX1_beginAnew_2 : decode cX1_beginAnew 2 = .ok (.putfield 29, 3) := by decide +kernel
theorem dX1_beginAnew_5 : decode cX1_beginAnew 5 = .ok (.aload_n 0, 1) := by decide +kernel
theorem dX1_beginAnew_6 : decode cX1_beginAnew 6 = .ok (.invokevirtual 33, 3) := by decide +kernel
theorem dX1_beginAnew_9 : decode cX1_beginAnew 9 = .ok (.return_, 1) := by decide +kernel
theorem dX1_empty_0 : decode cX1_empty 0 = .ok (.aload_n 0, 1) := by decide +kernel
theorem dX1_empty_1 : decode cX1_empty 1 = .ok (.iconst 0, 1) := by decide +kernel
theorem dX1_empty_2 : decode cX1_empty 2 = .ok (.putfield 36, 3) := by decide +kernel
theorem dX1_empty_5 : decode cX1_empty 5 = .ok (.aload_n 0, 1) := by decide +kernel
theorem dX1_empty_6 : decode cX1_empty 6 = .ok (.iconst 0, 1) := by decide +kernel
theorem dX1_empty_7 : decode cX1_empty 7 = .ok (.putfield 40, 3) := by decide +kernel
theorem dX1_empty_10 : decode cX1_empty 10 = .ok (.return_, 1) := by decide +kernel
theorem dX1_add_0 : decode cX1_add 0 = .ok (.aload_n 0, 1) := by decide +kernel
theorem dX1_add_1 : decode cX1_add 1 = .ok (.getfield 36, 3) := by decide +kernel
theorem dX1_add_4 : decode cX1_add 4 = .ok (.bipush 6, 2) := by decide +kernel
theorem dX1_add_6 : decode cX1_add 6 = .ok (.if_icmp .ge 48, 3) := by decide +kernel
theorem dX1_add_9 : decode cX1_add 9 = .ok (.aload_n 0, 1) := by decide +kernel
theorem dX1_add_10 : decode cX1_add 10 = .ok (.getfield 11, 3) := by decide +kernel
theorem dX1_add_13 : decode cX1_add 13 = .ok (.aload_n 0, 1) := by decide +kernel
theorem dX1_add_14 : decode cX1_add 14 = .ok (.getfield 36, 3) := by decide +kernel
theorem dX1_add_17 : decode cX1_add 17 = .ok (.iload_n 1, 1) := by decide +kernel
theorem dX1_add_18 : decode cX1_add 18 = .ok (.iastore, 1) := by decide +kernel
theorem dX1_add_19 : decode cX1_add 19 = .ok (.aload_n 0, 1) := by decide +kernel
theorem dX1_add_20 : decode cX1_add 20 = .ok (.getfield 15, 3) := by decide +kernel
theorem dX1_add_23 : decode cX1_add 23 = .ok (.aload_n 0, 1) := by decide +kernel
theorem dX1_add_24 : decode cX1_add 24 = .ok (.getfield 36, 3) := by decide +kernel
theorem dX1_add_27 : decode cX1_add 27 = .ok (.iload_n 2, 1) := by decide +kernel
theorem dX1_add_28 : decode cX1_add 28 = .ok (.iastore, 1) := by decide +kernel
theorem dX1_add_29 : decode cX1_add 29 = .ok (.aload_n 0, 1) := by decide +kernel
theorem dX1_add_30 : decode cX1_add 30 = .ok (.getfield 18, 3) := by decide +kernel
theorem dX1_add_33 : decode cX1_add 33 = .ok (.aload_n 0, 1) := by decide +kernel
theorem dX1_add_34 : decode cX1_add 34 = .ok (.getfield 36, 3) := by decide +kernel
theorem dX1_add_37 : decode cX1_add 37 = .ok (.iload_n 3, 1) := by decide +kernel
theorem dX1_add_38 : decode cX1_add 38 = .ok (.iastore, 1) := by decide +kernel
theorem dX1_add_39 : decode cX1_add 39 = .ok (.aload_n 0, 1) := by decide +kernel
theorem dX1_add_40 : decode cX1_add 40 = .ok (.dup, 1) := by decide +kernel
theorem dX1_add_41 : decode cX1_add 41 = .ok (.getfield 36, 3) := by decide +kernel
theorem dX1_add_44 : decode cX1_add 44 = .ok (.iconst 1, 1) := by decide +kernel
theorem dX1_add_45 : decode cX1_add 45 = .ok (.iadd, 1) := by decide +kernel
theorem dX1_add_46 : decode cX1_add 46 = .ok (.putfield 36, 3) := by decide +kernel
theorem dX1_add_49 : decode cX1_add 49 = .ok (.aload_n 0, 1) := by decide +kernel
theorem dX1_add_50 : decode cX1_add 50 = .ok (.iconst 0, 1) := by decide +kernel
theorem dX1_add_51 : decode cX1_add 51 = .ok (.putfield 40, 3) := by decide +kernel
theorem dX1_add_54 : decode cX1_add 54 = .ok (.return_, 1) := by decide +kernel
set_option maxRecDepth 20000 in
theorem ggX1_seek_X1_countWorths : GoodIn wsX1_seek wsX1_countWorths := goodIn_r _ [9, 10, 11, 3, 12, 13, 14, 15, 16, 17, 18, 19, 20, 21, 22, 23, 24, 25, 26, 27, 28, 29, 30, 48, 49, 50, 51, 52, 53, 54, 55, 56, 57, 58, 59, 60, 61, 62, 63, 64, 65, 66, 67] (by decide +kernel) (by decide +kernel)
set_option maxRecDepth 20000 in
theorem gX1_seek_X1_countWorths : GoodIn wsX1_seek (wsV RX1 43 RX1 yX1_countWorths wsX1_countWorths) := goodIn_app (goodIn_of _ (by decide +kernel)) ggX1_seek_X1_countWorths
set_option maxRecDepth 20000 in
theorem ggX1_seek_X1_fitsAll : GoodIn wsX1_seek wsX1_fitsAll := goodIn_r _ [34, 35, 36, 37, 14, 38, 39, 40, 41, 8, 42, 13, 43, 44, 45, 18, 46, 47, 48, 49, 50, 51, 52, 53, 54, 55, 56, 57, 58, 59, 60, 61, 62, 63, 64, 65, 66, 67] (by decide +kernel) (by decide +kernel)
set_option maxRecDepth 20000 in
theorem gX1_seek_X1_fitsAll : GoodIn wsX1_seek (wsV RX1 55 RX1 yX1_fitsAll wsX1_fitsAll) := goodIn_app (goodIn_of _ (by decide +kernel)) ggX1_seek_X1_fitsAll
theorem dX1_seek_0 : decode cX1_seek 0 = .ok (.aload_n 0, 1) := by decide +kernel
theorem dX1_seek_1 : decode cX1_seek 1 = .ok (.getfield 40, 3) := by decide +kernel
theorem dX1_seek_4 : decode cX1_seek 4 = .ok (.ifCond .eq 4, 3) := by decide +kernel
theorem dX1_seek_7 : decode cX1_seek 7 = .ok (.return_, 1) := by decide +kernel
theorem dX1_seek_8 : decode cX1_seek 8 = .ok (.aload_n 0, 1) := by decide +kernel
theorem dX1_seek_9 : decode cX1_seek 9 = .ok (.aload_n 1, 1) := by decide +kernel
theorem dX1_seek_10 : decode cX1_seek 10 = .ok (.invokevirtual 43, 3) := by decide +kernel
theorem dX1_seek_13 : decode cX1_seek 13 = .ok (.aload_n 0, 1) := by decide +kernel
theorem dX1_seek_14 : decode cX1_seek 14 = .ok (.iconst 0, 1) := by decide +kernel
theorem dX1_seek_15 : decode cX1_seek 15 = .ok (.putfield 47, 3) := by decide +kernel
theorem dX1_seek_18 : decode cX1_seek 18 = .ok (.iconst 0, 1) := by decide +kernel
theorem dX1_seek_19 : decode cX1_seek 19 = .ok (.istore_n 2, 1) := by decide +kernel
theorem dX1_seek_20 : decode cX1_seek 20 = .ok (.iload_n 2, 1) := by decide +kernel
theorem dX1_seek_21 : decode cX1_seek 21 = .ok (.aload_n 1, 1) := by decide +kernel
theorem dX1_seek_22 : decode cX1_seek 22 = .ok (.getfield 50, 3) := by decide +kernel
theorem dX1_seek_25 : decode cX1_seek 25 = .ok (.if_icmp .ge 58, 3) := by decide +kernel
theorem dX1_seek_28 : decode cX1_seek 28 = .ok (.iconst 0, 1) := by decide +kernel
theorem dX1_seek_29 : decode cX1_seek 29 = .ok (.istore_n 3, 1) := by decide +kernel
theorem dX1_seek_30 : decode cX1_seek 30 = .ok (.iload_n 3, 1) := by decide +kernel
theorem dX1_seek_31 : decode cX1_seek 31 = .ok (.bipush 30, 2) := by decide +kernel
theorem dX1_seek_33 : decode cX1_seek 33 = .ok (.if_icmp .gt 44, 3) := by decide +kernel
theorem dX1_seek_36 : decode cX1_seek 36 = .ok (.aload_n 0, 1) := by decide +kernel
theorem dX1_seek_37 : decode cX1_seek 37 = .ok (.aload_n 1, 1) := by decide +kernel
theorem dX1_seek_38 : decode cX1_seek 38 = .ok (.iload_n 2, 1) := by decide +kernel
theorem dX1_seek_39 : decode cX1_seek 39 = .ok (.iload_n 3, 1) := by decide +kernel
theorem dX1_seek_40 : decode cX1_seek 40 = .ok (.invokevirtual 55, 3) := by decide +kernel
theorem dX1_seek_43 : decode cX1_seek 43 = .ok (.ifCond .eq 28, 3) := by decide +kernel
theorem dX1_seek_46 : decode cX1_seek 46 = .ok (.aload_n 0, 1) := by decide +kernel
theorem dX1_seek_47 : decode cX1_seek 47 = .ok (.getfield 26, 3) := by decide +kernel
theorem dX1_seek_50 : decode cX1_seek 50 = .ok (.aload_n 0, 1) := by decide +kernel
theorem dX1_seek_51 : decode cX1_seek 51 = .ok (.getfield 47, 3) := by decide +kernel
theorem dX1_seek_54 : decode cX1_seek 54 = .ok (.bipush 100, 2) := by decide +kernel
theorem dX1_seek_56 : decode cX1_seek 56 = .ok (.iload_n 2, 1) := by decide +kernel
theorem dX1_seek_57 : decode cX1_seek 57 = .ok (.imul, 1) := by decide +kernel
theorem dX1_seek_58 : decode cX1_seek 58 = .ok (.iload_n 3, 1) := by decide +kernel
theorem dX1_seek_59 : decode cX1_seek 59 = .ok (.iadd, 1) := by decide +kernel
theorem dX1_seek_60 : decode cX1_seek 60 = .ok (.iastore, 1) := by decide +kernel
theorem dX1_seek_61 : decode cX1_seek 61 = .ok (.aload_n 0, 1) := by decide +kernel
theorem dX1_seek_62 : decode cX1_seek 62 = .ok (.dup, 1) := by decide +kernel
theorem dX1_seek_63 : decode cX1_seek 63 = .ok (.getfield 47, 3) := by decide +kernel
theorem dX1_seek_66 : decode cX1_seek 66 = .ok (.iconst 1, 1) := by decide +kernel
theorem dX1_seek_67 : decode cX1_seek 67 = .ok (.iadd, 1) := by decide +kernel
theorem dX1_seek_68 : decode cX1_seek 68 = .ok (.putfield 47, 3) := by decide +kernel
theorem dX1_seek_71 : decode cX1_seek 71 = .ok (.iinc 3 1, 3) := by decide +kernel
theorem dX1_seek_74 : decode cX1_seek 74 = .ok (.goto (-44), 3) := by decide +kernel
theorem dX1_seek_77 : decode cX1_seek 77 = .ok (.iinc 2 1, 3) := by decide +kernel
theorem dX1_seek_80 : decode cX1_seek 80 = .ok (.goto (-60), 3) := by decide +kernel
theorem dX1_seek_83 : decode cX1_seek 83 = .ok (.aload_n 0, 1) := by decide +kernel
theorem dX1_seek_84 : decode cX1_seek 84 = .ok (.iconst 1, 1) := by decide +kernel
theorem dX1_seek_85 : decode cX1_seek 85 = .ok (.putfield 40, 3) := by decide +kernel
theorem dX1_seek_88 : decode cX1_seek 88 = .ok (.return_, 1) := by decide +kernel
set_option maxRecDepth 20000 in
theorem ggX1_greatestPart_X1_alikeFrom : GoodIn wsX1_greatestPart wsX1_alikeFrom := goodIn_r _ [10, 11, 1, 12, 13, 14, 9, 15, 16, 17, 18, 19, 20, 21, 22, 23, 24, 25] (by decide +kernel) (by decide +kernel)
set_option maxRecDepth 20000 in
theorem gX1_greatestPart_X1_alikeFrom : GoodIn wsX1_greatestPart (wsV RX1 59 RX1 yX1_alikeFrom wsX1_alikeFrom) := goodIn_app (goodIn_of _ (by decide +kernel)) ggX1_greatestPart_X1_alikeFrom
theorem dX1_greatestPart_0 : decode cX1_greatestPart 0 = .ok (.iconst 0, 1) := by decide +kernel
theorem dX1_greatestPart_1 : decode cX1_greatestPart 1 = .ok (.istore_n 2, 1) := by decide +kernel
theorem dX1_greatestPart_2 : decode cX1_greatestPart 2 = .ok (.iconst 0, 1) := by decide +kernel
theorem dX1_greatestPart_3 : decode cX1_greatestPart 3 = .ok (.istore_n 3, 1) := by decide +kernel
theorem dX1_greatestPart_4 : decode cX1_greatestPart 4 = .ok (.iload_n 3, 1) := by decide +kernel
theorem dX1_greatestPart_5 : decode cX1_greatestPart 5 = .ok (.aload_n 0, 1) := by decide +kernel
theorem dX1_greatestPart_6 : decode cX1_greatestPart 6 = .ok (.getfield 47, 3) := by decide +kernel
theorem dX1_greatestPart_9 : decode cX1_greatestPart 9 = .ok (.iload_n 2, 1) := by decide +kernel
theorem dX1_greatestPart_10 : decode cX1_greatestPart 10 = .ok (.isub, 1) := by decide +kernel
theorem dX1_greatestPart_11 : decode cX1_greatestPart 11 = .ok (.if_icmp .ge 20, 3) := by decide +kernel
theorem dX1_greatestPart_14 : decode cX1_greatestPart 14 = .ok (.iload_n 2, 1) := by decide +kernel
theorem dX1_greatestPart_15 : decode cX1_greatestPart 15 = .ok (.aload_n 0, 1) := by decide +kernel
theorem dX1_greatestPart_16 : decode cX1_greatestPart 16 = .ok (.iload_n 1, 1) := by decide +kernel
theorem dX1_greatestPart_17 : decode cX1_greatestPart 17 = .ok (.iload_n 3, 1) := by decide +kernel
theorem dX1_greatestPart_18 : decode cX1_greatestPart 18 = .ok (.invokevirtual 59, 3) := by decide +kernel
theorem dX1_greatestPart_21 : decode cX1_greatestPart 21 = .ok (.invokestatic 63, 3) := by decide +kernel
theorem dX1_greatestPart_24 : decode cX1_greatestPart 24 = .ok (.istore_n 2, 1) := by decide +kernel
theorem dX1_greatestPart_25 : decode cX1_greatestPart 25 = .ok (.iinc 3 1, 3) := by decide +kernel
theorem dX1_greatestPart_28 : decode cX1_greatestPart 28 = .ok (.goto (-24), 3) := by decide +kernel
theorem dX1_greatestPart_31 : decode cX1_greatestPart 31 = .ok (.iload_n 2, 1) := by decide +kernel
theorem dX1_greatestPart_32 : decode cX1_greatestPart 32 = .ok (.ireturn, 1) := by decide +kernel
set_option maxRecDepth 20000 in
theorem ggX1_alikeFrom_X1_worthBy : GoodIn wsX1_alikeFrom wsX1_worthBy := goodIn_r _ [7, 8, 9, 10, 11, 12, 13, 14, 15, 16, 17] (by decide +kernel) (by decide +kernel)
set_option maxRecDepth 20000 in
theorem gX1_alikeFrom_X1_worthBy : GoodIn wsX1_alikeFrom (wsV RX1 68 RX1 yX1_worthBy wsX1_worthBy) := goodIn_app (goodIn_of _ (by decide +kernel)) ggX1_alikeFrom_X1_worthBy
theorem dX1_alikeFrom_0 : decode cX1_alikeFrom 0 = .ok (.aload_n 0, 1) := by decide +kernel
theorem dX1_alikeFrom_1 : decode cX1_alikeFrom 1 = .ok (.iload_n 1, 1) := by decide +kernel
theorem dX1_alikeFrom_2 : decode cX1_alikeFrom 2 = .ok (.aload_n 0, 1) := by decide +kernel
theorem dX1_alikeFrom_3 : decode cX1_alikeFrom 3 = .ok (.getfield 26, 3) := by decide +kernel
theorem dX1_alikeFrom_6 : decode cX1_alikeFrom 6 = .ok (.iload_n 2, 1) := by decide +kernel
theorem dX1_alikeFrom_7 : decode cX1_alikeFrom 7 = .ok (.iaload, 1) := by decide +kernel
theorem dX1_alikeFrom_8 : decode cX1_alikeFrom 8 = .ok (.invokevirtual 68, 3) := by decide +kernel
theorem dX1_alikeFrom_11 : decode cX1_alikeFrom 11 = .ok (.istore_n 3, 1) := by decide +kernel
theorem dX1_alikeFrom_12 : decode cX1_alikeFrom 12 = .ok (.iconst 0, 1) := by decide +kernel
theorem dX1_alikeFrom_13 : decode cX1_alikeFrom 13 = .ok (.istore 4, 2) := by decide +kernel
theorem dX1_alikeFrom_15 : decode cX1_alikeFrom 15 = .ok (.iload_n 2, 1) := by decide +kernel
theorem dX1_alikeFrom_16 : decode cX1_alikeFrom 16 = .ok (.istore 5, 2) := by decide +kernel
theorem dX1_alikeFrom_18 : decode cX1_alikeFrom 18 = .ok (.iload 5, 2) := by decide +kernel
theorem dX1_alikeFrom_20 : decode cX1_alikeFrom 20 = .ok (.aload_n 0, 1) := by decide +kernel
theorem dX1_alikeFrom_21 : decode cX1_alikeFrom 21 = .ok (.getfield 47, 3) := by decide +kernel
theorem dX1_alikeFrom_24 : decode cX1_alikeFrom 24 = .ok (.if_icmp .ge 28, 3) := by decide +kernel
theorem dX1_alikeFrom_27 : decode cX1_alikeFrom 27 = .ok (.aload_n 0, 1) := by decide +kernel
theorem dX1_alikeFrom_28 : decode cX1_alikeFrom 28 = .ok (.iload_n 1, 1) := by decide +kernel
theorem dX1_alikeFrom_29 : decode cX1_alikeFrom 29 = .ok (.aload_n 0, 1) := by decide +kernel
theorem dX1_alikeFrom_30 : decode cX1_alikeFrom 30 = .ok (.getfield 26, 3) := by decide +kernel
theorem dX1_alikeFrom_33 : decode cX1_alikeFrom 33 = .ok (.iload 5, 2) := by decide +kernel
theorem dX1_alikeFrom_35 : decode cX1_alikeFrom 35 = .ok (.iaload, 1) := by decide +kernel
theorem dX1_alikeFrom_36 : decode cX1_alikeFrom 36 = .ok (.invokevirtual 68, 3) := by decide +kernel
theorem dX1_alikeFrom_39 : decode cX1_alikeFrom 39 = .ok (.iload_n 3, 1) := by decide +kernel
theorem dX1_alikeFrom_40 : decode cX1_alikeFrom 40 = .ok (.if_icmp .ne 6, 3) := by decide +kernel
theorem dX1_alikeFrom_43 : decode cX1_alikeFrom 43 = .ok (.iinc 4 1, 3) := by decide +kernel
theorem dX1_alikeFrom_46 : decode cX1_alikeFrom 46 = .ok (.iinc 5 1, 3) := by decide +kernel
theorem dX1_alikeFrom_49 : decode cX1_alikeFrom 49 = .ok (.goto (-31), 3) := by decide +kernel
theorem dX1_alikeFrom_52 : decode cX1_alikeFrom 52 = .ok (.iload 4, 2) := by decide +kernel
theorem dX1_alikeFrom_54 : decode cX1_alikeFrom 54 = .ok (.ireturn, 1) := by decide +kernel
set_option maxRecDepth 20000 in
theorem ggX1_fitsAll_X1_worthBy : GoodIn wsX1_fitsAll wsX1_worthBy := goodIn_r _ [10, 11, 18, 19, 20, 21, 22, 23, 24, 25, 26] (by decide +kernel) (by decide +kernel)
set_option maxRecDepth 20000 in
theorem gX1_fitsAll_X1_worthBy : GoodIn wsX1_fitsAll (wsV RX1 68 RX1 yX1_worthBy wsX1_worthBy) := goodIn_app (goodIn_of _ (by decide +kernel)) ggX1_fitsAll_X1_worthBy
set_option maxRecDepth 20000 in
theorem ggX1_fitsAll_X5_kingAt : GoodIn wsX1_fitsAll wsX5_kingAt := goodIn_r _ [16, 17, 27, 28, 29, 30, 31, 32, 33, 34, 35, 36, 37] (by decide +kernel) (by decide +kernel)
set_option maxRecDepth 20000 in
theorem gX1_fitsAll_X5_kingAt : GoodIn wsX1_fitsAll (wsV RX1 74 RX5 yX5_kingAt wsX5_kingAt) := goodIn_app (goodIn_of _ (by decide +kernel)) ggX1_fitsAll_X5_kingAt
theorem dX1_fitsAll_0 : decode cX1_fitsAll 0 = .ok (.iconst 0, 1) := by decide +kernel
theorem dX1_fitsAll_1 : decode cX1_fitsAll 1 = .ok (.istore 4, 2) := by decide +kernel
theorem dX1_fitsAll_3 : decode cX1_fitsAll 3 = .ok (.iload 4, 2) := by decide +kernel
theorem dX1_fitsAll_5 : decode cX1_fitsAll 5 = .ok (.aload_n 0, 1) := by decide +kernel
theorem dX1_fitsAll_6 : decode cX1_fitsAll 6 = .ok (.getfield 36, 3) := by decide +kernel
theorem dX1_fitsAll_9 : decode cX1_fitsAll 9 = .ok (.if_icmp .ge 67, 3) := by decide +kernel
theorem dX1_fitsAll_12 : decode cX1_fitsAll 12 = .ok (.aload_n 0, 1) := by decide +kernel
theorem dX1_fitsAll_13 : decode cX1_fitsAll 13 = .ok (.getfield 11, 3) := by decide +kernel
theorem dX1_fitsAll_16 : decode cX1_fitsAll 16 = .ok (.iload 4, 2) := by decide +kernel
theorem dX1_fitsAll_18 : decode cX1_fitsAll 18 = .ok (.iaload, 1) := by decide +kernel
theorem dX1_fitsAll_19 : decode cX1_fitsAll 19 = .ok (.ifCond .ne 23, 3) := by decide +kernel
theorem dX1_fitsAll_22 : decode cX1_fitsAll 22 = .ok (.aload_n 0, 1) := by decide +kernel
theorem dX1_fitsAll_23 : decode cX1_fitsAll 23 = .ok (.aload_n 0, 1) := by decide +kernel
theorem dX1_fitsAll_24 : decode cX1_fitsAll 24 = .ok (.getfield 15, 3) := by decide +kernel
theorem dX1_fitsAll_27 : decode cX1_fitsAll 27 = .ok (.iload 4, 2) := by decide +kernel
theorem dX1_fitsAll_29 : decode cX1_fitsAll 29 = .ok (.iaload, 1) := by decide +kernel
theorem dX1_fitsAll_30 : decode cX1_fitsAll 30 = .ok (.bipush 100, 2) := by decide +kernel
theorem dX1_fitsAll_32 : decode cX1_fitsAll 32 = .ok (.iload_n 2, 1) := by decide +kernel
theorem dX1_fitsAll_33 : decode cX1_fitsAll 33 = .ok (.imul, 1) := by decide +kernel
theorem dX1_fitsAll_34 : decode cX1_fitsAll 34 = .ok (.iload_n 3, 1) := by decide +kernel
theorem dX1_fitsAll_35 : decode cX1_fitsAll 35 = .ok (.iadd, 1) := by decide +kernel
theorem dX1_fitsAll_36 : decode cX1_fitsAll 36 = .ok (.invokevirtual 68, 3) := by decide +kernel
theorem dX1_fitsAll_39 : decode cX1_fitsAll 39 = .ok (.goto 15, 3) := by decide +kernel
theorem dX1_fitsAll_42 : decode cX1_fitsAll 42 = .ok (.aload_n 1, 1) := by decide +kernel
theorem dX1_fitsAll_43 : decode cX1_fitsAll 43 = .ok (.iload_n 3, 1) := by decide +kernel
theorem dX1_fitsAll_44 : decode cX1_fitsAll 44 = .ok (.aload_n 1, 1) := by decide +kernel
theorem dX1_fitsAll_45 : decode cX1_fitsAll 45 = .ok (.getfield 71, 3) := by decide +kernel
theorem dX1_fitsAll_48 : decode cX1_fitsAll 48 = .ok (.iload_n 2, 1) := by decide +kernel
theorem dX1_fitsAll_49 : decode cX1_fitsAll 49 = .ok (.iaload, 1) := by decide +kernel
theorem dX1_fitsAll_50 : decode cX1_fitsAll 50 = .ok (.imul, 1) := by decide +kernel
theorem dX1_fitsAll_51 : decode cX1_fitsAll 51 = .ok (.invokevirtual 74, 3) := by decide +kernel
theorem dX1_fitsAll_54 : decode cX1_fitsAll 54 = .ok (.istore 5, 2) := by decide +kernel
theorem dX1_fitsAll_56 : decode cX1_fitsAll 56 = .ok (.iload 5, 2) := by decide +kernel
theorem dX1_fitsAll_58 : decode cX1_fitsAll 58 = .ok (.aload_n 0, 1) := by decide +kernel
theorem dX1_fitsAll_59 : decode cX1_fitsAll 59 = .ok (.getfield 18, 3) := by decide +kernel
theorem dX1_fitsAll_62 : decode cX1_fitsAll 62 = .ok (.iload 4, 2) := by decide +kernel
theorem dX1_fitsAll_64 : decode cX1_fitsAll 64 = .ok (.iaload, 1) := by decide +kernel
theorem dX1_fitsAll_65 : decode cX1_fitsAll 65 = .ok (.if_icmp .eq 5, 3) := by decide +kernel
theorem dX1_fitsAll_68 : decode cX1_fitsAll 68 = .ok (.iconst 0, 1) := by decide +kernel
theorem dX1_fitsAll_69 : decode cX1_fitsAll 69 = .ok (.ireturn, 1) := by decide +kernel
theorem dX1_fitsAll_70 : decode cX1_fitsAll 70 = .ok (.iinc 4 1, 3) := by decide +kernel
theorem dX1_fitsAll_73 : decode cX1_fitsAll 73 = .ok (.goto (-70), 3) := by decide +kernel
theorem dX1_fitsAll_76 : decode cX1_fitsAll 76 = .ok (.iconst 1, 1) := by decide +kernel
theorem dX1_fitsAll_77 : decode cX1_fitsAll 77 = .ok (.ireturn, 1) := by decide +kernel
theorem dX1_worthBy_0 : decode cX1_worthBy 0 = .ok (.iload_n 2, 1) := by decide +kernel
theorem dX1_worthBy_1 : decode cX1_worthBy 1 = .ok (.bipush 100, 2) := by decide +kernel
theorem dX1_worthBy_3 : decode cX1_worthBy 3 = .ok (.idiv, 1) := by decide +kernel
theorem dX1_worthBy_4 : decode cX1_worthBy 4 = .ok (.bipush 31, 2) := by decide +kernel
theorem dX1_worthBy_6 : decode cX1_worthBy 6 = .ok (.imul, 1) := by decide +kernel
theorem dX1_worthBy_7 : decode cX1_worthBy 7 = .ok (.iload_n 2, 1) := by decide +kernel
theorem dX1_worthBy_8 : decode cX1_worthBy 8 = .ok (.bipush 100, 2) := by decide +kernel
theorem dX1_worthBy_10 : decode cX1_worthBy 10 = .ok (.irem, 1) := by decide +kernel
theorem dX1_worthBy_11 : decode cX1_worthBy 11 = .ok (.iadd, 1) := by decide +kernel
theorem dX1_worthBy_12 : decode cX1_worthBy 12 = .ok (.istore_n 3, 1) := by decide +kernel
theorem dX1_worthBy_13 : decode cX1_worthBy 13 = .ok (.iload_n 1, 1) := by decide +kernel
theorem dX1_worthBy_14 : decode cX1_worthBy 14 = .ok (.ifCond .lt 19, 3) := by decide +kernel
theorem dX1_worthBy_17 : decode cX1_worthBy 17 = .ok (.iload_n 1, 1) := by decide +kernel
theorem dX1_worthBy_18 : decode cX1_worthBy 18 = .ok (.bipush 6, 2) := by decide +kernel
theorem dX1_worthBy_20 : decode cX1_worthBy 20 = .ok (.if_icmp .ge 13, 3) := by decide +kernel
theorem dX1_worthBy_23 : decode cX1_worthBy 23 = .ok (.iload_n 3, 1) := by decide +kernel
theorem dX1_worthBy_24 : decode cX1_worthBy 24 = .ok (.ifCond .lt 9, 3) := by decide +kernel
theorem dX1_worthBy_27 : decode cX1_worthBy 27 = .ok (.iload_n 3, 1) := by decide +kernel
theorem dX1_worthBy_28 : decode cX1_worthBy 28 = .ok (.bipush 124, 2) := by decide +kernel
theorem dX1_worthBy_30 : decode cX1_worthBy 30 = .ok (.if_icmp .lt 7, 3) := by decide +kernel
theorem dX1_worthBy_33 : decode cX1_worthBy 33 = .ok (.iconst 0, 1) := by decide +kernel
theorem dX1_worthBy_34 : decode cX1_worthBy 34 = .ok (.goto 11, 3) := by decide +kernel
theorem dX1_worthBy_37 : decode cX1_worthBy 37 = .ok (.aload_n 0, 1) := by decide +kernel
theorem dX1_worthBy_38 : decode cX1_worthBy 38 = .ok (.getfield 23, 3) := by decide +kernel
theorem dX1_worthBy_41 : decode cX1_worthBy 41 = .ok (.iload_n 1, 1) := by decide +kernel
theorem dX1_worthBy_42 : decode cX1_worthBy 42 = .ok (.aaload, 1) := by decide +kernel
theorem dX1_worthBy_43 : decode cX1_worthBy 43 = .ok (.iload_n 3, 1) := by decide +kernel
theorem dX1_worthBy_44 : decode cX1_worthBy 44 = .ok (.iaload, 1) := by decide +kernel
theorem dX1_worthBy_45 : decode cX1_worthBy 45 = .ok (.ireturn, 1) := by decide +kernel
set_option maxRecDepth 20000 in
theorem ggX1_countWorths_X5_worthBehind : GoodIn wsX1_countWorths wsX5_worthBehind := goodIn_r _ [11, 12, 13, 14, 10, 15, 16, 17, 18, 19, 20, 21, 22, 32, 33, 34, 35, 36, 37, 38, 39, 40, 41, 42] (by decide +kernel) (by decide +kernel)
set_option maxRecDepth 20000 in
theorem gX1_countWorths_X5_worthBehind : GoodIn wsX1_countWorths (wsV RX1 84 RX5 yX5_worthBehind wsX5_worthBehind) := goodIn_app (goodIn_of _ (by decide +kernel)) ggX1_countWorths_X5_worthBehind
theorem dX1_countWorths_0 : decode cX1_countWorths 0 = .ok (.aload_n 0, 1) := by decide +kernel
theorem dX1_countWorths_1 : decode cX1_countWorths 1 = .ok (.getfield 29, 3) := by decide +kernel
theorem dX1_countWorths_4 : decode cX1_countWorths 4 = .ok (.ifCond .eq 4, 3) := by decide +kernel
theorem dX1_countWorths_7 : decode cX1_countWorths 7 = .ok (.return_, 1) := by decide +kernel
theorem dX1_countWorths_8 : decode cX1_countWorths 8 = .ok (.iconst 0, 1) := by decide +kernel
theorem dX1_countWorths_9 : decode cX1_countWorths 9 = .ok (.istore_n 2, 1) := by decide +kernel
theorem dX1_countWorths_10 : decode cX1_countWorths 10 = .ok (.iload_n 2, 1) := by decide +kernel
theorem dX1_countWorths_11 : decode cX1_countWorths 11 = .ok (.aload_n 1, 1) := by decide +kernel
theorem dX1_countWorths_12 : decode cX1_countWorths 12 = .ok (.getfield 78, 3) := by decide +kernel
theorem dX1_countWorths_15 : decode cX1_countWorths 15 = .ok (.if_icmp .ge 80, 3) := by decide +kernel
theorem dX1_countWorths_18 : decode cX1_countWorths 18 = .ok (.iconst 0, 1) := by decide +kernel
theorem dX1_countWorths_19 : decode cX1_countWorths 19 = .ok (.istore_n 3, 1) := by decide +kernel
theorem dX1_countWorths_20 : decode cX1_countWorths 20 = .ok (.iload_n 3, 1) := by decide +kernel
theorem dX1_countWorths_21 : decode cX1_countWorths 21 = .ok (.aload_n 1, 1) := by decide +kernel
theorem dX1_countWorths_22 : decode cX1_countWorths 22 = .ok (.getfield 50, 3) := by decide +kernel
theorem dX1_countWorths_25 : decode cX1_countWorths 25 = .ok (.if_icmp .ge 64, 3) := by decide +kernel
theorem dX1_countWorths_28 : decode cX1_countWorths 28 = .ok (.aload_n 1, 1) := by decide +kernel
theorem dX1_countWorths_29 : decode cX1_countWorths 29 = .ok (.getfield 81, 3) := by decide +kernel
theorem dX1_countWorths_32 : decode cX1_countWorths 32 = .ok (.iload_n 2, 1) := by decide +kernel
theorem dX1_countWorths_33 : decode cX1_countWorths 33 = .ok (.iaload, 1) := by decide +kernel
theorem dX1_countWorths_34 : decode cX1_countWorths 34 = .ok (.istore 4, 2) := by decide +kernel
theorem dX1_countWorths_36 : decode cX1_countWorths 36 = .ok (.iconst 0, 1) := by decide +kernel
theorem dX1_countWorths_37 : decode cX1_countWorths 37 = .ok (.istore 5, 2) := by decide +kernel
theorem dX1_countWorths_39 : decode cX1_countWorths 39 = .ok (.iload 5, 2) := by decide +kernel
theorem dX1_countWorths_41 : decode cX1_countWorths 41 = .ok (.bipush 30, 2) := by decide +kernel
theorem dX1_countWorths_43 : decode cX1_countWorths 43 = .ok (.if_icmp .gt 40, 3) := by decide +kernel
theorem dX1_countWorths_46 : decode cX1_countWorths 46 = .ok (.aload_n 0, 1) := by decide +kernel
theorem dX1_countWorths_47 : decode cX1_countWorths 47 = .ok (.getfield 23, 3) := by decide +kernel
theorem dX1_countWorths_50 : decode cX1_countWorths 50 = .ok (.iload_n 2, 1) := by decide +kernel
theorem dX1_countWorths_51 : decode cX1_countWorths 51 = .ok (.aaload, 1) := by decide +kernel
theorem dX1_countWorths_52 : decode cX1_countWorths 52 = .ok (.iload_n 3, 1) := by decide +kernel
theorem dX1_countWorths_53 : decode cX1_countWorths 53 = .ok (.bipush 31, 2) := by decide +kernel
theorem dX1_countWorths_55 : decode cX1_countWorths 55 = .ok (.imul, 1) := by decide +kernel
theorem dX1_countWorths_56 : decode cX1_countWorths 56 = .ok (.iload 5, 2) := by decide +kernel
theorem dX1_countWorths_58 : decode cX1_countWorths 58 = .ok (.iadd, 1) := by decide +kernel
theorem dX1_countWorths_59 : decode cX1_countWorths 59 = .ok (.iload 4, 2) := by decide +kernel
theorem dX1_countWorths_61 : decode cX1_countWorths 61 = .ok (.iastore, 1) := by decide +kernel
theorem dX1_countWorths_62 : decode cX1_countWorths 62 = .ok (.aload_n 1, 1) := by decide +kernel
theorem dX1_countWorths_63 : decode cX1_countWorths 63 = .ok (.iload_n 2, 1) := by decide +kernel
theorem dX1_countWorths_64 : decode cX1_countWorths 64 = .ok (.iload 4, 2) := by decide +kernel
theorem dX1_countWorths_66 : decode cX1_countWorths 66 = .ok (.aload_n 1, 1) := by decide +kernel
theorem dX1_countWorths_67 : decode cX1_countWorths 67 = .ok (.getfield 71, 3) := by decide +kernel
theorem dX1_countWorths_70 : decode cX1_countWorths 70 = .ok (.iload_n 3, 1) := by decide +kernel
theorem dX1_countWorths_71 : decode cX1_countWorths 71 = .ok (.iaload, 1) := by decide +kernel
theorem dX1_countWorths_72 : decode cX1_countWorths 72 = .ok (.invokevirtual 84, 3) := by decide +kernel
theorem dX1_countWorths_75 : decode cX1_countWorths 75 = .ok (.istore 4, 2) := by decide +kernel
theorem dX1_countWorths_77 : decode cX1_countWorths 77 = .ok (.iinc 5 1, 3) := by decide +kernel
theorem dX1_countWorths_80 : decode cX1_countWorths 80 = .ok (.goto (-41), 3) := by decide +kernel
theorem dX1_countWorths_83 : decode cX1_countWorths 83 = .ok (.iinc 3 1, 3) := by decide +kernel
theorem dX1_countWorths_86 : decode cX1_countWorths 86 = .ok (.goto (-66), 3) := by decide +kernel
theorem dX1_countWorths_89 : decode cX1_countWorths 89 = .ok (.iinc 2 1, 3) := by decide +kernel
theorem dX1_countWorths_92 : decode cX1_countWorths 92 = .ok (.goto (-82), 3) := by decide +kernel
theorem dX1_countWorths_95 : decode cX1_countWorths 95 = .ok (.aload_n 0, 1) := by decide +kernel
theorem dX1_countWorths_96 : decode cX1_countWorths 96 = .ok (.iconst 1, 1) := by decide +kernel
theorem dX1_countWorths_97 : decode cX1_countWorths 97 = .ok (.putfield 29, 3) := by decide +kernel
theorem dX1_countWorths_100 : decode cX1_countWorths 100 = .ok (.return_, 1) := by decide +kernel
theorem dX2_init_0 : decode cX2_init 0 = .ok (.aload_n 0, 1) := by decide +kernel
theorem dX2_init_1 : decode cX2_init 1 = .ok (.invokespecial 1, 3) := by decide +kernel
theorem dX2_init_4 : decode cX2_init 4 = .ok (.aload_n 0, 1) := by decide +kernel
theorem dX2_init_5 : decode cX2_init 5 = .ok (.iconst 2, 1) := by decide +kernel
theorem dX2_init_6 : decode cX2_init 6 = .ok (.bipush 35, 2) := by decide +kernel
theorem dX2_init_8 : decode cX2_init 8 = .ok (.multianewarray 11 2, 4) := by decide +kernel
theorem dX2_init_12 : decode cX2_init 12 = .ok (.putfield 13, 3) := by decide +kernel
theorem dX2_init_15 : decode cX2_init 15 = .ok (.aload_n 0, 1) := by decide +kernel
theorem dX2_init_16 : decode cX2_init 16 = .ok (.iconst 2, 1) := by decide +kernel
theorem dX2_init_17 : decode cX2_init 17 = .ok (.newarray .int, 2) := by decide +kernel
theorem dX2_init_19 : decode cX2_init 19 = .ok (.putfield 16, 3) := by decide +kernel
theorem dX2_init_22 : decode cX2_init 22 = .ok (.aload_n 0, 1) := by decide +kernel
theorem dX2_init_23 : decode cX2_init 23 = .ok (.iconst 2, 1) := by decide +kernel
theorem dX2_init_24 : decode cX2_init 24 = .ok (.newarray .boolean, 2) := by decide +kernel
theorem dX2_init_26 : decode cX2_init 26 = .ok (.putfield 20, 3) := by decide +kernel
theorem dX2_init_29 : decode cX2_init 29 = .ok (.return_, 1) := by decide +kernel
theorem dX2_hasPlace_0 : decode cX2_hasPlace 0 = .ok (.iload_n 1, 1) := by decide +kernel
theorem dX2_hasPlace_1 : decode cX2_hasPlace 1 = .ok (.ifCond .lt 12, 3) := by decide +kernel
theorem dX2_hasPlace_4 : decode cX2_hasPlace 4 = .ok (.iload_n 1, 1) := by decide +kernel
theorem dX2_hasPlace_5 : decode cX2_hasPlace 5 = .ok (.iconst 2, 1) := by decide +kernel
theorem dX2_hasPlace_6 : decode cX2_hasPlace 6 = .ok (.if_icmp .ge 7, 3) := by decide +kernel
theorem dX2_hasPlace_9 : decode cX2_hasPlace 9 = .ok (.iconst 1, 1) := by decide +kernel
theorem dX2_hasPlace_10 : decode cX2_hasPlace 10 = .ok (.goto 4, 3) := by decide +kernel
theorem dX2_hasPlace_13 : decode cX2_hasPlace 13 = .ok (.iconst 0, 1) := by decide +kernel
theorem dX2_hasPlace_14 : decode cX2_hasPlace 14 = .ok (.ireturn, 1) := by decide +kernel
theorem dX2_forget_0 : decode cX2_forget 0 = .ok (.iconst 0, 1) := by decide +kernel
theorem dX2_forget_1 : decode cX2_forget 1 = .ok (.istore_n 1, 1) := by decide +kernel
theorem dX2_forget_2 : decode cX2_forget 2 = .ok (.iload_n 1, 1) := by decide +kernel
theorem dX2_forget_3 : decode cX2_forget 3 = .ok (.iconst 2, 1) := by decide +kernel
theorem dX2_forget_4 : decode cX2_forget 4 = .ok (.if_icmp .ge 16, 3) := by decide +kernel
theorem dX2_forget_7 : decode cX2_forget 7 = .ok (.aload_n 0, 1) := by decide +kernel
theorem dX2_forget_8 : decode cX2_forget 8 = .ok (.getfield 20, 3) := by decide +kernel
theorem dX2_forget_11 : decode cX2_forget 11 = .ok (.iload_n 1, 1) := by decide +kernel
theorem dX2_forget_12 : decode cX2_forget 12 = .ok (.iconst 0, 1) := by decide +kernel
theorem dX2_forget_13 : decode cX2_forget 13 = .ok (.bastore, 1) := by decide +kernel
theorem dX2_forget_14 : decode cX2_forget 14 = .ok (.iinc 1 1, 3) := by decide +kernel
theorem dX2_forget_17 : decode cX2_forget 17 = .ok (.goto (-15), 3) := by decide +kernel
theorem dX2_forget_20 : decode cX2_forget 20 = .ok (.return_, 1) := by decide +kernel
set_option maxRecDepth 20000 in
theorem ggX2_put_X2_hasPlace : GoodIn wsX2_put wsX2_hasPlace := goodIn_r _ [8] (by decide +kernel) (by decide +kernel)
set_option maxRecDepth 20000 in
theorem gX2_put_X2_hasPlace : GoodIn wsX2_put (wsV RX2 24 RX2 yX2_hasPlace wsX2_hasPlace) := goodIn_app (goodIn_of _ (by decide +kernel)) ggX2_put_X2_hasPlace
set_option maxRecDepth 20000 in
theorem ggX2_put_X3_copyTo : GoodIn wsX2_put wsX3_copyTo := goodIn_r _ [13, 14, 15, 16, 17, 18, 19, 20, 21, 22, 26] (by decide +kernel) (by decide +kernel)
set_option maxRecDepth 20000 in
theorem gX2_put_X3_copyTo : GoodIn wsX2_put (wsV RX2 28 RX3 yX3_copyTo wsX3_copyTo) := goodIn_app (goodIn_of _ (by decide +kernel)) ggX2_put_X3_copyTo
theorem dX2_put_0 : decode cX2_put 0 = .ok (.aload_n 0, 1) := by decide +kernel
theorem dX2_put_1 : decode cX2_put 1 = .ok (.iload_n 1, 1) := by decide +kernel
theorem dX2_put_2 : decode cX2_put 2 = .ok (.invokevirtual 24, 3) := by decide +kernel
theorem dX2_put_5 : decode cX2_put 5 = .ok (.ifCond .eq 27, 3) := by decide +kernel
theorem dX2_put_8 : decode cX2_put 8 = .ok (.aload_n 2, 1) := by decide +kernel
theorem dX2_put_9 : decode cX2_put 9 = .ok (.aload_n 0, 1) := by decide +kernel
theorem dX2_put_10 : decode cX2_put 10 = .ok (.getfield 13, 3) := by decide +kernel
theorem dX2_put_13 : decode cX2_put 13 = .ok (.iload_n 1, 1) := by decide +kernel
theorem dX2_put_14 : decode cX2_put 14 = .ok (.aaload, 1) := by decide +kernel
theorem dX2_put_15 : decode cX2_put 15 = .ok (.invokevirtual 28, 3) := by decide +kernel
theorem dX2_put_18 : decode cX2_put 18 = .ok (.aload_n 0, 1) := by decide +kernel
theorem dX2_put_19 : decode cX2_put 19 = .ok (.getfield 16, 3) := by decide +kernel
theorem dX2_put_22 : decode cX2_put 22 = .ok (.iload_n 1, 1) := by decide +kernel
theorem dX2_put_23 : decode cX2_put 23 = .ok (.iload_n 3, 1) := by decide +kernel
theorem dX2_put_24 : decode cX2_put 24 = .ok (.iastore, 1) := by decide +kernel
theorem dX2_put_25 : decode cX2_put 25 = .ok (.aload_n 0, 1) := by decide +kernel
theorem dX2_put_26 : decode cX2_put 26 = .ok (.getfield 20, 3) := by decide +kernel
theorem dX2_put_29 : decode cX2_put 29 = .ok (.iload_n 1, 1) := by decide +kernel
theorem dX2_put_30 : decode cX2_put 30 = .ok (.iconst 1, 1) := by decide +kernel
theorem dX2_put_31 : decode cX2_put 31 = .ok (.bastore, 1) := by decide +kernel
theorem dX2_put_32 : decode cX2_put 32 = .ok (.return_, 1) := by decide +kernel
theorem dX3_init_0 : decode cX3_init 0 = .ok (.aload_n 0, 1) := by decide +kernel
theorem dX3_init_1 : decode cX3_init 1 = .ok (.invokespecial 5, 3) := by decide +kernel
theorem dX3_init_4 : decode cX3_init 4 = .ok (.aload_n 0, 1) := by decide +kernel
theorem dX3_init_5 : decode cX3_init 5 = .ok (.bipush 35, 2) := by decide +kernel
theorem dX3_init_7 : decode cX3_init 7 = .ok (.newarray .int, 2) := by decide +kernel
theorem dX3_init_9 : decode cX3_init 9 = .ok (.putfield 11, 3) := by decide +kernel
theorem dX3_init_12 : decode cX3_init 12 = .ok (.return_, 1) := by decide +kernel
set_option maxRecDepth 20000 in
theorem ggX3_begin_X3_buryIfOld : GoodIn wsX3_begin wsX3_buryIfOld := goodIn_r _ [10, 1, 11, 12, 13, 14, 15, 16, 17, 18, 19, 20, 21, 22, 23] (by decide +kernel) (by decide +kernel)
set_option maxRecDepth 20000 in
theorem gX3_begin_X3_buryIfOld : GoodIn wsX3_begin (wsV RX3 24 RX3 yX3_buryIfOld wsX3_buryIfOld) := goodIn_app (goodIn_of _ (by decide +kernel)) ggX3_begin_X3_buryIfOld
theorem dX3_begin_0 : decode cX3_begin 0 = .ok (.iconst 0, 1) := by decide +kernel
theorem dX3_begin_1 : decode cX3_begin 1 = .ok (.istore_n 2, 1) := by decide +kernel
theorem dX3_begin_2 : decode cX3_begin 2 = .ok (.iload_n 2, 1) := by decide +kernel
theorem dX3_begin_3 : decode cX3_begin 3 = .ok (.bipush 35, 2) := by decide +kernel
theorem dX3_begin_5 : decode cX3_begin 5 = .ok (.if_icmp .ge 16, 3) := by decide +kernel
theorem dX3_begin_8 : decode cX3_begin 8 = .ok (.aload_n 0, 1) := by decide +kernel
theorem dX3_begin_9 : decode cX3_begin 9 = .ok (.getfield 11, 3) := by decide +kernel
theorem dX3_begin_12 : decode cX3_begin 12 = .ok (.iload_n 2, 1) := by decide +kernel
theorem dX3_begin_13 : decode cX3_begin 13 = .ok (.iconst 0, 1) := by decide +kernel
theorem dX3_begin_14 : decode cX3_begin 14 = .ok (.iastore, 1) := by decide +kernel
theorem dX3_begin_15 : decode cX3_begin 15 = .ok (.iinc 2 1, 3) := by decide +kernel
theorem dX3_begin_18 : decode cX3_begin 18 = .ok (.goto (-16), 3) := by decide +kernel
theorem dX3_begin_21 : decode cX3_begin 21 = .ok (.iconst 0, 1) := by decide +kernel
theorem dX3_begin_22 : decode cX3_begin 22 = .ok (.istore_n 2, 1) := by decide +kernel
theorem dX3_begin_23 : decode cX3_begin 23 = .ok (.iload_n 2, 1) := by decide +kernel
theorem dX3_begin_24 : decode cX3_begin 24 = .ok (.aload_n 1, 1) := by decide +kernel
theorem dX3_begin_25 : decode cX3_begin 25 = .ok (.getfield 15, 3) := by decide +kernel
theorem dX3_begin_28 : decode cX3_begin 28 = .ok (.if_icmp .ge 29, 3) := by decide +kernel
theorem dX3_begin_31 : decode cX3_begin 31 = .ok (.aload_n 0, 1) := by decide +kernel
theorem dX3_begin_32 : decode cX3_begin 32 = .ok (.getfield 11, 3) := by decide +kernel
theorem dX3_begin_35 : decode cX3_begin 35 = .ok (.iconst 1, 1) := by decide +kernel
theorem dX3_begin_36 : decode cX3_begin 36 = .ok (.iload_n 2, 1) := by decide +kernel
theorem dX3_begin_37 : decode cX3_begin 37 = .ok (.iadd, 1) := by decide +kernel
theorem dX3_begin_38 : decode cX3_begin 38 = .ok (.aload_n 1, 1) := by decide +kernel
theorem dX3_begin_39 : decode cX3_begin 39 = .ok (.getfield 21, 3) := by decide +kernel
theorem dX3_begin_42 : decode cX3_begin 42 = .ok (.iload_n 2, 1) := by decide +kernel
theorem dX3_begin_43 : decode cX3_begin 43 = .ok (.iaload, 1) := by decide +kernel
theorem dX3_begin_44 : decode cX3_begin 44 = .ok (.iastore, 1) := by decide +kernel
theorem dX3_begin_45 : decode cX3_begin 45 = .ok (.aload_n 0, 1) := by decide +kernel
theorem dX3_begin_46 : decode cX3_begin 46 = .ok (.aload_n 1, 1) := by decide +kernel
theorem dX3_begin_47 : decode cX3_begin 47 = .ok (.iload_n 2, 1) := by decide +kernel
theorem dX3_begin_48 : decode cX3_begin 48 = .ok (.invokevirtual 24, 3) := by decide +kernel
theorem dX3_begin_51 : decode cX3_begin 51 = .ok (.iinc 2 1, 3) := by decide +kernel
theorem dX3_begin_54 : decode cX3_begin 54 = .ok (.goto (-31), 3) := by decide +kernel
theorem dX3_begin_57 : decode cX3_begin 57 = .ok (.iconst 0, 1) := by decide +kernel
theorem dX3_begin_58 : decode cX3_begin 58 = .ok (.istore_n 2, 1) := by decide +kernel
theorem dX3_begin_59 : decode cX3_begin 59 = .ok (.iload_n 2, 1) := by decide +kernel
theorem dX3_begin_60 : decode cX3_begin 60 = .ok (.aload_n 1, 1) := by decide +kernel
theorem dX3_begin_61 : decode cX3_begin 61 = .ok (.getfield 28, 3) := by decide +kernel
theorem dX3_begin_64 : decode cX3_begin 64 = .ok (.if_icmp .ge 24, 3) := by decide +kernel
theorem dX3_begin_67 : decode cX3_begin 67 = .ok (.aload_n 0, 1) := by decide +kernel
theorem dX3_begin_68 : decode cX3_begin 68 = .ok (.getfield 11, 3) := by decide +kernel
theorem dX3_begin_71 : decode cX3_begin 71 = .ok (.bipush 29, 2) := by decide +kernel
theorem dX3_begin_73 : decode cX3_begin 73 = .ok (.iload_n 2, 1) := by decide +kernel
theorem dX3_begin_74 : decode cX3_begin 74 = .ok (.iadd, 1) := by decide +kernel
theorem dX3_begin_75 : decode cX3_begin 75 = .ok (.aload_n 1, 1) := by decide +kernel
theorem dX3_begin_76 : decode cX3_begin 76 = .ok (.getfield 31, 3) := by decide +kernel
theorem dX3_begin_79 : decode cX3_begin 79 = .ok (.iload_n 2, 1) := by decide +kernel
theorem dX3_begin_80 : decode cX3_begin 80 = .ok (.iaload, 1) := by decide +kernel
theorem dX3_begin_81 : decode cX3_begin 81 = .ok (.iastore, 1) := by decide +kernel
theorem dX3_begin_82 : decode cX3_begin 82 = .ok (.iinc 2 1, 3) := by decide +kernel
theorem dX3_begin_85 : decode cX3_begin 85 = .ok (.goto (-26), 3) := by decide +kernel
theorem dX3_begin_88 : decode cX3_begin 88 = .ok (.return_, 1) := by decide +kernel
theorem dX3_copyTo_0 : decode cX3_copyTo 0 = .ok (.aload_n 0, 1) := by decide +kernel
theorem dX3_copyTo_1 : decode cX3_copyTo 1 = .ok (.getfield 11, 3) := by decide +kernel
theorem dX3_copyTo_4 : decode cX3_copyTo 4 = .ok (.iconst 0, 1) := by decide +kernel
theorem dX3_copyTo_5 : decode cX3_copyTo 5 = .ok (.aload_n 1, 1) := by decide +kernel
theorem dX3_copyTo_6 : decode cX3_copyTo 6 = .ok (.iconst 0, 1) := by decide +kernel
theorem dX3_copyTo_7 : decode cX3_copyTo 7 = .ok (.bipush 35, 2) := by decide +kernel
theorem dX3_copyTo_9 : decode cX3_copyTo 9 = .ok (.aload_n 1, 1) := by decide +kernel
theorem dX3_copyTo_10 : decode cX3_copyTo 10 = .ok (.arraylength, 1) := by decide +kernel
theorem dX3_copyTo_11 : decode cX3_copyTo 11 = .ok (.invokestatic 34, 3) := by decide +kernel
theorem dX3_copyTo_14 : decode cX3_copyTo 14 = .ok (.invokestatic 40, 3) := by decide +kernel
theorem dX3_copyTo_17 : decode cX3_copyTo 17 = .ok (.return_, 1) := by decide +kernel
theorem dX3_copyFrom_0 : decode cX3_copyFrom 0 = .ok (.aload_n 1, 1) := by decide +kernel
theorem dX3_copyFrom_1 : decode cX3_copyFrom 1 = .ok (.iconst 0, 1) := by decide +kernel
theorem dX3_copyFrom_2 : decode cX3_copyFrom 2 = .ok (.aload_n 0, 1) := by decide +kernel
theorem dX3_copyFrom_3 : decode cX3_copyFrom 3 = .ok (.getfield 11, 3) := by decide +kernel
theorem dX3_copyFrom_6 : decode cX3_copyFrom 6 = .ok (.iconst 0, 1) := by decide +kernel
theorem dX3_copyFrom_7 : decode cX3_copyFrom 7 = .ok (.bipush 35, 2) := by decide +kernel
theorem dX3_copyFrom_9 : decode cX3_copyFrom 9 = .ok (.aload_n 1, 1) := by decide +kernel
theorem dX3_copyFrom_10 : decode cX3_copyFrom 10 = .ok (.arraylength, 1) := by decide +kernel
theorem dX3_copyFrom_11 : decode cX3_copyFrom 11 = .ok (.invokestatic 34, 3) := by decide +kernel
theorem dX3_copyFrom_14 : decode cX3_copyFrom 14 = .ok (.invokestatic 40, 3) := by decide +kernel
theorem dX3_copyFrom_17 : decode cX3_copyFrom 17 = .ok (.return_, 1) := by decide +kernel
theorem dX3_years_0 : decode cX3_years 0 = .ok (.aload_n 0, 1) := by decide +kernel
theorem dX3_years_1 : decode cX3_years 1 = .ok (.getfield 11, 3) := by decide +kernel
theorem dX3_years_4 : decode cX3_years 4 = .ok (.iconst 0, 1) := by decide +kernel
theorem dX3_years_5 : decode cX3_years 5 = .ok (.iaload, 1) := by decide +kernel
theorem dX3_years_6 : decode cX3_years 6 = .ok (.ireturn, 1) := by decide +kernel
set_option maxRecDepth 20000 in
theorem ggX3_age_X3_isPerson : GoodIn wsX3_age wsX3_isPerson := goodIn_r _ [5] (by decide +kernel) (by decide +kernel)
set_option maxRecDepth 20000 in
theorem gX3_age_X3_isPerson : GoodIn wsX3_age (va_wsS RX3 46 yX3_isPerson wsX3_isPerson) := goodIn_app (goodIn_of _ (by decide +kernel)) ggX3_age_X3_isPerson
theorem dX3_age_0 : decode cX3_age 0 = .ok (.iload_n 1, 1) := by decide +kernel
theorem dX3_age_1 : decode cX3_age 1 = .ok (.invokestatic 46, 3) := by decide +kernel
theorem dX3_age_4 : decode cX3_age 4 = .ok (.ifCond .eq 14, 3) := by decide +kernel
theorem dX3_age_7 : decode cX3_age 7 = .ok (.aload_n 0, 1) := by decide +kernel
theorem dX3_age_8 : decode cX3_age 8 = .ok (.getfield 11, 3) := by decide +kernel
theorem dX3_age_11 : decode cX3_age 11 = .ok (.iconst 1, 1) := by decide +kernel
theorem dX3_age_12 : decode cX3_age 12 = .ok (.iload_n 1, 1) := by decide +kernel
theorem dX3_age_13 : decode cX3_age 13 = .ok (.iadd, 1) := by decide +kernel
theorem dX3_age_14 : decode cX3_age 14 = .ok (.iaload, 1) := by decide +kernel
theorem dX3_age_15 : decode cX3_age 15 = .ok (.goto 4, 3) := by decide +kernel
theorem dX3_age_18 : decode cX3_age 18 = .ok (.iconst 0, 1) := by decide +kernel
theorem dX3_age_19 : decode cX3_age 19 = .ok (.ireturn, 1) := by decide +kernel
set_option maxRecDepth 20000 in
theorem ggX3_place_X3_isPerson : GoodIn wsX3_place wsX3_isPerson := goodIn_r _ [5] (by decide +kernel) (by decide +kernel)
set_option maxRecDepth 20000 in
theorem gX3_place_X3_isPerson : GoodIn wsX3_place (va_wsS RX3 46 yX3_isPerson wsX3_isPerson) := goodIn_app (goodIn_of _ (by decide +kernel)) ggX3_place_X3_isPerson
theorem dX3_place_0 : decode cX3_place 0 = .ok (.iload_n 1, 1) := by decide +kernel
theorem dX3_place_1 : decode cX3_place 1 = .ok (.invokestatic 46, 3) := by decide +kernel
theorem dX3_place_4 : decode cX3_place 4 = .ok (.ifCond .eq 15, 3) := by decide +kernel
theorem dX3_place_7 : decode cX3_place 7 = .ok (.aload_n 0, 1) := by decide +kernel
theorem dX3_place_8 : decode cX3_place 8 = .ok (.getfield 11, 3) := by decide +kernel
theorem dX3_place_11 : decode cX3_place 11 = .ok (.bipush 8, 2) := by decide +kernel
theorem dX3_place_13 : decode cX3_place 13 = .ok (.iload_n 1, 1) := by decide +kernel
theorem dX3_place_14 : decode cX3_place 14 = .ok (.iadd, 1) := by decide +kernel
theorem dX3_place_15 : decode cX3_place 15 = .ok (.iaload, 1) := by decide +kernel
theorem dX3_place_16 : decode cX3_place 16 = .ok (.goto 4, 3) := by decide +kernel
theorem dX3_place_19 : decode cX3_place 19 = .ok (.iconst 1, 1) := by decide +kernel
theorem dX3_place_20 : decode cX3_place 20 = .ok (.ireturn, 1) := by decide +kernel
set_option maxRecDepth 20000 in
theorem ggX3_box_X3_isPerson : GoodIn wsX3_box wsX3_isPerson := goodIn_r _ [5] (by decide +kernel) (by decide +kernel)
set_option maxRecDepth 20000 in
theorem gX3_box_X3_isPerson : GoodIn wsX3_box (va_wsS RX3 46 yX3_isPerson wsX3_isPerson) := goodIn_app (goodIn_of _ (by decide +kernel)) ggX3_box_X3_isPerson
theorem dX3_box_0 : decode cX3_box 0 = .ok (.iload_n 1, 1) := by decide +kernel
theorem dX3_box_1 : decode cX3_box 1 = .ok (.invokestatic 46, 3) := by decide +kernel
theorem dX3_box_4 : decode cX3_box 4 = .ok (.ifCond .eq 15, 3) := by decide +kernel
theorem dX3_box_7 : decode cX3_box 7 = .ok (.aload_n 0, 1) := by decide +kernel
theorem dX3_box_8 : decode cX3_box 8 = .ok (.getfield 11, 3) := by decide +kernel
theorem dX3_box_11 : decode cX3_box 11 = .ok (.bipush 15, 2) := by decide +kernel
theorem dX3_box_13 : decode cX3_box 13 = .ok (.iload_n 1, 1) := by decide +kernel
theorem dX3_box_14 : decode cX3_box 14 = .ok (.iadd, 1) := by decide +kernel
theorem dX3_box_15 : decode cX3_box 15 = .ok (.iaload, 1) := by decide +kernel
theorem dX3_box_16 : decode cX3_box 16 = .ok (.goto 4, 3) := by decide +kernel
theorem dX3_box_19 : decode cX3_box 19 = .ok (.iconst 0, 1) := by decide +kernel
theorem dX3_box_20 : decode cX3_box 20 = .ok (.ireturn, 1) := by decide +kernel
set_option maxRecDepth 20000 in
theorem ggX3_worth_X3_isGood : GoodIn wsX3_worth wsX3_isGood := goodIn_r _ [5] (by decide +kernel) (by decide +kernel)
set_option maxRecDepth 20000 in
theorem gX3_worth_X3_isGood : GoodIn wsX3_worth (va_wsS RX3 50 yX3_isGood wsX3_isGood) := goodIn_app (goodIn_of _ (by decide +kernel)) ggX3_worth_X3_isGood
theorem dX3_worth_0 : decode cX3_worth 0 = .ok (.iload_n 1, 1) := by decide +kernel
theorem dX3_worth_1 : decode cX3_worth 1 = .ok (.invokestatic 50, 3) := by decide +kernel
theorem dX3_worth_4 : decode cX3_worth 4 = .ok (.ifCond .eq 15, 3) := by decide +kernel
theorem dX3_worth_7 : decode cX3_worth 7 = .ok (.aload_n 0, 1) := by decide +kernel
theorem dX3_worth_8 : decode cX3_worth 8 = .ok (.getfield 11, 3) := by decide +kernel
theorem dX3_worth_11 : decode cX3_worth 11 = .ok (.bipush 29, 2) := by decide +kernel
theorem dX3_worth_13 : decode cX3_worth 13 = .ok (.iload_n 1, 1) := by decide +kernel
theorem dX3_worth_14 : decode cX3_worth 14 = .ok (.iadd, 1) := by decide +kernel
theorem dX3_worth_15 : decode cX3_worth 15 = .ok (.iaload, 1) := by decide +kernel
theorem dX3_worth_16 : decode cX3_worth 16 = .ok (.goto 4, 3) := by decide +kernel
theorem dX3_worth_19 : decode cX3_worth 19 = .ok (.iconst 0, 1) := by decide +kernel
theorem dX3_worth_20 : decode cX3_worth 20 = .ok (.ireturn, 1) := by decide +kernel
set_option maxRecDepth 20000 in
theorem ggX3_isAbove_X3_place : GoodIn wsX3_isAbove wsX3_place := goodIn_r _ [5, 6, 7, 8, 4, 9, 10] (by decide +kernel) (by decide +kernel)
set_option maxRecDepth 20000 in
theorem gX3_isAbove_X3_place : GoodIn wsX3_isAbove (wsV RX3 53 RX3 yX3_place wsX3_place) := goodIn_app (goodIn_of _ (by decide +kernel)) ggX3_isAbove_X3_place
theorem dX3_isAbove_0 : decode cX3_isAbove 0 = .ok (.aload_n 0, 1) := by decide +kernel
theorem dX3_isAbove_1 : decode cX3_isAbove 1 = .ok (.iload_n 1, 1) := by decide +kernel
theorem dX3_isAbove_2 : decode cX3_isAbove 2 = .ok (.invokevirtual 53, 3) := by decide +kernel
theorem dX3_isAbove_5 : decode cX3_isAbove 5 = .ok (.ifCond .ne 7, 3) := by decide +kernel
theorem dX3_isAbove_8 : decode cX3_isAbove 8 = .ok (.iconst 1, 1) := by decide +kernel
theorem dX3_isAbove_9 : decode cX3_isAbove 9 = .ok (.goto 4, 3) := by decide +kernel
theorem dX3_isAbove_12 : decode cX3_isAbove 12 = .ok (.iconst 0, 1) := by decide +kernel
theorem dX3_isAbove_13 : decode cX3_isAbove 13 = .ok (.ireturn, 1) := by decide +kernel
set_option maxRecDepth 20000 in
theorem ggX3_isBelow_X3_place : GoodIn wsX3_isBelow wsX3_place := goodIn_r _ [5, 6, 7, 8, 4, 9, 10] (by decide +kernel) (by decide +kernel)
set_option maxRecDepth 20000 in
theorem gX3_isBelow_X3_place : GoodIn wsX3_isBelow (wsV RX3 53 RX3 yX3_place wsX3_place) := goodIn_app (goodIn_of _ (by decide +kernel)) ggX3_isBelow_X3_place
theorem dX3_isBelow_0 : decode cX3_isBelow 0 = .ok (.aload_n 0, 1) := by decide +kernel
theorem dX3_isBelow_1 : decode cX3_isBelow 1 = .ok (.iload_n 1, 1) := by decide +kernel
theorem dX3_isBelow_2 : decode cX3_isBelow 2 = .ok (.invokevirtual 53, 3) := by decide +kernel
theorem dX3_isBelow_5 : decode cX3_isBelow 5 = .ok (.bipush 10, 2) := by decide +kernel
theorem dX3_isBelow_7 : decode cX3_isBelow 7 = .ok (.if_icmp .lt 7, 3) := by decide +kernel
theorem dX3_isBelow_10 : decode cX3_isBelow 10 = .ok (.iconst 1, 1) := by decide +kernel
theorem dX3_isBelow_11 : decode cX3_isBelow 11 = .ok (.goto 4, 3) := by decide +kernel
theorem dX3_isBelow_14 : decode cX3_isBelow 14 = .ok (.iconst 0, 1) := by decide +kernel
theorem dX3_isBelow_15 : decode cX3_isBelow 15 = .ok (.ireturn, 1) := by decide +kernel
set_option maxRecDepth 20000 in
theorem ggX3_daysBelow_X3_isBelow : GoodIn wsX3_daysBelow wsX3_isBelow := goodIn_r _ [6, 7, 8, 9, 5, 10, 1, 11, 12, 13, 25] (by decide +kernel) (by decide +kernel)
set_option maxRecDepth 20000 in
theorem gX3_daysBelow_X3_isBelow : GoodIn wsX3_daysBelow (wsV RX3 57 RX3 yX3_isBelow wsX3_isBelow) := goodIn_app (goodIn_of _ (by decide +kernel)) ggX3_daysBelow_X3_isBelow
set_option maxRecDepth 20000 in
theorem ggX3_daysBelow_X3_place : GoodIn wsX3_daysBelow wsX3_place := goodIn_r _ [10, 1, 11, 12, 5, 13, 25] (by decide +kernel) (by decide +kernel)
set_option maxRecDepth 20000 in
theorem gX3_daysBelow_X3_place : GoodIn wsX3_daysBelow (wsV RX3 53 RX3 yX3_place wsX3_place) := goodIn_app (goodIn_of _ (by decide +kernel)) ggX3_daysBelow_X3_place
set_option maxRecDepth 20000 in
theorem ggX3_daysBelow_X5_daysIn : GoodIn wsX3_daysBelow wsX5_daysIn := goodIn_r _ [18, 19, 20, 21, 22, 17, 23, 24, 26, 27, 28, 29, 30, 31, 32, 33, 34, 35, 36] (by decide +kernel) (by decide +kernel)
set_option maxRecDepth 20000 in
theorem gX3_daysBelow_X5_daysIn : GoodIn wsX3_daysBelow (wsV RX3 60 RX5 yX5_daysIn wsX5_daysIn) := goodIn_app (goodIn_of _ (by decide +kernel)) ggX3_daysBelow_X5_daysIn
theorem dX3_daysBelow_0 : decode cX3_daysBelow 0 = .ok (.aload_n 0, 1) := by decide +kernel
theorem dX3_daysBelow_1 : decode cX3_daysBelow 1 = .ok (.iload_n 2, 1) := by decide +kernel
theorem dX3_daysBelow_2 : decode cX3_daysBelow 2 = .ok (.invokevirtual 57, 3) := by decide +kernel
theorem dX3_daysBelow_5 : decode cX3_daysBelow 5 = .ok (.ifCond .eq 27, 3) := by decide +kernel
theorem dX3_daysBelow_8 : decode cX3_daysBelow 8 = .ok (.aload_n 1, 1) := by decide +kernel
theorem dX3_daysBelow_9 : decode cX3_daysBelow 9 = .ok (.aload_n 0, 1) := by decide +kernel
theorem dX3_daysBelow_10 : decode cX3_daysBelow 10 = .ok (.iload_n 2, 1) := by decide +kernel
theorem dX3_daysBelow_11 : decode cX3_daysBelow 11 = .ok (.invokevirtual 53, 3) := by decide +kernel
theorem dX3_daysBelow_14 : decode cX3_daysBelow 14 = .ok (.bipush 10, 2) := by decide +kernel
theorem dX3_daysBelow_16 : decode cX3_daysBelow 16 = .ok (.isub, 1) := by decide +kernel
theorem dX3_daysBelow_17 : decode cX3_daysBelow 17 = .ok (.aload_n 0, 1) := by decide +kernel
theorem dX3_daysBelow_18 : decode cX3_daysBelow 18 = .ok (.getfield 11, 3) := by decide +kernel
theorem dX3_daysBelow_21 : decode cX3_daysBelow 21 = .ok (.bipush 22, 2) := by decide +kernel
theorem dX3_daysBelow_23 : decode cX3_daysBelow 23 = .ok (.iload_n 2, 1) := by decide +kernel
theorem dX3_daysBelow_24 : decode cX3_daysBelow 24 = .ok (.iadd, 1) := by decide +kernel
theorem dX3_daysBelow_25 : decode cX3_daysBelow 25 = .ok (.iaload, 1) := by decide +kernel
theorem dX3_daysBelow_26 : decode cX3_daysBelow 26 = .ok (.invokevirtual 60, 3) := by decide +kernel
theorem dX3_daysBelow_29 : decode cX3_daysBelow 29 = .ok (.goto 4, 3) := by decide +kernel
theorem dX3_daysBelow_32 : decode cX3_daysBelow 32 = .ok (.iconst 0, 1) := by decide +kernel
theorem dX3_daysBelow_33 : decode cX3_daysBelow 33 = .ok (.ireturn, 1) := by decide +kernel
set_option maxRecDepth 20000 in
theorem ggX3_deadOnes_X3_place : GoodIn wsX3_deadOnes wsX3_place := goodIn_r _ [6, 7, 8, 9, 5, 10, 22] (by decide +kernel) (by decide +kernel)
set_option maxRecDepth 20000 in
theorem gX3_deadOnes_X3_place : GoodIn wsX3_deadOnes (wsV RX3 53 RX3 yX3_place wsX3_place) := goodIn_app (goodIn_of _ (by decide +kernel)) ggX3_deadOnes_X3_place
theorem dX3_deadOnes_0 : decode cX3_deadOnes 0 = .ok (.iconst 0, 1) := by decide +kernel
theorem dX3_deadOnes_1 : decode cX3_deadOnes 1 = .ok (.istore_n 2, 1) := by decide +kernel
theorem dX3_deadOnes_2 : decode cX3_deadOnes 2 = .ok (.iconst 0, 1) := by decide +kernel
theorem dX3_deadOnes_3 : decode cX3_deadOnes 3 = .ok (.istore_n 3, 1) := by decide +kernel
theorem dX3_deadOnes_4 : decode cX3_deadOnes 4 = .ok (.iload_n 3, 1) := by decide +kernel
theorem dX3_deadOnes_5 : decode cX3_deadOnes 5 = .ok (.aload_n 1, 1) := by decide +kernel
theorem dX3_deadOnes_6 : decode cX3_deadOnes 6 = .ok (.getfield 15, 3) := by decide +kernel
theorem dX3_deadOnes_9 : decode cX3_deadOnes 9 = .ok (.if_icmp .ge 24, 3) := by decide +kernel
theorem dX3_deadOnes_12 : decode cX3_deadOnes 12 = .ok (.aload_n 0, 1) := by decide +kernel
theorem dX3_deadOnes_13 : decode cX3_deadOnes 13 = .ok (.iload_n 3, 1) := by decide +kernel
theorem dX3_deadOnes_14 : decode cX3_deadOnes 14 = .ok (.invokevirtual 53, 3) := by decide +kernel
theorem dX3_deadOnes_17 : decode cX3_deadOnes 17 = .ok (.iconst 1, 1) := by decide +kernel
theorem dX3_deadOnes_18 : decode cX3_deadOnes 18 = .ok (.if_icmp .ne 9, 3) := by decide +kernel
theorem dX3_deadOnes_21 : decode cX3_deadOnes 21 = .ok (.iload_n 2, 1) := by decide +kernel
theorem dX3_deadOnes_22 : decode cX3_deadOnes 22 = .ok (.iconst 1, 1) := by decide +kernel
theorem dX3_deadOnes_23 : decode cX3_deadOnes 23 = .ok (.iload_n 3, 1) := by decide +kernel
theorem dX3_deadOnes_24 : decode cX3_deadOnes 24 = .ok (.ishl, 1) := by decide +kernel
theorem dX3_deadOnes_25 : decode cX3_deadOnes 25 = .ok (.ior, 1) := by decide +kernel
theorem dX3_deadOnes_26 : decode cX3_deadOnes 26 = .ok (.istore_n 2, 1) := by decide +kernel
theorem dX3_deadOnes_27 : decode cX3_deadOnes 27 = .ok (.iinc 3 1, 3) := by decide +kernel
theorem dX3_deadOnes_30 : decode cX3_deadOnes 30 = .ok (.goto (-26), 3) := by decide +kernel
theorem dX3_deadOnes_33 : decode cX3_deadOnes 33 = .ok (.iload_n 2, 1) := by decide +kernel
theorem dX3_deadOnes_34 : decode cX3_deadOnes 34 = .ok (.ireturn, 1) := by decide +kernel
set_option maxRecDepth 20000 in
theorem ggX3_stayersOf_X3_isBelow : GoodIn wsX3_stayersOf wsX3_isBelow := goodIn_r _ [7, 8, 9, 10, 6, 11, 2, 12, 13, 14, 26] (by decide +kernel) (by decide +kernel)
set_option maxRecDepth 20000 in
theorem gX3_stayersOf_X3_isBelow : GoodIn wsX3_stayersOf (wsV RX3 57 RX3 yX3_isBelow wsX3_isBelow) := goodIn_app (goodIn_of _ (by decide +kernel)) ggX3_stayersOf_X3_isBelow
theorem dX3_stayersOf_0 : decode cX3_stayersOf 0 = .ok (.iconst 0, 1) := by decide +kernel
theorem dX3_stayersOf_1 : decode cX3_stayersOf 1 = .ok (.istore_n 3, 1) := by decide +kernel
theorem dX3_stayersOf_2 : decode cX3_stayersOf 2 = .ok (.iconst 0, 1) := by decide +kernel
theorem dX3_stayersOf_3 : decode cX3_stayersOf 3 = .ok (.istore 4, 2) := by decide +kernel
theorem dX3_stayersOf_5 : decode cX3_stayersOf 5 = .ok (.iload 4, 2) := by decide +kernel
theorem dX3_stayersOf_7 : decode cX3_stayersOf 7 = .ok (.aload_n 1, 1) := by decide +kernel
theorem dX3_stayersOf_8 : decode cX3_stayersOf 8 = .ok (.getfield 15, 3) := by decide +kernel
theorem dX3_stayersOf_11 : decode cX3_stayersOf 11 = .ok (.if_icmp .ge 39, 3) := by decide +kernel
theorem dX3_stayersOf_14 : decode cX3_stayersOf 14 = .ok (.aload_n 0, 1) := by decide +kernel
theorem dX3_stayersOf_15 : decode cX3_stayersOf 15 = .ok (.iload 4, 2) := by decide +kernel
theorem dX3_stayersOf_17 : decode cX3_stayersOf 17 = .ok (.invokevirtual 57, 3) := by decide +kernel
theorem dX3_stayersOf_20 : decode cX3_stayersOf 20 = .ok (.ifCond .eq 24, 3) := by decide +kernel
theorem dX3_stayersOf_23 : decode cX3_stayersOf 23 = .ok (.aload_n 0, 1) := by decide +kernel
theorem dX3_stayersOf_24 : decode cX3_stayersOf 24 = .ok (.getfield 11, 3) := by decide +kernel
theorem dX3_stayersOf_27 : decode cX3_stayersOf 27 = .ok (.bipush 22, 2) := by decide +kernel
theorem dX3_stayersOf_29 : decode cX3_stayersOf 29 = .ok (.iload 4, 2) := by decide +kernel
theorem dX3_stayersOf_31 : decode cX3_stayersOf 31 = .ok (.iadd, 1) := by decide +kernel
theorem dX3_stayersOf_32 : decode cX3_stayersOf 32 = .ok (.iaload, 1) := by decide +kernel
theorem dX3_stayersOf_33 : decode cX3_stayersOf 33 = .ok (.iload_n 2, 1) := by decide +kernel
theorem dX3_stayersOf_34 : decode cX3_stayersOf 34 = .ok (.if_icmp .lt 10, 3) := by decide +kernel
theorem dX3_stayersOf_37 : decode cX3_stayersOf 37 = .ok (.iload_n 3, 1) := by decide +kernel
theorem dX3_stayersOf_38 : decode cX3_stayersOf 38 = .ok (.iconst 1, 1) := by decide +kernel
theorem dX3_stayersOf_39 : decode cX3_stayersOf 39 = .ok (.iload 4, 2) := by decide +kernel
theorem dX3_stayersOf_41 : decode cX3_stayersOf 41 = .ok (.ishl, 1) := by decide +kernel
theorem dX3_stayersOf_42 : decode cX3_stayersOf 42 = .ok (.ior, 1) := by decide +kernel
theorem dX3_stayersOf_43 : decode cX3_stayersOf 43 = .ok (.istore_n 3, 1) := by decide +kernel
theorem dX3_stayersOf_44 : decode cX3_stayersOf 44 = .ok (.iinc 4 1, 3) := by decide +kernel
theorem dX3_stayersOf_47 : decode cX3_stayersOf 47 = .ok (.goto (-42), 3) := by decide +kernel
theorem dX3_stayersOf_50 : decode cX3_stayersOf 50 = .ok (.iload_n 3, 1) := by decide +kernel
theorem dX3_stayersOf_51 : decode cX3_stayersOf 51 = .ok (.ireturn, 1) := by decide +kernel
set_option maxRecDepth 20000 in
theorem ggX3_passYears_X3_isAbove : GoodIn wsX3_passYears wsX3_isAbove := goodIn_r _ [13, 14, 15, 16, 12, 17, 1, 18, 19, 20, 45] (by decide +kernel) (by decide +kernel)
set_option maxRecDepth 20000 in
theorem gX3_passYears_X3_isAbove : GoodIn wsX3_passYears (wsV RX3 63 RX3 yX3_isAbove wsX3_isAbove) := goodIn_app (goodIn_of _ (by decide +kernel)) ggX3_passYears_X3_isAbove
set_option maxRecDepth 20000 in
theorem ggX3_passYears_X3_buryIfOld : GoodIn wsX3_passYears wsX3_buryIfOld := goodIn_r _ [24, 1, 3, 45, 46, 47, 48, 49, 50, 51, 52, 53, 54, 55, 56] (by decide +kernel) (by decide +kernel)
set_option maxRecDepth 20000 in
theorem gX3_passYears_X3_buryIfOld : GoodIn wsX3_passYears (wsV RX3 24 RX3 yX3_buryIfOld wsX3_buryIfOld) := goodIn_app (goodIn_of _ (by decide +kernel)) ggX3_passYears_X3_buryIfOld
set_option maxRecDepth 20000 in
theorem ggX3_passYears_X3_isBelow : GoodIn wsX3_passYears wsX3_isBelow := goodIn_r _ [28, 14, 15, 16, 12, 17, 1, 18, 19, 20, 45] (by decide +kernel) (by decide +kernel)
set_option maxRecDepth 20000 in
theorem gX3_passYears_X3_isBelow : GoodIn wsX3_passYears (wsV RX3 57 RX3 yX3_isBelow wsX3_isBelow) := goodIn_app (goodIn_of _ (by decide +kernel)) ggX3_passYears_X3_isBelow
set_option maxRecDepth 20000 in
theorem ggX3_passYears_X5_worthBehind : GoodIn wsX3_passYears wsX5_worthBehind := goodIn_r _ [33, 34, 35, 36, 32, 37, 38, 39, 40, 41, 42, 43, 44, 46, 47, 48, 49, 50, 51, 52, 53, 54, 55, 56] (by decide +kernel) (by decide +kernel)
set_option maxRecDepth 20000 in
theorem gX3_passYears_X5_worthBehind : GoodIn wsX3_passYears (wsV RX3 69 RX5 yX5_worthBehind wsX5_worthBehind) := goodIn_app (goodIn_of _ (by decide +kernel)) ggX3_passYears_X5_worthBehind
theorem dX3_passYears_0 : decode cX3_passYears 0 = .ok (.aload_n 0, 1) := by decide +kernel
theorem dX3_passYears_1 : decode cX3_passYears 1 = .ok (.getfield 11, 3) := by decide +kernel
theorem dX3_passYears_4 : decode cX3_passYears 4 = .ok (.iconst 0, 1) := by decide +kernel
theorem dX3_passYears_5 : decode cX3_passYears 5 = .ok (.dup2, 1) := by decide +kernel
theorem dX3_passYears_6 : decode cX3_passYears 6 = .ok (.iaload, 1) := by decide +kernel
theorem dX3_passYears_7 : decode cX3_passYears 7 = .ok (.iload_n 2, 1) := by decide +kernel
theorem dX3_passYears_8 : decode cX3_passYears 8 = .ok (.iadd, 1) := by decide +kernel
theorem dX3_passYears_9 : decode cX3_passYears 9 = .ok (.iastore, 1) := by decide +kernel
theorem dX3_passYears_10 : decode cX3_passYears 10 = .ok (.iconst 0, 1) := by decide +kernel
theorem dX3_passYears_11 : decode cX3_passYears 11 = .ok (.istore_n 3, 1) := by decide +kernel
theorem dX3_passYears_12 : decode cX3_passYears 12 = .ok (.iload_n 3, 1) := by decide +kernel
theorem dX3_passYears_13 : decode cX3_passYears 13 = .ok (.aload_n 1, 1) := by decide +kernel
theorem dX3_passYears_14 : decode cX3_passYears 14 = .ok (.getfield 15, 3) := by decide +kernel
theorem dX3_passYears_17 : decode cX3_passYears 17 = .ok (.if_icmp .ge 90, 3) := by decide +kernel
theorem dX3_passYears_20 : decode cX3_passYears 20 = .ok (.aload_n 0, 1) := by decide +kernel
theorem dX3_passYears_21 : decode cX3_passYears 21 = .ok (.iload_n 3, 1) := by decide +kernel
theorem dX3_passYears_22 : decode cX3_passYears 22 = .ok (.invokevirtual 63, 3) := by decide +kernel
theorem dX3_passYears_25 : decode cX3_passYears 25 = .ok (.ifCond .eq 42, 3) := by decide +kernel
theorem dX3_passYears_28 : decode cX3_passYears 28 = .ok (.aload_n 0, 1) := by decide +kernel
theorem dX3_passYears_29 : decode cX3_passYears 29 = .ok (.getfield 11, 3) := by decide +kernel
theorem dX3_passYears_32 : decode cX3_passYears 32 = .ok (.iconst 1, 1) := by decide +kernel
theorem dX3_passYears_33 : decode cX3_passYears 33 = .ok (.iload_n 3, 1) := by decide +kernel
theorem dX3_passYears_34 : decode cX3_passYears 34 = .ok (.iadd, 1) := by decide +kernel
theorem dX3_passYears_35 : decode cX3_passYears 35 = .ok (.dup2, 1) := by decide +kernel
theorem dX3_passYears_36 : decode cX3_passYears 36 = .ok (.iaload, 1) := by decide +kernel
theorem dX3_passYears_37 : decode cX3_passYears 37 = .ok (.iload_n 2, 1) := by decide +kernel
theorem dX3_passYears_38 : decode cX3_passYears 38 = .ok (.aload_n 1, 1) := by decide +kernel
theorem dX3_passYears_39 : decode cX3_passYears 39 = .ok (.getfield 66, 3) := by decide +kernel
theorem dX3_passYears_42 : decode cX3_passYears 42 = .ok (.iload_n 3, 1) := by decide +kernel
theorem dX3_passYears_43 : decode cX3_passYears 43 = .ok (.iaload, 1) := by decide +kernel
theorem dX3_passYears_44 : decode cX3_passYears 44 = .ok (.aload_n 0, 1) := by decide +kernel
theorem dX3_passYears_45 : decode cX3_passYears 45 = .ok (.getfield 11, 3) := by decide +kernel
theorem dX3_passYears_48 : decode cX3_passYears 48 = .ok (.iconst 1, 1) := by decide +kernel
theorem dX3_passYears_49 : decode cX3_passYears 49 = .ok (.iload_n 3, 1) := by decide +kernel
theorem dX3_passYears_50 : decode cX3_passYears 50 = .ok (.iadd, 1) := by decide +kernel
theorem dX3_passYears_51 : decode cX3_passYears 51 = .ok (.iaload, 1) := by decide +kernel
theorem dX3_passYears_52 : decode cX3_passYears 52 = .ok (.isub, 1) := by decide +kernel
theorem dX3_passYears_53 : decode cX3_passYears 53 = .ok (.invokestatic 34, 3) := by decide +kernel
theorem dX3_passYears_56 : decode cX3_passYears 56 = .ok (.iadd, 1) := by decide +kernel
theorem dX3_passYears_57 : decode cX3_passYears 57 = .ok (.iastore, 1) := by decide +kernel
theorem dX3_passYears_58 : decode cX3_passYears 58 = .ok (.aload_n 0, 1) := by decide +kernel
theorem dX3_passYears_59 : decode cX3_passYears 59 = .ok (.aload_n 1, 1) := by decide +kernel
theorem dX3_passYears_60 : decode cX3_passYears 60 = .ok (.iload_n 3, 1) := by decide +kernel
theorem dX3_passYears_61 : decode cX3_passYears 61 = .ok (.invokevirtual 24, 3) := by decide +kernel
theorem dX3_passYears_64 : decode cX3_passYears 64 = .ok (.goto 37, 3) := by decide +kernel
theorem dX3_passYears_67 : decode cX3_passYears 67 = .ok (.aload_n 0, 1) := by decide +kernel
theorem dX3_passYears_68 : decode cX3_passYears 68 = .ok (.iload_n 3, 1) := by decide +kernel
theorem dX3_passYears_69 : decode cX3_passYears 69 = .ok (.invokevirtual 57, 3) := by decide +kernel
theorem dX3_passYears_72 : decode cX3_passYears 72 = .ok (.ifCond .eq 29, 3) := by decide +kernel
theorem dX3_passYears_75 : decode cX3_passYears 75 = .ok (.aload_n 0, 1) := by decide +kernel
theorem dX3_passYears_76 : decode cX3_passYears 76 = .ok (.getfield 11, 3) := by decide +kernel
theorem dX3_passYears_79 : decode cX3_passYears 79 = .ok (.bipush 15, 2) := by decide +kernel
theorem dX3_passYears_81 : decode cX3_passYears 81 = .ok (.iload_n 3, 1) := by decide +kernel
theorem dX3_passYears_82 : decode cX3_passYears 82 = .ok (.iadd, 1) := by decide +kernel
theorem dX3_passYears_83 : decode cX3_passYears 83 = .ok (.dup2, 1) := by decide +kernel
theorem dX3_passYears_84 : decode cX3_passYears 84 = .ok (.iaload, 1) := by decide +kernel
theorem dX3_passYears_85 : decode cX3_passYears 85 = .ok (.iload_n 2, 1) := by decide +kernel
theorem dX3_passYears_86 : decode cX3_passYears 86 = .ok (.iadd, 1) := by decide +kernel
theorem dX3_passYears_87 : decode cX3_passYears 87 = .ok (.iastore, 1) := by decide +kernel
theorem dX3_passYears_88 : decode cX3_passYears 88 = .ok (.aload_n 0, 1) := by decide +kernel
theorem dX3_passYears_89 : decode cX3_passYears 89 = .ok (.getfield 11, 3) := by decide +kernel
theorem dX3_passYears_92 : decode cX3_passYears 92 = .ok (.bipush 22, 2) := by decide +kernel
theorem dX3_passYears_94 : decode cX3_passYears 94 = .ok (.iload_n 3, 1) := by decide +kernel
theorem dX3_passYears_95 : decode cX3_passYears 95 = .ok (.iadd, 1) := by decide +kernel
theorem dX3_passYears_96 : decode cX3_passYears 96 = .ok (.dup2, 1) := by decide +kernel
theorem dX3_passYears_97 : decode cX3_passYears 97 = .ok (.iaload, 1) := by decide +kernel
theorem dX3_passYears_98 : decode cX3_passYears 98 = .ok (.iload_n 2, 1) := by decide +kernel
theorem dX3_passYears_99 : decode cX3_passYears 99 = .ok (.iadd, 1) := by decide +kernel
theorem dX3_passYears_100 : decode cX3_passYears 100 = .ok (.iastore, 1) := by decide +kernel
theorem dX3_passYears_101 : decode cX3_passYears 101 = .ok (.iinc 3 1, 3) := by decide +kernel
theorem dX3_passYears_104 : decode cX3_passYears 104 = .ok (.goto (-92), 3) := by decide +kernel
theorem dX3_passYears_107 : decode cX3_passYears 107 = .ok (.iconst 0, 1) := by decide +kernel
theorem dX3_passYears_108 : decode cX3_passYears 108 = .ok (.istore_n 3, 1) := by decide +kernel
theorem dX3_passYears_109 : decode cX3_passYears 109 = .ok (.iload_n 3, 1) := by decide +kernel
theorem dX3_passYears_110 : decode cX3_passYears 110 = .ok (.aload_n 1, 1) := by decide +kernel
theorem dX3_passYears_111 : decode cX3_passYears 111 = .ok (.getfield 28, 3) := by decide +kernel
theorem dX3_passYears_114 : decode cX3_passYears 114 = .ok (.if_icmp .ge 33, 3) := by decide +kernel
theorem dX3_passYears_117 : decode cX3_passYears 117 = .ok (.aload_n 0, 1) := by decide +kernel
theorem dX3_passYears_118 : decode cX3_passYears 118 = .ok (.getfield 11, 3) := by decide +kernel
theorem dX3_passYears_121 : decode cX3_passYears 121 = .ok (.bipush 29, 2) := by decide +kernel
theorem dX3_passYears_123 : decode cX3_passYears 123 = .ok (.iload_n 3, 1) := by decide +kernel
theorem dX3_passYears_124 : decode cX3_passYears 124 = .ok (.iadd, 1) := by decide +kernel
theorem dX3_passYears_125 : decode cX3_passYears 125 = .ok (.aload_n 1, 1) := by decide +kernel
theorem dX3_passYears_126 : decode cX3_passYears 126 = .ok (.iload_n 3, 1) := by decide +kernel
theorem dX3_passYears_127 : decode cX3_passYears 127 = .ok (.aload_n 0, 1) := by decide +kernel
theorem dX3_passYears_128 : decode cX3_passYears 128 = .ok (.getfield 11, 3) := by decide +kernel
theorem dX3_passYears_131 : decode cX3_passYears 131 = .ok (.bipush 29, 2) := by decide +kernel
theorem dX3_passYears_133 : decode cX3_passYears 133 = .ok (.iload_n 3, 1) := by decide +kernel
theorem dX3_passYears_134 : decode cX3_passYears 134 = .ok (.iadd, 1) := by decide +kernel
theorem dX3_passYears_135 : decode cX3_passYears 135 = .ok (.iaload, 1) := by decide +kernel
theorem dX3_passYears_136 : decode cX3_passYears 136 = .ok (.iload_n 2, 1) := by decide +kernel
theorem dX3_passYears_137 : decode cX3_passYears 137 = .ok (.invokevirtual 69, 3) := by decide +kernel
theorem dX3_passYears_140 : decode cX3_passYears 140 = .ok (.iastore, 1) := by decide +kernel
theorem dX3_passYears_141 : decode cX3_passYears 141 = .ok (.iinc 3 1, 3) := by decide +kernel
theorem dX3_passYears_144 : decode cX3_passYears 144 = .ok (.goto (-35), 3) := by decide +kernel
theorem dX3_passYears_147 : decode cX3_passYears 147 = .ok (.return_, 1) := by decide +kernel
set_option maxRecDepth 20000 in
theorem ggX3_goDown_X3_isPerson : GoodIn wsX3_goDown wsX3_isPerson := goodIn_r _ [5] (by decide +kernel) (by decide +kernel)
set_option maxRecDepth 20000 in
theorem gX3_goDown_X3_isPerson : GoodIn wsX3_goDown (va_wsS RX3 46 yX3_isPerson wsX3_isPerson) := goodIn_app (goodIn_of _ (by decide +kernel)) ggX3_goDown_X3_isPerson
theorem dX3_goDown_0 : decode cX3_goDown 0 = .ok (.iload_n 1, 1) := by decide +kernel
theorem dX3_goDown_1 : decode cX3_goDown 1 = .ok (.invokestatic 46, 3) := by decide +kernel
theorem dX3_goDown_4 : decode cX3_goDown 4 = .ok (.ifCond .eq 26, 3) := by decide +kernel
theorem dX3_goDown_7 : decode cX3_goDown 7 = .ok (.aload_n 0, 1) := by decide +kernel
theorem dX3_goDown_8 : decode cX3_goDown 8 = .ok (.getfield 11, 3) := by decide +kernel
theorem dX3_goDown_11 : decode cX3_goDown 11 = .ok (.bipush 8, 2) := by decide +kernel
theorem dX3_goDown_13 : decode cX3_goDown 13 = .ok (.iload_n 1, 1) := by decide +kernel
theorem dX3_goDown_14 : decode cX3_goDown 14 = .ok (.iadd, 1) := by decide +kernel
theorem dX3_goDown_15 : decode cX3_goDown 15 = .ok (.bipush 10, 2) := by decide +kernel
theorem dX3_goDown_17 : decode cX3_goDown 17 = .ok (.iload_n 2, 1) := by decide +kernel
theorem dX3_goDown_18 : decode cX3_goDown 18 = .ok (.iadd, 1) := by decide +kernel
theorem dX3_goDown_19 : decode cX3_goDown 19 = .ok (.iastore, 1) := by decide +kernel
theorem dX3_goDown_20 : decode cX3_goDown 20 = .ok (.aload_n 0, 1) := by decide +kernel
theorem dX3_goDown_21 : decode cX3_goDown 21 = .ok (.getfield 11, 3) := by decide +kernel
theorem dX3_goDown_24 : decode cX3_goDown 24 = .ok (.bipush 22, 2) := by decide +kernel
theorem dX3_goDown_26 : decode cX3_goDown 26 = .ok (.iload_n 1, 1) := by decide +kernel
theorem dX3_goDown_27 : decode cX3_goDown 27 = .ok (.iadd, 1) := by decide +kernel
theorem dX3_goDown_28 : decode cX3_goDown 28 = .ok (.iconst 0, 1) := by decide +kernel
theorem dX3_goDown_29 : decode cX3_goDown 29 = .ok (.iastore, 1) := by decide +kernel
theorem dX3_goDown_30 : decode cX3_goDown 30 = .ok (.return_, 1) := by decide +kernel
set_option maxRecDepth 20000 in
theorem ggX3_comeUp_X3_isPerson : GoodIn wsX3_comeUp wsX3_isPerson := goodIn_r _ [5] (by decide +kernel) (by decide +kernel)
set_option maxRecDepth 20000 in
theorem gX3_comeUp_X3_isPerson : GoodIn wsX3_comeUp (va_wsS RX3 46 yX3_isPerson wsX3_isPerson) := goodIn_app (goodIn_of _ (by decide +kernel)) ggX3_comeUp_X3_isPerson
theorem dX3_comeUp_0 : decode cX3_comeUp 0 = .ok (.iload_n 1, 1) := by decide +kernel
theorem dX3_comeUp_1 : decode cX3_comeUp 1 = .ok (.invokestatic 46, 3) := by decide +kernel
theorem dX3_comeUp_4 : decode cX3_comeUp 4 = .ok (.ifCond .eq 13, 3) := by decide +kernel
theorem dX3_comeUp_7 : decode cX3_comeUp 7 = .ok (.aload_n 0, 1) := by decide +kernel
theorem dX3_comeUp_8 : decode cX3_comeUp 8 = .ok (.getfield 11, 3) := by decide +kernel
theorem dX3_comeUp_11 : decode cX3_comeUp 11 = .ok (.bipush 8, 2) := by decide +kernel
theorem dX3_comeUp_13 : decode cX3_comeUp 13 = .ok (.iload_n 1, 1) := by decide +kernel
theorem dX3_comeUp_14 : decode cX3_comeUp 14 = .ok (.iadd, 1) := by decide +kernel
theorem dX3_comeUp_15 : decode cX3_comeUp 15 = .ok (.iconst 0, 1) := by decide +kernel
theorem dX3_comeUp_16 : decode cX3_comeUp 16 = .ok (.iastore, 1) := by decide +kernel
theorem dX3_comeUp_17 : decode cX3_comeUp 17 = .ok (.return_, 1) := by decide +kernel
set_option maxRecDepth 20000 in
theorem ggX3_openBox_X3_isPerson : GoodIn wsX3_openBox wsX3_isPerson := goodIn_r _ [5] (by decide +kernel) (by decide +kernel)
set_option maxRecDepth 20000 in
theorem gX3_openBox_X3_isPerson : GoodIn wsX3_openBox (va_wsS RX3 46 yX3_isPerson wsX3_isPerson) := goodIn_app (goodIn_of _ (by decide +kernel)) ggX3_openBox_X3_isPerson
set_option maxRecDepth 20000 in
theorem ggX3_openBox_X3_buryIfOld : GoodIn wsX3_openBox wsX3_buryIfOld := goodIn_r _ [9, 1, 10, 11, 12, 13, 14, 15, 16, 17, 18, 19, 20, 21, 22] (by decide +kernel) (by decide +kernel)
set_option maxRecDepth 20000 in
theorem gX3_openBox_X3_buryIfOld : GoodIn wsX3_openBox (wsV RX3 24 RX3 yX3_buryIfOld wsX3_buryIfOld) := goodIn_app (goodIn_of _ (by decide +kernel)) ggX3_openBox_X3_buryIfOld
theorem dX3_openBox_0 : decode cX3_openBox 0 = .ok (.iload_n 2, 1) := by decide +kernel
theorem dX3_openBox_1 : decode cX3_openBox 1 = .ok (.invokestatic 46, 3) := by decide +kernel
theorem dX3_openBox_4 : decode cX3_openBox 4 = .ok (.ifCond .eq 39, 3) := by decide +kernel
theorem dX3_openBox_7 : decode cX3_openBox 7 = .ok (.aload_n 0, 1) := by decide +kernel
theorem dX3_openBox_8 : decode cX3_openBox 8 = .ok (.getfield 11, 3) := by decide +kernel
theorem dX3_openBox_11 : decode cX3_openBox 11 = .ok (.iconst 1, 1) := by decide +kernel
theorem dX3_openBox_12 : decode cX3_openBox 12 = .ok (.iload_n 2, 1) := by decide +kernel
theorem dX3_openBox_13 : decode cX3_openBox 13 = .ok (.iadd, 1) := by decide +kernel
theorem dX3_openBox_14 : decode cX3_openBox 14 = .ok (.dup2, 1) := by decide +kernel
theorem dX3_openBox_15 : decode cX3_openBox 15 = .ok (.iaload, 1) := by decide +kernel
theorem dX3_openBox_16 : decode cX3_openBox 16 = .ok (.aload_n 0, 1) := by decide +kernel
theorem dX3_openBox_17 : decode cX3_openBox 17 = .ok (.getfield 11, 3) := by decide +kernel
theorem dX3_openBox_20 : decode cX3_openBox 20 = .ok (.bipush 15, 2) := by decide +kernel
theorem dX3_openBox_22 : decode cX3_openBox 22 = .ok (.iload_n 2, 1) := by decide +kernel
theorem dX3_openBox_23 : decode cX3_openBox 23 = .ok (.iadd, 1) := by decide +kernel
theorem dX3_openBox_24 : decode cX3_openBox 24 = .ok (.iaload, 1) := by decide +kernel
theorem dX3_openBox_25 : decode cX3_openBox 25 = .ok (.iadd, 1) := by decide +kernel
theorem dX3_openBox_26 : decode cX3_openBox 26 = .ok (.iastore, 1) := by decide +kernel
theorem dX3_openBox_27 : decode cX3_openBox 27 = .ok (.aload_n 0, 1) := by decide +kernel
theorem dX3_openBox_28 : decode cX3_openBox 28 = .ok (.getfield 11, 3) := by decide +kernel
theorem dX3_openBox_31 : decode cX3_openBox 31 = .ok (.bipush 15, 2) := by decide +kernel
theorem dX3_openBox_33 : decode cX3_openBox 33 = .ok (.iload_n 2, 1) := by decide +kernel
theorem dX3_openBox_34 : decode cX3_openBox 34 = .ok (.iadd, 1) := by decide +kernel
theorem dX3_openBox_35 : decode cX3_openBox 35 = .ok (.iconst 0, 1) := by decide +kernel
theorem dX3_openBox_36 : decode cX3_openBox 36 = .ok (.iastore, 1) := by decide +kernel
theorem dX3_openBox_37 : decode cX3_openBox 37 = .ok (.aload_n 0, 1) := by decide +kernel
theorem dX3_openBox_38 : decode cX3_openBox 38 = .ok (.aload_n 1, 1) := by decide +kernel
theorem dX3_openBox_39 : decode cX3_openBox 39 = .ok (.iload_n 2, 1) := by decide +kernel
theorem dX3_openBox_40 : decode cX3_openBox 40 = .ok (.invokevirtual 24, 3) := by decide +kernel
theorem dX3_openBox_43 : decode cX3_openBox 43 = .ok (.return_, 1) := by decide +kernel
set_option maxRecDepth 20000 in
theorem ggX3_takeGood_X3_isGood : GoodIn wsX3_takeGood wsX3_isGood := goodIn_r _ [5] (by decide +kernel) (by decide +kernel)
set_option maxRecDepth 20000 in
theorem gX3_takeGood_X3_isGood : GoodIn wsX3_takeGood (va_wsS RX3 50 yX3_isGood wsX3_isGood) := goodIn_app (goodIn_of _ (by decide +kernel)) ggX3_takeGood_X3_isGood
theorem dX3_takeGood_0 : decode cX3_takeGood 0 = .ok (.iload_n 1, 1) := by decide +kernel
theorem dX3_takeGood_1 : decode cX3_takeGood 1 = .ok (.invokestatic 50, 3) := by decide +kernel
theorem dX3_takeGood_4 : decode cX3_takeGood 4 = .ok (.ifCond .eq 13, 3) := by decide +kernel
theorem dX3_takeGood_7 : decode cX3_takeGood 7 = .ok (.aload_n 0, 1) := by decide +kernel
theorem dX3_takeGood_8 : decode cX3_takeGood 8 = .ok (.getfield 11, 3) := by decide +kernel
theorem dX3_takeGood_11 : decode cX3_takeGood 11 = .ok (.bipush 29, 2) := by decide +kernel
theorem dX3_takeGood_13 : decode cX3_takeGood 13 = .ok (.iload_n 1, 1) := by decide +kernel
theorem dX3_takeGood_14 : decode cX3_takeGood 14 = .ok (.iadd, 1) := by decide +kernel
theorem dX3_takeGood_15 : decode cX3_takeGood 15 = .ok (.iconst 0, 1) := by decide +kernel
theorem dX3_takeGood_16 : decode cX3_takeGood 16 = .ok (.iastore, 1) := by decide +kernel
theorem dX3_takeGood_17 : decode cX3_takeGood 17 = .ok (.return_, 1) := by decide +kernel
theorem dX3_buryIfOld_0 : decode cX3_buryIfOld 0 = .ok (.aload_n 0, 1) := by decide +kernel
theorem dX3_buryIfOld_1 : decode cX3_buryIfOld 1 = .ok (.getfield 11, 3) := by decide +kernel
theorem dX3_buryIfOld_4 : decode cX3_buryIfOld 4 = .ok (.iconst 1, 1) := by decide +kernel
theorem dX3_buryIfOld_5 : decode cX3_buryIfOld 5 = .ok (.iload_n 2, 1) := by decide +kernel
theorem dX3_buryIfOld_6 : decode cX3_buryIfOld 6 = .ok (.iadd, 1) := by decide +kernel
theorem dX3_buryIfOld_7 : decode cX3_buryIfOld 7 = .ok (.iaload, 1) := by decide +kernel
theorem dX3_buryIfOld_8 : decode cX3_buryIfOld 8 = .ok (.aload_n 1, 1) := by decide +kernel
theorem dX3_buryIfOld_9 : decode cX3_buryIfOld 9 = .ok (.getfield 66, 3) := by decide +kernel
theorem dX3_buryIfOld_12 : decode cX3_buryIfOld 12 = .ok (.iload_n 2, 1) := by decide +kernel
theorem dX3_buryIfOld_13 : decode cX3_buryIfOld 13 = .ok (.iaload, 1) := by decide +kernel
theorem dX3_buryIfOld_14 : decode cX3_buryIfOld 14 = .ok (.if_icmp .lt 13, 3) := by decide +kernel
theorem dX3_buryIfOld_17 : decode cX3_buryIfOld 17 = .ok (.aload_n 0, 1) := by decide +kernel
theorem dX3_buryIfOld_18 : decode cX3_buryIfOld 18 = .ok (.getfield 11, 3) := by decide +kernel
theorem dX3_buryIfOld_21 : decode cX3_buryIfOld 21 = .ok (.bipush 8, 2) := by decide +kernel
theorem dX3_buryIfOld_23 : decode cX3_buryIfOld 23 = .ok (.iload_n 2, 1) := by decide +kernel
theorem dX3_buryIfOld_24 : decode cX3_buryIfOld 24 = .ok (.iadd, 1) := by decide +kernel
theorem dX3_buryIfOld_25 : decode cX3_buryIfOld 25 = .ok (.iconst 1, 1) := by decide +kernel
theorem dX3_buryIfOld_26 : decode cX3_buryIfOld 26 = .ok (.iastore, 1) := by decide +kernel
theorem dX3_buryIfOld_27 : decode cX3_buryIfOld 27 = .ok (.return_, 1) := by decide +kernel
theorem dX3_isPerson_0 : decode cX3_isPerson 0 = .ok (.iload_n 0, 1) := by decide +kernel
theorem dX3_isPerson_1 : decode cX3_isPerson 1 = .ok (.ifCond .lt 13, 3) := by decide +kernel
theorem dX3_isPerson_4 : decode cX3_isPerson 4 = .ok (.iload_n 0, 1) := by decide +kernel
theorem dX3_isPerson_5 : decode cX3_isPerson 5 = .ok (.bipush 7, 2) := by decide +kernel
theorem dX3_isPerson_7 : decode cX3_isPerson 7 = .ok (.if_icmp .ge 7, 3) := by decide +kernel
theorem dX3_isPerson_10 : decode cX3_isPerson 10 = .ok (.iconst 1, 1) := by decide +kernel
theorem dX3_isPerson_11 : decode cX3_isPerson 11 = .ok (.goto 4, 3) := by decide +kernel
theorem dX3_isPerson_14 : decode cX3_isPerson 14 = .ok (.iconst 0, 1) := by decide +kernel
theorem dX3_isPerson_15 : decode cX3_isPerson 15 = .ok (.ireturn, 1) := by decide +kernel
theorem dX3_isGood_0 : decode cX3_isGood 0 = .ok (.iload_n 0, 1) := by decide +kernel
theorem dX3_isGood_1 : decode cX3_isGood 1 = .ok (.ifCond .lt 13, 3) := by decide +kernel
theorem dX3_isGood_4 : decode cX3_isGood 4 = .ok (.iload_n 0, 1) := by decide +kernel
theorem dX3_isGood_5 : decode cX3_isGood 5 = .ok (.bipush 6, 2) := by decide +kernel
theorem dX3_isGood_7 : decode cX3_isGood 7 = .ok (.if_icmp .ge 7, 3) := by decide +kernel
theorem dX3_isGood_10 : decode cX3_isGood 10 = .ok (.iconst 1, 1) := by decide +kernel
theorem dX3_isGood_11 : decode cX3_isGood 11 = .ok (.goto 4, 3) := by decide +kernel
theorem dX3_isGood_14 : decode cX3_isGood 14 = .ok (.iconst 0, 1) := by decide +kernel
theorem dX3_isGood_15 : decode cX3_isGood 15 = .ok (.ireturn, 1) := by decide +kernel
theorem dX4_init_0 : decode cX4_init 0 = .ok (.aload_n 0, 1) := by decide +kernel
theorem dX4_init_1 : decode cX4_init 1 = .ok (.invokespecial 1, 3) := by decide +kernel
theorem dX4_init_4 : decode cX4_init 4 = .ok (.aload_n 0, 1) := by decide +kernel
theorem dX4_init_5 : decode cX4_init 5 = .ok (.bipush 20, 2) := by decide +kernel
theorem dX4_init_7 : decode cX4_init 7 = .ok (.bipush 35, 2) := by decide +kernel
theorem dX4_init_9 : decode cX4_init 9 = .ok (.multianewarray 11 2, 4) := by decide +kernel
theorem dX4_init_13 : decode cX4_init 13 = .ok (.putfield 13, 3) := by decide +kernel
theorem dX4_init_16 : decode cX4_init 16 = .ok (.return_, 1) := by decide +kernel
theorem dX4_forget_0 : decode cX4_forget 0 = .ok (.aload_n 0, 1) := by decide +kernel
theorem dX4_forget_1 : decode cX4_forget 1 = .ok (.iconst 0, 1) := by decide +kernel
theorem dX4_forget_2 : decode cX4_forget 2 = .ok (.putfield 16, 3) := by decide +kernel
theorem dX4_forget_5 : decode cX4_forget 5 = .ok (.return_, 1) := by decide +kernel
set_option maxRecDepth 20000 in
theorem ggX4_remember_X3_copyTo : GoodIn wsX4_remember wsX3_copyTo := goodIn_r _ [12, 13, 14, 5, 6, 7, 15, 16, 17, 18, 22] (by decide +kernel) (by decide +kernel)
set_option maxRecDepth 20000 in
theorem gX4_remember_X3_copyTo : GoodIn wsX4_remember (wsV RX4 23 RX3 yX3_copyTo wsX3_copyTo) := goodIn_app (goodIn_of _ (by decide +kernel)) ggX4_remember_X3_copyTo
theorem dX4_remember_0 : decode cX4_remember 0 = .ok (.aload_n 1, 1) := by decide +kernel
theorem dX4_remember_1 : decode cX4_remember 1 = .ok (.aload_n 0, 1) := by decide +kernel
theorem dX4_remember_2 : decode cX4_remember 2 = .ok (.getfield 13, 3) := by decide +kernel
theorem dX4_remember_5 : decode cX4_remember 5 = .ok (.aload_n 0, 1) := by decide +kernel
theorem dX4_remember_6 : decode cX4_remember 6 = .ok (.getfield 20, 3) := by decide +kernel
theorem dX4_remember_9 : decode cX4_remember 9 = .ok (.aaload, 1) := by decide +kernel
theorem dX4_remember_10 : decode cX4_remember 10 = .ok (.invokevirtual 23, 3) := by decide +kernel
theorem dX4_remember_13 : decode cX4_remember 13 = .ok (.aload_n 0, 1) := by decide +kernel
theorem dX4_remember_14 : decode cX4_remember 14 = .ok (.aload_n 0, 1) := by decide +kernel
theorem dX4_remember_15 : decode cX4_remember 15 = .ok (.getfield 20, 3) := by decide +kernel
theorem dX4_remember_18 : decode cX4_remember 18 = .ok (.iconst 1, 1) := by decide +kernel
theorem dX4_remember_19 : decode cX4_remember 19 = .ok (.iadd, 1) := by decide +kernel
theorem dX4_remember_20 : decode cX4_remember 20 = .ok (.bipush 20, 2) := by decide +kernel
theorem dX4_remember_22 : decode cX4_remember 22 = .ok (.irem, 1) := by decide +kernel
theorem dX4_remember_23 : decode cX4_remember 23 = .ok (.putfield 20, 3) := by decide +kernel
theorem dX4_remember_26 : decode cX4_remember 26 = .ok (.aload_n 0, 1) := by decide +kernel
theorem dX4_remember_27 : decode cX4_remember 27 = .ok (.aload_n 0, 1) := by decide +kernel
theorem dX4_remember_28 : decode cX4_remember 28 = .ok (.getfield 16, 3) := by decide +kernel
theorem dX4_remember_31 : decode cX4_remember 31 = .ok (.iconst 1, 1) := by decide +kernel
theorem dX4_remember_32 : decode cX4_remember 32 = .ok (.iadd, 1) := by decide +kernel
theorem dX4_remember_33 : decode cX4_remember 33 = .ok (.bipush 20, 2) := by decide +kernel
theorem dX4_remember_35 : decode cX4_remember 35 = .ok (.invokestatic 27, 3) := by decide +kernel
theorem dX4_remember_38 : decode cX4_remember 38 = .ok (.putfield 16, 3) := by decide +kernel
theorem dX4_remember_41 : decode cX4_remember 41 = .ok (.return_, 1) := by decide +kernel
set_option maxRecDepth 20000 in
theorem ggX4_bringBack_X3_copyFrom : GoodIn wsX4_bringBack wsX3_copyFrom := goodIn_r _ [8, 9, 10, 11, 12, 13, 14, 15, 16, 17, 21] (by decide +kernel) (by decide +kernel)
set_option maxRecDepth 20000 in
theorem gX4_bringBack_X3_copyFrom : GoodIn wsX4_bringBack (wsV RX4 33 RX3 yX3_copyFrom wsX3_copyFrom) := goodIn_app (goodIn_of _ (by decide +kernel)) ggX4_bringBack_X3_copyFrom
theorem dX4_bringBack_0 : decode cX4_bringBack 0 = .ok (.aload_n 0, 1) := by decide +kernel
theorem dX4_bringBack_1 : decode cX4_bringBack 1 = .ok (.getfield 16, 3) := by decide +kernel
theorem dX4_bringBack_4 : decode cX4_bringBack 4 = .ok (.ifCond .le 42, 3) := by decide +kernel
theorem dX4_bringBack_7 : decode cX4_bringBack 7 = .ok (.aload_n 0, 1) := by decide +kernel
theorem dX4_bringBack_8 : decode cX4_bringBack 8 = .ok (.aload_n 0, 1) := by decide +kernel
theorem dX4_bringBack_9 : decode cX4_bringBack 9 = .ok (.getfield 20, 3) := by decide +kernel
theorem dX4_bringBack_12 : decode cX4_bringBack 12 = .ok (.bipush 20, 2) := by decide +kernel
theorem dX4_bringBack_14 : decode cX4_bringBack 14 = .ok (.iadd, 1) := by decide +kernel
theorem dX4_bringBack_15 : decode cX4_bringBack 15 = .ok (.iconst 1, 1) := by decide +kernel
theorem dX4_bringBack_16 : decode cX4_bringBack 16 = .ok (.isub, 1) := by decide +kernel
theorem dX4_bringBack_17 : decode cX4_bringBack 17 = .ok (.bipush 20, 2) := by decide +kernel
theorem dX4_bringBack_19 : decode cX4_bringBack 19 = .ok (.irem, 1) := by decide +kernel
theorem dX4_bringBack_20 : decode cX4_bringBack 20 = .ok (.putfield 20, 3) := by decide +kernel
theorem dX4_bringBack_23 : decode cX4_bringBack 23 = .ok (.aload_n 0, 1) := by decide +kernel
theorem dX4_bringBack_24 : decode cX4_bringBack 24 = .ok (.dup, 1) := by decide +kernel
theorem dX4_bringBack_25 : decode cX4_bringBack 25 = .ok (.getfield 16, 3) := by decide +kernel
theorem dX4_bringBack_28 : decode cX4_bringBack 28 = .ok (.iconst 1, 1) := by decide +kernel
theorem dX4_bringBack_29 : decode cX4_bringBack 29 = .ok (.isub, 1) := by decide +kernel
theorem dX4_bringBack_30 : decode cX4_bringBack 30 = .ok (.putfield 16, 3) := by decide +kernel
theorem dX4_bringBack_33 : decode cX4_bringBack 33 = .ok (.aload_n 1, 1) := by decide +kernel
theorem dX4_bringBack_34 : decode cX4_bringBack 34 = .ok (.aload_n 0, 1) := by decide +kernel
theorem dX4_bringBack_35 : decode cX4_bringBack 35 = .ok (.getfield 13, 3) := by decide +kernel
theorem dX4_bringBack_38 : decode cX4_bringBack 38 = .ok (.aload_n 0, 1) := by decide +kernel
theorem dX4_bringBack_39 : decode cX4_bringBack 39 = .ok (.getfield 20, 3) := by decide +kernel
theorem dX4_bringBack_42 : decode cX4_bringBack 42 = .ok (.aaload, 1) := by decide +kernel
theorem dX4_bringBack_43 : decode cX4_bringBack 43 = .ok (.invokevirtual 33, 3) := by decide +kernel
theorem dX4_bringBack_46 : decode cX4_bringBack 46 = .ok (.return_, 1) := by decide +kernel
theorem dX5_init_0 : decode cX5_init 0 = .ok (.aload_n 0, 1) := by decide +kernel
theorem dX5_init_1 : decode cX5_init 1 = .ok (.invokespecial 3, 3) := by decide +kernel
theorem dX5_init_4 : decode cX5_init 4 = .ok (.aload_n 0, 1) := by decide +kernel
theorem dX5_init_5 : decode cX5_init 5 = .ok (.iconst 4, 1) := by decide +kernel
theorem dX5_init_6 : decode cX5_init 6 = .ok (.newarray .int, 2) := by decide +kernel
theorem dX5_init_8 : decode cX5_init 8 = .ok (.putfield 9, 3) := by decide +kernel
theorem dX5_init_11 : decode cX5_init 11 = .ok (.aload_n 0, 1) := by decide +kernel
theorem dX5_init_12 : decode cX5_init 12 = .ok (.bipush 7, 2) := by decide +kernel
theorem dX5_init_14 : decode cX5_init 14 = .ok (.newarray .int, 2) := by decide +kernel
theorem dX5_init_16 : decode cX5_init 16 = .ok (.putfield 15, 3) := by decide +kernel
theorem dX5_init_19 : decode cX5_init 19 = .ok (.aload_n 0, 1) := by decide +kernel
theorem dX5_init_20 : decode cX5_init 20 = .ok (.bipush 7, 2) := by decide +kernel
theorem dX5_init_22 : decode cX5_init 22 = .ok (.newarray .int, 2) := by decide +kernel
theorem dX5_init_24 : decode cX5_init 24 = .ok (.putfield 18, 3) := by decide +kernel
theorem dX5_init_27 : decode cX5_init 27 = .ok (.aload_n 0, 1) := by decide +kernel
theorem dX5_init_28 : decode cX5_init 28 = .ok (.bipush 6, 2) := by decide +kernel
theorem dX5_init_30 : decode cX5_init 30 = .ok (.newarray .int, 2) := by decide +kernel
theorem dX5_init_32 : decode cX5_init 32 = .ok (.putfield 21, 3) := by decide +kernel
theorem dX5_init_35 : decode cX5_init 35 = .ok (.aload_n 0, 1) := by decide +kernel
theorem dX5_init_36 : decode cX5_init 36 = .ok (.bipush 6, 2) := by decide +kernel
theorem dX5_init_38 : decode cX5_init 38 = .ok (.newarray .int, 2) := by decide +kernel
theorem dX5_init_40 : decode cX5_init 40 = .ok (.putfield 24, 3) := by decide +kernel
theorem dX5_init_43 : decode cX5_init 43 = .ok (.aload_n 0, 1) := by decide +kernel
theorem dX5_init_44 : decode cX5_init 44 = .ok (.bipush 6, 2) := by decide +kernel
theorem dX5_init_46 : decode cX5_init 46 = .ok (.newarray .int, 2) := by decide +kernel
theorem dX5_init_48 : decode cX5_init 48 = .ok (.putfield 27, 3) := by decide +kernel
theorem dX5_init_51 : decode cX5_init 51 = .ok (.return_, 1) := by decide +kernel
theorem dX5_empty_0 : decode cX5_empty 0 = .ok (.aload_n 0, 1) := by decide +kernel
theorem dX5_empty_1 : decode cX5_empty 1 = .ok (.iconst 0, 1) := by decide +kernel
theorem dX5_empty_2 : decode cX5_empty 2 = .ok (.putfield 30, 3) := by decide +kernel
theorem dX5_empty_5 : decode cX5_empty 5 = .ok (.aload_n 0, 1) := by decide +kernel
theorem dX5_empty_6 : decode cX5_empty 6 = .ok (.iconst 0, 1) := by decide +kernel
theorem dX5_empty_7 : decode cX5_empty 7 = .ok (.putfield 34, 3) := by decide +kernel
theorem dX5_empty_10 : decode cX5_empty 10 = .ok (.aload_n 0, 1) := by decide +kernel
theorem dX5_empty_11 : decode cX5_empty 11 = .ok (.iconst 0, 1) := by decide +kernel
theorem dX5_empty_12 : decode cX5_empty 12 = .ok (.putfield 37, 3) := by decide +kernel
theorem dX5_empty_15 : decode cX5_empty 15 = .ok (.aload_n 0, 1) := by decide +kernel
theorem dX5_empty_16 : decode cX5_empty 16 = .ok (.iconst 0, 1) := by decide +kernel
theorem dX5_empty_17 : decode cX5_empty 17 = .ok (.putfield 40, 3) := by decide +kernel
theorem dX5_empty_20 : decode cX5_empty 20 = .ok (.aload_n 0, 1) := by decide +kernel
theorem dX5_empty_21 : decode cX5_empty 21 = .ok (.iconst 0, 1) := by decide +kernel
theorem dX5_empty_22 : decode cX5_empty 22 = .ok (.putfield 43, 3) := by decide +kernel
theorem dX5_empty_25 : decode cX5_empty 25 = .ok (.return_, 1) := by decide +kernel
theorem dX5_isTold_0 : decode cX5_isTold 0 = .ok (.aload_n 0, 1) := by decide +kernel
theorem dX5_isTold_1 : decode cX5_isTold 1 = .ok (.getfield 30, 3) := by decide +kernel
theorem dX5_isTold_4 : decode cX5_isTold 4 = .ok (.ifCond .le 7, 3) := by decide +kernel
theorem dX5_isTold_7 : decode cX5_isTold 7 = .ok (.iconst 1, 1) := by decide +kernel
theorem dX5_isTold_8 : decode cX5_isTold 8 = .ok (.goto 4, 3) := by decide +kernel
theorem dX5_isTold_11 : decode cX5_isTold 11 = .ok (.iconst 0, 1) := by decide +kernel
theorem dX5_isTold_12 : decode cX5_isTold 12 = .ok (.ireturn, 1) := by decide +kernel
theorem dX5_hasDepth_0 : decode cX5_hasDepth 0 = .ok (.iload_n 1, 1) := by decide +kernel
theorem dX5_hasDepth_1 : decode cX5_hasDepth 1 = .ok (.ifCond .lt 20, 3) := by decide +kernel
theorem dX5_hasDepth_4 : decode cX5_hasDepth 4 = .ok (.iload_n 1, 1) := by decide +kernel
theorem dX5_hasDepth_5 : decode cX5_hasDepth 5 = .ok (.aload_n 0, 1) := by decide +kernel
theorem dX5_hasDepth_6 : decode cX5_hasDepth 6 = .ok (.getfield 37, 3) := by decide +kernel
theorem dX5_hasDepth_9 : decode cX5_hasDepth 9 = .ok (.if_icmp .ge 12, 3) := by decide +kernel
theorem dX5_hasDepth_12 : decode cX5_hasDepth 12 = .ok (.iload_n 1, 1) := by decide +kernel
theorem dX5_hasDepth_13 : decode cX5_hasDepth 13 = .ok (.iconst 4, 1) := by decide +kernel
theorem dX5_hasDepth_14 : decode cX5_hasDepth 14 = .ok (.if_icmp .ge 7, 3) := by decide +kernel
theorem dX5_hasDepth_17 : decode cX5_hasDepth 17 = .ok (.iconst 1, 1) := by decide +kernel
theorem dX5_hasDepth_18 : decode cX5_hasDepth 18 = .ok (.goto 4, 3) := by decide +kernel
theorem dX5_hasDepth_21 : decode cX5_hasDepth 21 = .ok (.iconst 0, 1) := by decide +kernel
theorem dX5_hasDepth_22 : decode cX5_hasDepth 22 = .ok (.ireturn, 1) := by decide +kernel
theorem dX5_hasPerson_0 : decode cX5_hasPerson 0 = .ok (.iload_n 1, 1) := by decide +kernel
theorem dX5_hasPerson_1 : decode cX5_hasPerson 1 = .ok (.ifCond .lt 21, 3) := by decide +kernel
theorem dX5_hasPerson_4 : decode cX5_hasPerson 4 = .ok (.iload_n 1, 1) := by decide +kernel
theorem dX5_hasPerson_5 : decode cX5_hasPerson 5 = .ok (.aload_n 0, 1) := by decide +kernel
theorem dX5_hasPerson_6 : decode cX5_hasPerson 6 = .ok (.getfield 40, 3) := by decide +kernel
theorem dX5_hasPerson_9 : decode cX5_hasPerson 9 = .ok (.if_icmp .ge 13, 3) := by decide +kernel
theorem dX5_hasPerson_12 : decode cX5_hasPerson 12 = .ok (.iload_n 1, 1) := by decide +kernel
theorem dX5_hasPerson_13 : decode cX5_hasPerson 13 = .ok (.bipush 7, 2) := by decide +kernel
theorem dX5_hasPerson_15 : decode cX5_hasPerson 15 = .ok (.if_icmp .ge 7, 3) := by decide +kernel
theorem dX5_hasPerson_18 : decode cX5_hasPerson 18 = .ok (.iconst 1, 1) := by decide +kernel
theorem dX5_hasPerson_19 : decode cX5_hasPerson 19 = .ok (.goto 4, 3) := by decide +kernel
theorem dX5_hasPerson_22 : decode cX5_hasPerson 22 = .ok (.iconst 0, 1) := by decide +kernel
theorem dX5_hasPerson_23 : decode cX5_hasPerson 23 = .ok (.ireturn, 1) := by decide +kernel
theorem dX5_hasGood_0 : decode cX5_hasGood 0 = .ok (.iload_n 1, 1) := by decide +kernel
theorem dX5_hasGood_1 : decode cX5_hasGood 1 = .ok (.ifCond .lt 21, 3) := by decide +kernel
theorem dX5_hasGood_4 : decode cX5_hasGood 4 = .ok (.iload_n 1, 1) := by decide +kernel
theorem dX5_hasGood_5 : decode cX5_hasGood 5 = .ok (.aload_n 0, 1) := by decide +kernel
theorem dX5_hasGood_6 : decode cX5_hasGood 6 = .ok (.getfield 43, 3) := by decide +kernel
theorem dX5_hasGood_9 : decode cX5_hasGood 9 = .ok (.if_icmp .ge 13, 3) := by decide +kernel
theorem dX5_hasGood_12 : decode cX5_hasGood 12 = .ok (.iload_n 1, 1) := by decide +kernel
theorem dX5_hasGood_13 : decode cX5_hasGood 13 = .ok (.bipush 6, 2) := by decide +kernel
theorem dX5_hasGood_15 : decode cX5_hasGood 15 = .ok (.if_icmp .ge 7, 3) := by decide +kernel
theorem dX5_hasGood_18 : decode cX5_hasGood 18 = .ok (.iconst 1, 1) := by decide +kernel
theorem dX5_hasGood_19 : decode cX5_hasGood 19 = .ok (.goto 4, 3) := by decide +kernel
theorem dX5_hasGood_22 : decode cX5_hasGood 22 = .ok (.iconst 0, 1) := by decide +kernel
theorem dX5_hasGood_23 : decode cX5_hasGood 23 = .ok (.ireturn, 1) := by decide +kernel
set_option maxRecDepth 20000 in
theorem ggX5_hasRoomFor_X5_isTold : GoodIn wsX5_hasRoomFor wsX5_isTold := goodIn_r _ [8, 9, 10, 11, 12, 13, 14, 15, 16, 17, 18, 19, 20] (by decide +kernel) (by decide +kernel)
set_option maxRecDepth 20000 in
theorem gX5_hasRoomFor_X5_isTold : GoodIn wsX5_hasRoomFor (wsV RX5 46 RX5 yX5_isTold wsX5_isTold) := goodIn_app (goodIn_of _ (by decide +kernel)) ggX5_hasRoomFor_X5_isTold
theorem dX5_hasRoomFor_0 : decode cX5_hasRoomFor 0 = .ok (.iload_n 1, 1) := by decide +kernel
theorem dX5_hasRoomFor_1 : decode cX5_hasRoomFor 1 = .ok (.lookupswitch 100 #[(100, 56), (103, 85), (112, 70), (115, 43)], 43) := by decide +kernel
theorem dX5_hasRoomFor_44 : decode cX5_hasRoomFor 44 = .ok (.aload_n 0, 1) := by decide +kernel
theorem dX5_hasRoomFor_45 : decode cX5_hasRoomFor 45 = .ok (.invokevirtual 46, 3) := by decide +kernel
theorem dX5_hasRoomFor_48 : decode cX5_hasRoomFor 48 = .ok (.ifCond .ne 7, 3) := by decide +kernel
theorem dX5_hasRoomFor_51 : decode cX5_hasRoomFor 51 = .ok (.iconst 1, 1) := by decide +kernel
theorem dX5_hasRoomFor_52 : decode cX5_hasRoomFor 52 = .ok (.goto 4, 3) := by decide +kernel
theorem dX5_hasRoomFor_55 : decode cX5_hasRoomFor 55 = .ok (.iconst 0, 1) := by decide +kernel
theorem dX5_hasRoomFor_56 : decode cX5_hasRoomFor 56 = .ok (.ireturn, 1) := by decide +kernel
theorem dX5_hasRoomFor_57 : decode cX5_hasRoomFor 57 = .ok (.aload_n 0, 1) := by decide +kernel
theorem dX5_hasRoomFor_58 : decode cX5_hasRoomFor 58 = .ok (.getfield 37, 3) := by decide +kernel
theorem dX5_hasRoomFor_61 : decode cX5_hasRoomFor 61 = .ok (.iconst 4, 1) := by decide +kernel
theorem dX5_hasRoomFor_62 : decode cX5_hasRoomFor 62 = .ok (.if_icmp .ge 7, 3) := by decide +kernel
theorem dX5_hasRoomFor_65 : decode cX5_hasRoomFor 65 = .ok (.iconst 1, 1) := by decide +kernel
theorem dX5_hasRoomFor_66 : decode cX5_hasRoomFor 66 = .ok (.goto 4, 3) := by decide +kernel
theorem dX5_hasRoomFor_69 : decode cX5_hasRoomFor 69 = .ok (.iconst 0, 1) := by decide +kernel
theorem dX5_hasRoomFor_70 : decode cX5_hasRoomFor 70 = .ok (.ireturn, 1) := by decide +kernel
theorem dX5_hasRoomFor_71 : decode cX5_hasRoomFor 71 = .ok (.aload_n 0, 1) := by decide +kernel
theorem dX5_hasRoomFor_72 : decode cX5_hasRoomFor 72 = .ok (.getfield 40, 3) := by decide +kernel
theorem dX5_hasRoomFor_75 : decode cX5_hasRoomFor 75 = .ok (.bipush 7, 2) := by decide +kernel
theorem dX5_hasRoomFor_77 : decode cX5_hasRoomFor 77 = .ok (.if_icmp .ge 7, 3) := by decide +kernel
theorem dX5_hasRoomFor_80 : decode cX5_hasRoomFor 80 = .ok (.iconst 1, 1) := by decide +kernel
theorem dX5_hasRoomFor_81 : decode cX5_hasRoomFor 81 = .ok (.goto 4, 3) := by decide +kernel
theorem dX5_hasRoomFor_84 : decode cX5_hasRoomFor 84 = .ok (.iconst 0, 1) := by decide +kernel
theorem dX5_hasRoomFor_85 : decode cX5_hasRoomFor 85 = .ok (.ireturn, 1) := by decide +kernel
theorem dX5_hasRoomFor_86 : decode cX5_hasRoomFor 86 = .ok (.aload_n 0, 1) := by decide +kernel
theorem dX5_hasRoomFor_87 : decode cX5_hasRoomFor 87 = .ok (.getfield 43, 3) := by decide +kernel
theorem dX5_hasRoomFor_90 : decode cX5_hasRoomFor 90 = .ok (.bipush 6, 2) := by decide +kernel
theorem dX5_hasRoomFor_92 : decode cX5_hasRoomFor 92 = .ok (.if_icmp .ge 7, 3) := by decide +kernel
theorem dX5_hasRoomFor_95 : decode cX5_hasRoomFor 95 = .ok (.iconst 1, 1) := by decide +kernel
theorem dX5_hasRoomFor_96 : decode cX5_hasRoomFor 96 = .ok (.goto 4, 3) := by decide +kernel
theorem dX5_hasRoomFor_99 : decode cX5_hasRoomFor 99 = .ok (.iconst 0, 1) := by decide +kernel
theorem dX5_hasRoomFor_100 : decode cX5_hasRoomFor 100 = .ok (.ireturn, 1) := by decide +kernel
theorem dX5_hasRoomFor_101 : decode cX5_hasRoomFor 101 = .ok (.iconst 0, 1) := by decide +kernel
theorem dX5_hasRoomFor_102 : decode cX5_hasRoomFor 102 = .ok (.ireturn, 1) := by decide +kernel
set_option maxRecDepth 20000 in
theorem ggX5_add_X5_hasRoomFor : GoodIn wsX5_add wsX5_hasRoomFor := goodIn_r _ [16, 4, 6, 9, 17, 18, 19, 15, 20, 1, 21, 22, 23, 24, 25, 26, 27, 28, 29, 30, 31] (by decide +kernel) (by decide +kernel)
set_option maxRecDepth 20000 in
theorem gX5_add_X5_hasRoomFor : GoodIn wsX5_add (wsV RX5 50 RX5 yX5_hasRoomFor wsX5_hasRoomFor) := goodIn_app (goodIn_of _ (by decide +kernel)) ggX5_add_X5_hasRoomFor
theorem dX5_add_0 : decode cX5_add 0 = .ok (.aload_n 0, 1) := by decide +kernel
theorem dX5_add_1 : decode cX5_add 1 = .ok (.iload_n 1, 1) := by decide +kernel
theorem dX5_add_2 : decode cX5_add 2 = .ok (.invokevirtual 50, 3) := by decide +kernel
theorem dX5_add_5 : decode cX5_add 5 = .ok (.ifCond .ne 4, 3) := by decide +kernel
theorem dX5_add_8 : decode cX5_add 8 = .ok (.return_, 1) := by decide +kernel
theorem dX5_add_9 : decode cX5_add 9 = .ok (.iload_n 1, 1) := by decide +kernel
theorem dX5_add_10 : decode cX5_add 10 = .ok (.lookupswitch 103 #[(100, 47), (112, 70), (115, 34)], 34) := by decide +kernel
theorem dX5_add_44 : decode cX5_add 44 = .ok (.aload_n 0, 1) := by decide +kernel
theorem dX5_add_45 : decode cX5_add 45 = .ok (.iload_n 2, 1) := by decide +kernel
theorem dX5_add_46 : decode cX5_add 46 = .ok (.putfield 30, 3) := by decide +kernel
theorem dX5_add_49 : decode cX5_add 49 = .ok (.aload_n 0, 1) := by decide +kernel
theorem dX5_add_50 : decode cX5_add 50 = .ok (.iload_n 3, 1) := by decide +kernel
theorem dX5_add_51 : decode cX5_add 51 = .ok (.putfield 34, 3) := by decide +kernel
theorem dX5_add_54 : decode cX5_add 54 = .ok (.goto 100, 3) := by decide +kernel
theorem dX5_add_57 : decode cX5_add 57 = .ok (.aload_n 0, 1) := by decide +kernel
theorem dX5_add_58 : decode cX5_add 58 = .ok (.getfield 9, 3) := by decide +kernel
theorem dX5_add_61 : decode cX5_add 61 = .ok (.aload_n 0, 1) := by decide +kernel
theorem dX5_add_62 : decode cX5_add 62 = .ok (.getfield 37, 3) := by decide +kernel
theorem dX5_add_65 : decode cX5_add 65 = .ok (.iload_n 2, 1) := by decide +kernel
theorem dX5_add_66 : decode cX5_add 66 = .ok (.iastore, 1) := by decide +kernel
theorem dX5_add_67 : decode cX5_add 67 = .ok (.aload_n 0, 1) := by decide +kernel
theorem dX5_add_68 : decode cX5_add 68 = .ok (.dup, 1) := by decide +kernel
theorem dX5_add_69 : decode cX5_add 69 = .ok (.getfield 37, 3) := by decide +kernel
theorem dX5_add_72 : decode cX5_add 72 = .ok (.iconst 1, 1) := by decide +kernel
theorem dX5_add_73 : decode cX5_add 73 = .ok (.iadd, 1) := by decide +kernel
theorem dX5_add_74 : decode cX5_add 74 = .ok (.putfield 37, 3) := by decide +kernel
theorem dX5_add_77 : decode cX5_add 77 = .ok (.goto 77, 3) := by decide +kernel
theorem dX5_add_80 : decode cX5_add 80 = .ok (.aload_n 0, 1) := by decide +kernel
theorem dX5_add_81 : decode cX5_add 81 = .ok (.getfield 15, 3) := by decide +kernel
theorem dX5_add_84 : decode cX5_add 84 = .ok (.aload_n 0, 1) := by decide +kernel
theorem dX5_add_85 : decode cX5_add 85 = .ok (.getfield 40, 3) := by decide +kernel
theorem dX5_add_88 : decode cX5_add 88 = .ok (.iload_n 2, 1) := by decide +kernel
theorem dX5_add_89 : decode cX5_add 89 = .ok (.iastore, 1) := by decide +kernel
theorem dX5_add_90 : decode cX5_add 90 = .ok (.aload_n 0, 1) := by decide +kernel
theorem dX5_add_91 : decode cX5_add 91 = .ok (.getfield 18, 3) := by decide +kernel
theorem dX5_add_94 : decode cX5_add 94 = .ok (.aload_n 0, 1) := by decide +kernel
theorem dX5_add_95 : decode cX5_add 95 = .ok (.getfield 40, 3) := by decide +kernel
theorem dX5_add_98 : decode cX5_add 98 = .ok (.iload_n 3, 1) := by decide +kernel
theorem dX5_add_99 : decode cX5_add 99 = .ok (.iastore, 1) := by decide +kernel
theorem dX5_add_100 : decode cX5_add 100 = .ok (.aload_n 0, 1) := by decide +kernel
theorem dX5_add_101 : decode cX5_add 101 = .ok (.dup, 1) := by decide +kernel
theorem dX5_add_102 : decode cX5_add 102 = .ok (.getfield 40, 3) := by decide +kernel
theorem dX5_add_105 : decode cX5_add 105 = .ok (.iconst 1, 1) := by decide +kernel
theorem dX5_add_106 : decode cX5_add 106 = .ok (.iadd, 1) := by decide +kernel
theorem dX5_add_107 : decode cX5_add 107 = .ok (.putfield 40, 3) := by decide +kernel
theorem dX5_add_110 : decode cX5_add 110 = .ok (.goto 44, 3) := by decide +kernel
theorem dX5_add_113 : decode cX5_add 113 = .ok (.aload_n 0, 1) := by decide +kernel
theorem dX5_add_114 : decode cX5_add 114 = .ok (.getfield 21, 3) := by decide +kernel
theorem dX5_add_117 : decode cX5_add 117 = .ok (.aload_n 0, 1) := by decide +kernel
theorem dX5_add_118 : decode cX5_add 118 = .ok (.getfield 43, 3) := by decide +kernel
theorem dX5_add_121 : decode cX5_add 121 = .ok (.iload_n 2, 1) := by decide +kernel
theorem dX5_add_122 : decode cX5_add 122 = .ok (.iastore, 1) := by decide +kernel
theorem dX5_add_123 : decode cX5_add 123 = .ok (.aload_n 0, 1) := by decide +kernel
theorem dX5_add_124 : decode cX5_add 124 = .ok (.getfield 24, 3) := by decide +kernel
theorem dX5_add_127 : decode cX5_add 127 = .ok (.aload_n 0, 1) := by decide +kernel
theorem dX5_add_128 : decode cX5_add 128 = .ok (.getfield 43, 3) := by decide +kernel
theorem dX5_add_131 : decode cX5_add 131 = .ok (.iload_n 3, 1) := by decide +kernel
theorem dX5_add_132 : decode cX5_add 132 = .ok (.iastore, 1) := by decide +kernel
theorem dX5_add_133 : decode cX5_add 133 = .ok (.aload_n 0, 1) := by decide +kernel
theorem dX5_add_134 : decode cX5_add 134 = .ok (.getfield 27, 3) := by decide +kernel
theorem dX5_add_137 : decode cX5_add 137 = .ok (.aload_n 0, 1) := by decide +kernel
theorem dX5_add_138 : decode cX5_add 138 = .ok (.getfield 43, 3) := by decide +kernel
theorem dX5_add_141 : decode cX5_add 141 = .ok (.iload 4, 2) := by decide +kernel
theorem dX5_add_143 : decode cX5_add 143 = .ok (.iastore, 1) := by decide +kernel
theorem dX5_add_144 : decode cX5_add 144 = .ok (.aload_n 0, 1) := by decide +kernel
theorem dX5_add_145 : decode cX5_add 145 = .ok (.dup, 1) := by decide +kernel
theorem dX5_add_146 : decode cX5_add 146 = .ok (.getfield 43, 3) := by decide +kernel
theorem dX5_add_149 : decode cX5_add 149 = .ok (.iconst 1, 1) := by decide +kernel
theorem dX5_add_150 : decode cX5_add 150 = .ok (.iadd, 1) := by decide +kernel
theorem dX5_add_151 : decode cX5_add 151 = .ok (.putfield 43, 3) := by decide +kernel
theorem dX5_add_154 : decode cX5_add 154 = .ok (.return_, 1) := by decide +kernel
theorem dX5_kingAt_0 : decode cX5_kingAt 0 = .ok (.aload_n 0, 1) := by decide +kernel
theorem dX5_kingAt_1 : decode cX5_kingAt 1 = .ok (.getfield 34, 3) := by decide +kernel
theorem dX5_kingAt_4 : decode cX5_kingAt 4 = .ok (.ifCond .le 12, 3) := by decide +kernel
theorem dX5_kingAt_7 : decode cX5_kingAt 7 = .ok (.iload_n 1, 1) := by decide +kernel
theorem dX5_kingAt_8 : decode cX5_kingAt 8 = .ok (.aload_n 0, 1) := by decide +kernel
theorem dX5_kingAt_9 : decode cX5_kingAt 9 = .ok (.getfield 34, 3) := by decide +kernel
theorem dX5_kingAt_12 : decode cX5_kingAt 12 = .ok (.idiv, 1) := by decide +kernel
theorem dX5_kingAt_13 : decode cX5_kingAt 13 = .ok (.goto 4, 3) := by decide +kernel
theorem dX5_kingAt_16 : decode cX5_kingAt 16 = .ok (.iconst 0, 1) := by decide +kernel
theorem dX5_kingAt_17 : decode cX5_kingAt 17 = .ok (.ireturn, 1) := by decide +kernel
set_option maxRecDepth 20000 in
theorem ggX5_daysIn_X5_hasDepth : GoodIn wsX5_daysIn wsX5_hasDepth := goodIn_r _ [6, 7, 8, 9, 10, 11, 12, 13, 14, 15, 16, 17, 18] (by decide +kernel) (by decide +kernel)
set_option maxRecDepth 20000 in
theorem gX5_daysIn_X5_hasDepth : GoodIn wsX5_daysIn (wsV RX5 54 RX5 yX5_hasDepth wsX5_hasDepth) := goodIn_app (goodIn_of _ (by decide +kernel)) ggX5_daysIn_X5_hasDepth
theorem dX5_daysIn_0 : decode cX5_daysIn 0 = .ok (.aload_n 0, 1) := by decide +kernel
theorem dX5_daysIn_1 : decode cX5_daysIn 1 = .ok (.iload_n 1, 1) := by decide +kernel
theorem dX5_daysIn_2 : decode cX5_daysIn 2 = .ok (.invokevirtual 54, 3) := by decide +kernel
theorem dX5_daysIn_5 : decode cX5_daysIn 5 = .ok (.ifCond .eq 23, 3) := by decide +kernel
theorem dX5_daysIn_8 : decode cX5_daysIn 8 = .ok (.aload_n 0, 1) := by decide +kernel
theorem dX5_daysIn_9 : decode cX5_daysIn 9 = .ok (.getfield 9, 3) := by decide +kernel
theorem dX5_daysIn_12 : decode cX5_daysIn 12 = .ok (.iload_n 1, 1) := by decide +kernel
theorem dX5_daysIn_13 : decode cX5_daysIn 13 = .ok (.iaload, 1) := by decide +kernel
theorem dX5_daysIn_14 : decode cX5_daysIn 14 = .ok (.ifCond .le 14, 3) := by decide +kernel
theorem dX5_daysIn_17 : decode cX5_daysIn 17 = .ok (.iload_n 2, 1) := by decide +kernel
theorem dX5_daysIn_18 : decode cX5_daysIn 18 = .ok (.aload_n 0, 1) := by decide +kernel
theorem dX5_daysIn_19 : decode cX5_daysIn 19 = .ok (.getfield 9, 3) := by decide +kernel
theorem dX5_daysIn_22 : decode cX5_daysIn 22 = .ok (.iload_n 1, 1) := by decide +kernel
theorem dX5_daysIn_23 : decode cX5_daysIn 23 = .ok (.iaload, 1) := by decide +kernel
theorem dX5_daysIn_24 : decode cX5_daysIn 24 = .ok (.idiv, 1) := by decide +kernel
theorem dX5_daysIn_25 : decode cX5_daysIn 25 = .ok (.goto 4, 3) := by decide +kernel
theorem dX5_daysIn_28 : decode cX5_daysIn 28 = .ok (.iconst 0, 1) := by decide +kernel
theorem dX5_daysIn_29 : decode cX5_daysIn 29 = .ok (.ireturn, 1) := by decide +kernel
set_option maxRecDepth 20000 in
theorem ggX5_worthNextYear_X5_hasGood : GoodIn wsX5_worthNextYear wsX5_hasGood := goodIn_r _ [7, 8, 9, 10, 11, 12, 13, 14, 15, 16, 17, 18, 19] (by decide +kernel) (by decide +kernel)
set_option maxRecDepth 20000 in
theorem gX5_worthNextYear_X5_hasGood : GoodIn wsX5_worthNextYear (wsV RX5 57 RX5 yX5_hasGood wsX5_hasGood) := goodIn_app (goodIn_of _ (by decide +kernel)) ggX5_worthNextYear_X5_hasGood
theorem dX5_worthNextYear_0 : decode cX5_worthNextYear 0 = .ok (.aload_n 0, 1) := by decide +kernel
theorem dX5_worthNextYear_1 : decode cX5_worthNextYear 1 = .ok (.iload_n 1, 1) := by decide +kernel
theorem dX5_worthNextYear_2 : decode cX5_worthNextYear 2 = .ok (.invokevirtual 57, 3) := by decide +kernel
theorem dX5_worthNextYear_5 : decode cX5_worthNextYear 5 = .ok (.ifCond .ne 5, 3) := by decide +kernel
theorem dX5_worthNextYear_8 : decode cX5_worthNextYear 8 = .ok (.iload_n 2, 1) := by decide +kernel
theorem dX5_worthNextYear_9 : decode cX5_worthNextYear 9 = .ok (.ireturn, 1) := by decide +kernel
theorem dX5_worthNextYear_10 : decode cX5_worthNextYear 10 = .ok (.aload_n 0, 1) := by decide +kernel
theorem dX5_worthNextYear_11 : decode cX5_worthNextYear 11 = .ok (.getfield 24, 3) := by decide +kernel
theorem dX5_worthNextYear_14 : decode cX5_worthNextYear 14 = .ok (.iload_n 1, 1) := by decide +kernel
theorem dX5_worthNextYear_15 : decode cX5_worthNextYear 15 = .ok (.iaload, 1) := by decide +kernel
theorem dX5_worthNextYear_16 : decode cX5_worthNextYear 16 = .ok (.bipush 50, 2) := by decide +kernel
theorem dX5_worthNextYear_18 : decode cX5_worthNextYear 18 = .ok (.if_icmp .le 20, 3) := by decide +kernel
theorem dX5_worthNextYear_21 : decode cX5_worthNextYear 21 = .ok (.iload_n 2, 1) := by decide +kernel
theorem dX5_worthNextYear_22 : decode cX5_worthNextYear 22 = .ok (.iload_n 2, 1) := by decide +kernel
theorem dX5_worthNextYear_23 : decode cX5_worthNextYear 23 = .ok (.aload_n 0, 1) := by decide +kernel
theorem dX5_worthNextYear_24 : decode cX5_worthNextYear 24 = .ok (.getfield 24, 3) := by decide +kernel
theorem dX5_worthNextYear_27 : decode cX5_worthNextYear 27 = .ok (.iload_n 1, 1) := by decide +kernel
theorem dX5_worthNextYear_28 : decode cX5_worthNextYear 28 = .ok (.iaload, 1) := by decide +kernel
theorem dX5_worthNextYear_29 : decode cX5_worthNextYear 29 = .ok (.bipush 50, 2) := by decide +kernel
theorem dX5_worthNextYear_31 : decode cX5_worthNextYear 31 = .ok (.isub, 1) := by decide +kernel
theorem dX5_worthNextYear_32 : decode cX5_worthNextYear 32 = .ok (.imul, 1) := by decide +kernel
theorem dX5_worthNextYear_33 : decode cX5_worthNextYear 33 = .ok (.bipush 100, 2) := by decide +kernel
theorem dX5_worthNextYear_35 : decode cX5_worthNextYear 35 = .ok (.idiv, 1) := by decide +kernel
theorem dX5_worthNextYear_36 : decode cX5_worthNextYear 36 = .ok (.isub, 1) := by decide +kernel
theorem dX5_worthNextYear_37 : decode cX5_worthNextYear 37 = .ok (.ireturn, 1) := by decide +kernel
theorem dX5_worthNextYear_38 : decode cX5_worthNextYear 38 = .ok (.iload_n 2, 1) := by decide +kernel
theorem dX5_worthNextYear_39 : decode cX5_worthNextYear 39 = .ok (.iload_n 2, 1) := by decide +kernel
theorem dX5_worthNextYear_40 : decode cX5_worthNextYear 40 = .ok (.aload_n 0, 1) := by decide +kernel
theorem dX5_worthNextYear_41 : decode cX5_worthNextYear 41 = .ok (.getfield 24, 3) := by decide +kernel
theorem dX5_worthNextYear_44 : decode cX5_worthNextYear 44 = .ok (.iload_n 1, 1) := by decide +kernel
theorem dX5_worthNextYear_45 : decode cX5_worthNextYear 45 = .ok (.iaload, 1) := by decide +kernel
theorem dX5_worthNextYear_46 : decode cX5_worthNextYear 46 = .ok (.imul, 1) := by decide +kernel
theorem dX5_worthNextYear_47 : decode cX5_worthNextYear 47 = .ok (.bipush 100, 2) := by decide +kernel
theorem dX5_worthNextYear_49 : decode cX5_worthNextYear 49 = .ok (.idiv, 1) := by decide +kernel
theorem dX5_worthNextYear_50 : decode cX5_worthNextYear 50 = .ok (.iadd, 1) := by decide +kernel
theorem dX5_worthNextYear_51 : decode cX5_worthNextYear 51 = .ok (.istore_n 3, 1) := by decide +kernel
theorem dX5_worthNextYear_52 : decode cX5_worthNextYear 52 = .ok (.iload_n 3, 1) := by decide +kernel
theorem dX5_worthNextYear_53 : decode cX5_worthNextYear 53 = .ok (.aload_n 0, 1) := by decide +kernel
theorem dX5_worthNextYear_54 : decode cX5_worthNextYear 54 = .ok (.getfield 27, 3) := by decide +kernel
theorem dX5_worthNextYear_57 : decode cX5_worthNextYear 57 = .ok (.iload_n 1, 1) := by decide +kernel
theorem dX5_worthNextYear_58 : decode cX5_worthNextYear 58 = .ok (.iaload, 1) := by decide +kernel
theorem dX5_worthNextYear_59 : decode cX5_worthNextYear 59 = .ok (.if_icmp .gt 7, 3) := by decide +kernel
theorem dX5_worthNextYear_62 : decode cX5_worthNextYear 62 = .ok (.iload_n 3, 1) := by decide +kernel
theorem dX5_worthNextYear_63 : decode cX5_worthNextYear 63 = .ok (.goto 4, 3) := by decide +kernel
theorem dX5_worthNextYear_66 : decode cX5_worthNextYear 66 = .ok (.iload_n 2, 1) := by decide +kernel
theorem dX5_worthNextYear_67 : decode cX5_worthNextYear 67 = .ok (.ireturn, 1) := by decide +kernel
set_option maxRecDepth 20000 in
theorem ggX5_worthBehind_X5_worthNextYear : GoodIn wsX5_worthBehind wsX5_worthNextYear := goodIn_r _ [5, 6, 7, 8, 9, 10, 4, 11, 12, 13, 14, 15, 16, 17, 18, 19, 20, 21, 22, 23] (by decide +kernel) (by decide +kernel)
set_option maxRecDepth 20000 in
theorem gX5_worthBehind_X5_worthNextYear : GoodIn wsX5_worthBehind (wsV RX5 60 RX5 yX5_worthNextYear wsX5_worthNextYear) := goodIn_app (goodIn_of _ (by decide +kernel)) ggX5_worthBehind_X5_worthNextYear
theorem dX5_worthBehind_0 : decode cX5_worthBehind 0 = .ok (.iload_n 2, 1) := by decide +kernel
theorem dX5_worthBehind_1 : decode cX5_worthBehind 1 = .ok (.istore 4, 2) := by decide +kernel
theorem dX5_worthBehind_3 : decode cX5_worthBehind 3 = .ok (.iconst 0, 1) := by decide +kernel
theorem dX5_worthBehind_4 : decode cX5_worthBehind 4 = .ok (.istore 5, 2) := by decide +kernel
theorem dX5_worthBehind_6 : decode cX5_worthBehind 6 = .ok (.iload 5, 2) := by decide +kernel
theorem dX5_worthBehind_8 : decode cX5_worthBehind 8 = .ok (.iload_n 3, 1) := by decide +kernel
theorem dX5_worthBehind_9 : decode cX5_worthBehind 9 = .ok (.if_icmp .ge 32, 3) := by decide +kernel
theorem dX5_worthBehind_12 : decode cX5_worthBehind 12 = .ok (.aload_n 0, 1) := by decide +kernel
theorem dX5_worthBehind_13 : decode cX5_worthBehind 13 = .ok (.iload_n 1, 1) := by decide +kernel
theorem dX5_worthBehind_14 : decode cX5_worthBehind 14 = .ok (.iload 4, 2) := by decide +kernel
theorem dX5_worthBehind_16 : decode cX5_worthBehind 16 = .ok (.invokevirtual 60, 3) := by decide +kernel
theorem dX5_worthBehind_19 : decode cX5_worthBehind 19 = .ok (.istore 6, 2) := by decide +kernel
theorem dX5_worthBehind_21 : decode cX5_worthBehind 21 = .ok (.iload 6, 2) := by decide +kernel
theorem dX5_worthBehind_23 : decode cX5_worthBehind 23 = .ok (.iload 4, 2) := by decide +kernel
theorem dX5_worthBehind_25 : decode cX5_worthBehind 25 = .ok (.if_icmp .ne 6, 3) := by decide +kernel
theorem dX5_worthBehind_28 : decode cX5_worthBehind 28 = .ok (.iload 4, 2) := by decide +kernel
theorem dX5_worthBehind_30 : decode cX5_worthBehind 30 = .ok (.ireturn, 1) := by decide +kernel
theorem dX5_worthBehind_31 : decode cX5_worthBehind 31 = .ok (.iload 6, 2) := by decide +kernel
theorem dX5_worthBehind_33 : decode cX5_worthBehind 33 = .ok (.istore 4, 2) := by decide +kernel
theorem dX5_worthBehind_35 : decode cX5_worthBehind 35 = .ok (.iinc 5 1, 3) := by decide +kernel
theorem dX5_worthBehind_38 : decode cX5_worthBehind 38 = .ok (.goto (-32), 3) := by decide +kernel
theorem dX5_worthBehind_41 : decode cX5_worthBehind 41 = .ok (.iload 4, 2) := by decide +kernel
theorem dX5_worthBehind_43 : decode cX5_worthBehind 43 = .ok (.ireturn, 1) := by decide +kernel
theorem dX6_init_0 : decode cX6_init 0 = .ok (.aload_n 0, 1) := by decide +kernel
theorem dX6_init_1 : decode cX6_init 1 = .ok (.invokespecial 3, 3) := by decide +kernel
theorem dX6_init_4 : decode cX6_init 4 = .ok (.aload_n 0, 1) := by decide +kernel
theorem dX6_init_5 : decode cX6_init 5 = .ok (.sipush 240, 3) := by decide +kernel
theorem dX6_init_8 : decode cX6_init 8 = .ok (.newarray .int, 2) := by decide +kernel
theorem dX6_init_10 : decode cX6_init 10 = .ok (.putfield 9, 3) := by decide +kernel
theorem dX6_init_13 : decode cX6_init 13 = .ok (.aload_n 0, 1) := by decide +kernel
theorem dX6_init_14 : decode cX6_init 14 = .ok (.iconst 3, 1) := by decide +kernel
theorem dX6_init_15 : decode cX6_init 15 = .ok (.newarray .int, 2) := by decide +kernel
theorem dX6_init_17 : decode cX6_init 17 = .ok (.putfield 15, 3) := by decide +kernel
theorem dX6_init_20 : decode cX6_init 20 = .ok (.aload_n 0, 1) := by decide +kernel
theorem dX6_init_21 : decode cX6_init 21 = .ok (.iconst (-1), 1) := by decide +kernel
theorem dX6_init_22 : decode cX6_init 22 = .ok (.putfield 18, 3) := by decide +kernel
theorem dX6_init_25 : decode cX6_init 25 = .ok (.return_, 1) := by decide +kernel
theorem dX6_add_0 : decode cX6_add 0 = .ok (.aload_n 0, 1) := by decide +kernel
theorem dX6_add_1 : decode cX6_add 1 = .ok (.getfield 22, 3) := by decide +kernel
theorem dX6_add_4 : decode cX6_add 4 = .ok (.sipush 240, 3) := by decide +kernel
theorem dX6_add_7 : decode cX6_add 7 = .ok (.if_icmp .ge 23, 3) := by decide +kernel
theorem dX6_add_10 : decode cX6_add 10 = .ok (.aload_n 0, 1) := by decide +kernel
theorem dX6_add_11 : decode cX6_add 11 = .ok (.getfield 9, 3) := by decide +kernel
theorem dX6_add_14 : decode cX6_add 14 = .ok (.aload_n 0, 1) := by decide +kernel
theorem dX6_add_15 : decode cX6_add 15 = .ok (.getfield 22, 3) := by decide +kernel
theorem dX6_add_18 : decode cX6_add 18 = .ok (.iload_n 1, 1) := by decide +kernel
theorem dX6_add_19 : decode cX6_add 19 = .ok (.iastore, 1) := by decide +kernel
theorem dX6_add_20 : decode cX6_add 20 = .ok (.aload_n 0, 1) := by decide +kernel
theorem dX6_add_21 : decode cX6_add 21 = .ok (.dup, 1) := by decide +kernel
theorem dX6_add_22 : decode cX6_add 22 = .ok (.getfield 22, 3) := by decide +kernel
theorem dX6_add_25 : decode cX6_add 25 = .ok (.iconst 1, 1) := by decide +kernel
theorem dX6_add_26 : decode cX6_add 26 = .ok (.iadd, 1) := by decide +kernel
theorem dX6_add_27 : decode cX6_add 27 = .ok (.putfield 22, 3) := by decide +kernel
theorem dX6_add_30 : decode cX6_add 30 = .ok (.return_, 1) := by decide +kernel
theorem dX6_empty_0 : decode cX6_empty 0 = .ok (.aload_n 0, 1) := by decide +kernel
theorem dX6_empty_1 : decode cX6_empty 1 = .ok (.iconst 0, 1) := by decide +kernel
theorem dX6_empty_2 : decode cX6_empty 2 = .ok (.putfield 22, 3) := by decide +kernel
theorem dX6_empty_5 : decode cX6_empty 5 = .ok (.return_, 1) := by decide +kernel
set_option maxRecDepth 20000 in
theorem ggX6_readInto_X5_empty : GoodIn wsX6_readInto wsX5_empty := goodIn_r _ [8, 9, 10, 11, 12, 13, 169, 170, 171, 172, 173, 174, 175, 176, 177, 178, 179] (by decide +kernel) (by decide +kernel)
set_option maxRecDepth 20000 in
theorem gX6_readInto_X5_empty : GoodIn wsX6_readInto (wsV RX6 31 RX5 yX5_empty wsX5_empty) := goodIn_app (goodIn_of _ (by decide +kernel)) ggX6_readInto_X5_empty
set_option maxRecDepth 20000 in
theorem ggX6_readInto_X6_readClauses : GoodIn wsX6_readInto wsX6_readClauses := goodIn_r _ [18, 2, 19, 20, 21, 17, 22, 1, 23, 24, 25, 26, 27, 28, 29, 30, 31, 32, 33, 34, 35, 36, 37, 38, 39, 40, 41, 42, 43, 44, 45, 46, 47, 48, 49, 50, 51, 52, 53, 54, 55, 56, 57, 58, 59, 60, 61, 62, 63, 64, 65, 66, 67, 68, 69, 70, 71, 72, 73, 74, 75, 76, 77, 78, 79, 80, 81, 82, 83, 84, 85, 86, 87, 88, 89, 90, 91, 92, 93, 94, 95, 96, 97, 98, 99, 100, 101, 102, 103, 104, 105, 106, 107, 108, 109, 110, 111, 112, 113, 114, 115, 116, 117, 118, 119, 120, 121, 122, 123, 124, 125, 126, 127, 7, 128, 9, 129, 130, 131, 132, 3, 133, 134, 135, 136, 11, 12, 13, 137, 138, 139, 140, 141, 142, 143, 144, 145, 146, 147, 148, 149, 150, 151, 152, 153, 154, 155, 10, 156, 157, 158, 159, 160, 161, 162, 163, 164, 165, 166, 167, 168, 169, 170, 171, 172, 173, 174, 175, 176, 177, 178, 179] (by decide +kernel) (by decide +kernel)
set_option maxRecDepth 20000 in
theorem gX6_readInto_X6_readClauses : GoodIn wsX6_readInto (wsV RX6 36 RX6 yX6_readClauses wsX6_readClauses) := goodIn_app (goodIn_of _ (by decide +kernel)) ggX6_readInto_X6_readClauses
theorem dX6_readInto_0 : decode cX6_readInto 0 = .ok (.aload_n 0, 1) := by decide +kernel
theorem dX6_readInto_1 : decode cX6_readInto 1 = .ok (.iconst 0, 1) := by decide +kernel
theorem dX6_readInto_2 : decode cX6_readInto 2 = .ok (.putfield 25, 3) := by decide +kernel
theorem dX6_readInto_5 : decode cX6_readInto 5 = .ok (.aload_n 0, 1) := by decide +kernel
theorem dX6_readInto_6 : decode cX6_readInto 6 = .ok (.iconst 0, 1) := by decide +kernel
theorem dX6_readInto_7 : decode cX6_readInto 7 = .ok (.putfield 28, 3) := by decide +kernel
theorem dX6_readInto_10 : decode cX6_readInto 10 = .ok (.aload_n 0, 1) := by decide +kernel
theorem dX6_readInto_11 : decode cX6_readInto 11 = .ok (.iconst (-1), 1) := by decide +kernel
theorem dX6_readInto_12 : decode cX6_readInto 12 = .ok (.putfield 18, 3) := by decide +kernel
theorem dX6_readInto_15 : decode cX6_readInto 15 = .ok (.aload_n 1, 1) := by decide +kernel
theorem dX6_readInto_16 : decode cX6_readInto 16 = .ok (.invokevirtual 31, 3) := by decide +kernel
theorem dX6_readInto_19 : decode cX6_readInto 19 = .ok (.aload_n 0, 1) := by decide +kernel
theorem dX6_readInto_20 : decode cX6_readInto 20 = .ok (.aload_n 1, 1) := by decide +kernel
theorem dX6_readInto_21 : decode cX6_readInto 21 = .ok (.invokevirtual 36, 3) := by decide +kernel
theorem dX6_readInto_24 : decode cX6_readInto 24 = .ok (.return_, 1) := by decide +kernel
set_option maxRecDepth 20000 in
theorem ggX6_readClauses_X6_skipBlanks : GoodIn wsX6_readClauses wsX6_skipBlanks := goodIn_r _ [6, 7, 8, 9, 10, 5, 11, 12, 13, 155, 156, 157, 158, 159, 160] (by decide +kernel) (by decide +kernel)
set_option maxRecDepth 20000 in
theorem gX6_readClauses_X6_skipBlanks : GoodIn wsX6_readClauses (wsV RX6 40 RX6 yX6_skipBlanks wsX6_skipBlanks) := goodIn_app (goodIn_of _ (by decide +kernel)) ggX6_readClauses_X6_skipBlanks
set_option maxRecDepth 20000 in
theorem ggX6_readClauses_X6_here : GoodIn wsX6_readClauses wsX6_here := goodIn_r _ [11, 7, 12, 13, 155, 156, 157, 158, 159, 160] (by decide +kernel) (by decide +kernel)
set_option maxRecDepth 20000 in
theorem gX6_readClauses_X6_here : GoodIn wsX6_readClauses (wsV RX6 43 RX6 yX6_here wsX6_here) := goodIn_app (goodIn_of _ (by decide +kernel)) ggX6_readClauses_X6_here
set_option maxRecDepth 20000 in
theorem ggX6_readClauses_X6_readClause : GoodIn wsX6_readClauses wsX6_readClause := goodIn_r _ [17, 7, 18, 1, 19, 20, 8, 9, 10, 5, 11, 12, 13, 21, 22, 23, 24, 25, 26, 27, 28, 29, 30, 31, 32, 33, 34, 35, 36, 37, 38, 39, 40, 41, 42, 43, 44, 45, 46, 47, 48, 49, 50, 51, 52, 53, 54, 55, 56, 57, 58, 59, 60, 61, 62, 63, 64, 65, 66, 67, 68, 69, 70, 71, 72, 73, 74, 75, 76, 77, 78, 79, 80, 81, 82, 83, 84, 85, 86, 87, 88, 89, 90, 91, 92, 93, 94, 95, 96, 97, 98, 99, 100, 101, 102, 103, 104, 105, 106, 107, 108, 109, 110, 111, 112, 113, 114, 115, 116, 117, 118, 119, 120, 121, 122, 123, 124, 125, 126, 127, 128, 129, 130, 131, 132, 133, 134, 2, 3, 4, 6, 135, 136, 137, 138, 139, 140, 141, 142, 143, 144, 145, 146, 147, 148, 149, 150, 151, 152, 153, 154, 155, 156, 157, 158, 159, 160, 161, 162, 163, 164, 165, 166, 167, 168, 169, 170, 171] (by decide +kernel) (by decide +kernel)
set_option maxRecDepth 20000 in
theorem gX6_readClauses_X6_readClause : GoodIn wsX6_readClauses (wsV RX6 47 RX6 yX6_readClause wsX6_readClause) := goodIn_app (goodIn_of _ (by decide +kernel)) ggX6_readClauses_X6_readClause
theorem dX6_readClauses_0 : decode cX6_readClauses 0 = .ok (.iconst 0, 1) := by decide +kernel
theorem dX6_readClauses_1 : decode cX6_readClauses 1 = .ok (.istore_n 2, 1) := by decide +kernel
theorem dX6_readClauses_2 : decode cX6_readClauses 2 = .ok (.iload_n 2, 1) := by decide +kernel
theorem dX6_readClauses_3 : decode cX6_readClauses 3 = .ok (.sipush 240, 3) := by decide +kernel
theorem dX6_readClauses_6 : decode cX6_readClauses 6 = .ok (.if_icmp .gt 34, 3) := by decide +kernel
theorem dX6_readClauses_9 : decode cX6_readClauses 9 = .ok (.aload_n 0, 1) := by decide +kernel
theorem dX6_readClauses_10 : decode cX6_readClauses 10 = .ok (.getfield 28, 3) := by decide +kernel
theorem dX6_readClauses_13 : decode cX6_readClauses 13 = .ok (.ifCond .ne 27, 3) := by decide +kernel
theorem dX6_readClauses_16 : decode cX6_readClauses 16 = .ok (.aload_n 0, 1) := by decide +kernel
theorem dX6_readClauses_17 : decode cX6_readClauses 17 = .ok (.invokevirtual 40, 3) := by decide +kernel
theorem dX6_readClauses_20 : decode cX6_readClauses 20 = .ok (.aload_n 0, 1) := by decide +kernel
theorem dX6_readClauses_21 : decode cX6_readClauses 21 = .ok (.invokevirtual 43, 3) := by decide +kernel
theorem dX6_readClauses_24 : decode cX6_readClauses 24 = .ok (.iconst (-1), 1) := by decide +kernel
theorem dX6_readClauses_25 : decode cX6_readClauses 25 = .ok (.if_icmp .ne 4, 3) := by decide +kernel
theorem dX6_readClauses_28 : decode cX6_readClauses 28 = .ok (.return_, 1) := by decide +kernel
theorem dX6_readClauses_29 : decode cX6_readClauses 29 = .ok (.aload_n 0, 1) := by decide +kernel
theorem dX6_readClauses_30 : decode cX6_readClauses 30 = .ok (.aload_n 1, 1) := by decide +kernel
theorem dX6_readClauses_31 : decode cX6_readClauses 31 = .ok (.invokevirtual 47, 3) := by decide +kernel
theorem dX6_readClauses_34 : decode cX6_readClauses 34 = .ok (.iinc 2 1, 3) := by decide +kernel
theorem dX6_readClauses_37 : decode cX6_readClauses 37 = .ok (.goto (-35), 3) := by decide +kernel
theorem dX6_readClauses_40 : decode cX6_readClauses 40 = .ok (.return_, 1) := by decide +kernel
set_option maxRecDepth 20000 in
theorem ggX6_readClause_X6_here : GoodIn wsX6_readClause wsX6_here := goodIn_r _ [10, 1, 11, 12, 151, 152, 153, 154, 155, 156] (by decide +kernel) (by decide +kernel)
set_option maxRecDepth 20000 in
theorem gX6_readClause_X6_here : GoodIn wsX6_readClause (wsV RX6 43 RX6 yX6_here wsX6_here) := goodIn_app (goodIn_of _ (by decide +kernel)) ggX6_readClause_X6_here
set_option maxRecDepth 20000 in
theorem ggX6_readClause_J0_indexOf_0f7a4 : GoodIn wsX6_readClause wsJ0_indexOf_0f7a4 := goodIn_r _ [17, 18, 19, 20, 16, 21, 22, 23, 24, 25, 26, 27, 28, 29, 30, 31, 32, 33, 34, 35, 36, 37, 38, 39, 40, 41, 42, 43, 44, 45, 46, 47, 48, 49, 50, 51, 52, 53, 54, 55, 56, 57, 58, 59, 60, 61, 62, 63, 64, 65, 66, 67, 68, 69, 70, 71, 72, 73, 74, 75, 76, 77, 78, 79, 80, 81, 82, 83, 84, 85, 86, 87, 88, 89, 90, 91, 92, 93, 94, 95, 96, 97, 98, 99, 100, 101] (by decide +kernel) (by decide +kernel)
set_option maxRecDepth 20000 in
theorem gX6_readClause_J0_indexOf_0f7a4 : GoodIn wsX6_readClause (wsV RX6 52 RJ0 yJ0_indexOf_0f7a4 wsJ0_indexOf_0f7a4) := goodIn_app (goodIn_of _ (by decide +kernel)) ggX6_readClause_J0_indexOf_0f7a4
set_option maxRecDepth 20000 in
theorem ggX6_readClause_X5_isTold : GoodIn wsX6_readClause wsX5_isTold := goodIn_r _ [106, 107, 157, 158, 159, 160, 161, 162, 163, 164, 165, 166, 167] (by decide +kernel) (by decide +kernel)
set_option maxRecDepth 20000 in
theorem gX6_readClause_X5_isTold : GoodIn wsX6_readClause (wsV RX6 58 RX5 yX5_isTold wsX5_isTold) := goodIn_app (goodIn_of _ (by decide +kernel)) ggX6_readClause_X5_isTold
set_option maxRecDepth 20000 in
theorem ggX6_readClause_X6_blame : GoodIn wsX6_readClause wsX6_blame := goodIn_r _ [111, 3, 112, 151, 152, 153, 154, 155, 156] (by decide +kernel) (by decide +kernel)
set_option maxRecDepth 20000 in
theorem gX6_readClause_X6_blame : GoodIn wsX6_readClause (wsV RX6 62 RX6 yX6_blame wsX6_blame) := goodIn_app (goodIn_of _ (by decide +kernel)) ggX6_readClause_X6_blame
set_option maxRecDepth 20000 in
theorem ggX6_readClause_X5_hasRoomFor : GoodIn wsX6_readClause wsX5_hasRoomFor := goodIn_r _ [116, 117, 118, 119, 120, 103, 104, 105, 106, 107, 157, 158, 159, 160, 161, 162, 163, 164, 165, 166, 167] (by decide +kernel) (by decide +kernel)
set_option maxRecDepth 20000 in
theorem gX6_readClause_X5_hasRoomFor : GoodIn wsX6_readClause (wsV RX6 66 RX5 yX5_hasRoomFor wsX5_hasRoomFor) := goodIn_app (goodIn_of _ (by decide +kernel)) ggX6_readClause_X5_hasRoomFor
set_option maxRecDepth 20000 in
theorem ggX6_readClause_X6_readNumber : GoodIn wsX6_readClause wsX6_readNumber := goodIn_r _ [124, 1, 125, 126, 5, 127, 128, 129, 9, 130, 6, 7, 8, 10, 11, 12, 131, 132, 133, 134, 108, 109, 110, 111, 3, 112, 151, 152, 153, 154, 155, 156] (by decide +kernel) (by decide +kernel)
set_option maxRecDepth 20000 in
theorem gX6_readClause_X6_readNumber : GoodIn wsX6_readClause (wsV RX6 76 RX6 yX6_readNumber wsX6_readNumber) := goodIn_app (goodIn_of _ (by decide +kernel)) ggX6_readClause_X6_readNumber
set_option maxRecDepth 20000 in
theorem ggX6_readClause_X6_readSemicolon : GoodIn wsX6_readClause wsX6_readSemicolon := goodIn_r _ [138, 1, 127, 128, 129, 9, 130, 6, 7, 8, 10, 11, 12, 108, 109, 110, 111, 3, 112, 151, 152, 153, 154, 155, 156] (by decide +kernel) (by decide +kernel)
set_option maxRecDepth 20000 in
theorem gX6_readClause_X6_readSemicolon : GoodIn wsX6_readClause (wsV RX6 79 RX6 yX6_readSemicolon wsX6_readSemicolon) := goodIn_app (goodIn_of _ (by decide +kernel)) ggX6_readClause_X6_readSemicolon
set_option maxRecDepth 20000 in
theorem ggX6_readClause_X5_add : GoodIn wsX6_readClause wsX5_add := goodIn_r _ [142, 107, 143, 144, 117, 145, 118, 146, 147, 119, 148, 149, 150, 114, 115, 105, 116, 120, 103, 104, 106, 157, 158, 159, 160, 161, 162, 163, 164, 165, 166, 167] (by decide +kernel) (by decide +kernel)
set_option maxRecDepth 20000 in
theorem gX6_readClause_X5_add : GoodIn wsX6_readClause (wsV RX6 82 RX5 yX5_add wsX5_add) := goodIn_app (goodIn_of _ (by decide +kernel)) ggX6_readClause_X5_add
theorem dX6_readClause_0 : decode cX6_readClause 0 = .ok (.aload_n 0, 1) := by decide +kernel
theorem dX6_readClause_1 : decode cX6_readClause 1 = .ok (.invokevirtual 43, 3) := by decide +kernel
theorem dX6_readClause_4 : decode cX6_readClause 4 = .ok (.istore_n 2, 1) := by decide +kernel
theorem dX6_readClause_5 : decode cX6_readClause 5 = .ok (.ldc 50, 2) := by decide +kernel
theorem dX6_readClause_7 : decode cX6_readClause 7 = .ok (.iload_n 2, 1) := by decide +kernel
theorem dX6_readClause_8 : decode cX6_readClause 8 = .ok (.i2c, 1) := by decide +kernel
theorem dX6_readClause_9 : decode cX6_readClause 9 = .ok (.invokevirtual 52, 3) := by decide +kernel
theorem dX6_readClause_12 : decode cX6_readClause 12 = .ok (.istore_n 3, 1) := by decide +kernel
theorem dX6_readClause_13 : decode cX6_readClause 13 = .ok (.iload_n 3, 1) := by decide +kernel
theorem dX6_readClause_14 : decode cX6_readClause 14 = .ok (.ifCond .lt 14, 3) := by decide +kernel
theorem dX6_readClause_17 : decode cX6_readClause 17 = .ok (.aload_n 1, 1) := by decide +kernel
theorem dX6_readClause_18 : decode cX6_readClause 18 = .ok (.invokevirtual 58, 3) := by decide +kernel
theorem dX6_readClause_21 : decode cX6_readClause 21 = .ok (.ifCond .ne 17, 3) := by decide +kernel
theorem dX6_readClause_24 : decode cX6_readClause 24 = .ok (.iload_n 3, 1) := by decide +kernel
theorem dX6_readClause_25 : decode cX6_readClause 25 = .ok (.ifCond .eq 13, 3) := by decide +kernel
theorem dX6_readClause_28 : decode cX6_readClause 28 = .ok (.aload_n 0, 1) := by decide +kernel
theorem dX6_readClause_29 : decode cX6_readClause 29 = .ok (.iconst 1, 1) := by decide +kernel
theorem dX6_readClause_30 : decode cX6_readClause 30 = .ok (.aload_n 0, 1) := by decide +kernel
theorem dX6_readClause_31 : decode cX6_readClause 31 = .ok (.getfield 25, 3) := by decide +kernel
theorem dX6_readClause_34 : decode cX6_readClause 34 = .ok (.invokevirtual 62, 3) := by decide +kernel
theorem dX6_readClause_37 : decode cX6_readClause 37 = .ok (.return_, 1) := by decide +kernel
theorem dX6_readClause_38 : decode cX6_readClause 38 = .ok (.aload_n 1, 1) := by decide +kernel
theorem dX6_readClause_39 : decode cX6_readClause 39 = .ok (.iload_n 2, 1) := by decide +kernel
theorem dX6_readClause_40 : decode cX6_readClause 40 = .ok (.invokevirtual 66, 3) := by decide +kernel
theorem dX6_readClause_43 : decode cX6_readClause 43 = .ok (.ifCond .ne 13, 3) := by decide +kernel
theorem dX6_readClause_46 : decode cX6_readClause 46 = .ok (.aload_n 0, 1) := by decide +kernel
theorem dX6_readClause_47 : decode cX6_readClause 47 = .ok (.iconst 3, 1) := by decide +kernel
theorem dX6_readClause_48 : decode cX6_readClause 48 = .ok (.aload_n 0, 1) := by decide +kernel
theorem dX6_readClause_49 : decode cX6_readClause 49 = .ok (.getfield 25, 3) := by decide +kernel
theorem dX6_readClause_52 : decode cX6_readClause 52 = .ok (.invokevirtual 62, 3) := by decide +kernel
theorem dX6_readClause_55 : decode cX6_readClause 55 = .ok (.return_, 1) := by decide +kernel
theorem dX6_readClause_56 : decode cX6_readClause 56 = .ok (.aload_n 0, 1) := by decide +kernel
theorem dX6_readClause_57 : decode cX6_readClause 57 = .ok (.dup, 1) := by decide +kernel
theorem dX6_readClause_58 : decode cX6_readClause 58 = .ok (.getfield 25, 3) := by decide +kernel
theorem dX6_readClause_61 : decode cX6_readClause 61 = .ok (.iconst 1, 1) := by decide +kernel
theorem dX6_readClause_62 : decode cX6_readClause 62 = .ok (.iadd, 1) := by decide +kernel
theorem dX6_readClause_63 : decode cX6_readClause 63 = .ok (.putfield 25, 3) := by decide +kernel
theorem dX6_readClause_66 : decode cX6_readClause 66 = .ok (.iconst 0, 1) := by decide +kernel
theorem dX6_readClause_67 : decode cX6_readClause 67 = .ok (.istore 4, 2) := by decide +kernel
theorem dX6_readClause_69 : decode cX6_readClause 69 = .ok (.iload 4, 2) := by decide +kernel
theorem dX6_readClause_71 : decode cX6_readClause 71 = .ok (.getstatic 70, 3) := by decide +kernel
theorem dX6_readClause_74 : decode cX6_readClause 74 = .ok (.iload_n 3, 1) := by decide +kernel
theorem dX6_readClause_75 : decode cX6_readClause 75 = .ok (.iaload, 1) := by decide +kernel
theorem dX6_readClause_76 : decode cX6_readClause 76 = .ok (.if_icmp .ge 30, 3) := by decide +kernel
theorem dX6_readClause_79 : decode cX6_readClause 79 = .ok (.aload_n 0, 1) := by decide +kernel
theorem dX6_readClause_80 : decode cX6_readClause 80 = .ok (.getfield 28, 3) := by decide +kernel
theorem dX6_readClause_83 : decode cX6_readClause 83 = .ok (.ifCond .ne 23, 3) := by decide +kernel
theorem dX6_readClause_86 : decode cX6_readClause 86 = .ok (.aload_n 0, 1) := by decide +kernel
theorem dX6_readClause_87 : decode cX6_readClause 87 = .ok (.iload 4, 2) := by decide +kernel
theorem dX6_readClause_89 : decode cX6_readClause 89 = .ok (.getstatic 73, 3) := by decide +kernel
theorem dX6_readClause_92 : decode cX6_readClause 92 = .ok (.iload_n 3, 1) := by decide +kernel
theorem dX6_readClause_93 : decode cX6_readClause 93 = .ok (.iaload, 1) := by decide +kernel
theorem dX6_readClause_94 : decode cX6_readClause 94 = .ok (.iload 4, 2) := by decide +kernel
theorem dX6_readClause_96 : decode cX6_readClause 96 = .ok (.iadd, 1) := by decide +kernel
theorem dX6_readClause_97 : decode cX6_readClause 97 = .ok (.invokevirtual 76, 3) := by decide +kernel
theorem dX6_readClause_100 : decode cX6_readClause 100 = .ok (.iinc 4 1, 3) := by decide +kernel
theorem dX6_readClause_103 : decode cX6_readClause 103 = .ok (.goto (-34), 3) := by decide +kernel
theorem dX6_readClause_106 : decode cX6_readClause 106 = .ok (.aload_n 0, 1) := by decide +kernel
theorem dX6_readClause_107 : decode cX6_readClause 107 = .ok (.getfield 28, 3) := by decide +kernel
theorem dX6_readClause_110 : decode cX6_readClause 110 = .ok (.ifCond .ne 7, 3) := by decide +kernel
theorem dX6_readClause_113 : decode cX6_readClause 113 = .ok (.aload_n 0, 1) := by decide +kernel
theorem dX6_readClause_114 : decode cX6_readClause 114 = .ok (.invokevirtual 79, 3) := by decide +kernel
theorem dX6_readClause_117 : decode cX6_readClause 117 = .ok (.aload_n 0, 1) := by decide +kernel
theorem dX6_readClause_118 : decode cX6_readClause 118 = .ok (.getfield 28, 3) := by decide +kernel
theorem dX6_readClause_121 : decode cX6_readClause 121 = .ok (.ifCond .ne 26, 3) := by decide +kernel
theorem dX6_readClause_124 : decode cX6_readClause 124 = .ok (.aload_n 1, 1) := by decide +kernel
theorem dX6_readClause_125 : decode cX6_readClause 125 = .ok (.iload_n 2, 1) := by decide +kernel
theorem dX6_readClause_126 : decode cX6_readClause 126 = .ok (.aload_n 0, 1) := by decide +kernel
theorem dX6_readClause_127 : decode cX6_readClause 127 = .ok (.getfield 15, 3) := by decide +kernel
theorem dX6_readClause_130 : decode cX6_readClause 130 = .ok (.iconst 0, 1) := by decide +kernel
theorem dX6_readClause_131 : decode cX6_readClause 131 = .ok (.iaload, 1) := by decide +kernel
theorem dX6_readClause_132 : decode cX6_readClause 132 = .ok (.aload_n 0, 1) := by decide +kernel
theorem dX6_readClause_133 : decode cX6_readClause 133 = .ok (.getfield 15, 3) := by decide +kernel
theorem dX6_readClause_136 : decode cX6_readClause 136 = .ok (.iconst 1, 1) := by decide +kernel
theorem dX6_readClause_137 : decode cX6_readClause 137 = .ok (.iaload, 1) := by decide +kernel
theorem dX6_readClause_138 : decode cX6_readClause 138 = .ok (.aload_n 0, 1) := by decide +kernel
theorem dX6_readClause_139 : decode cX6_readClause 139 = .ok (.getfield 15, 3) := by decide +kernel
theorem dX6_readClause_142 : decode cX6_readClause 142 = .ok (.iconst 2, 1) := by decide +kernel
theorem dX6_readClause_143 : decode cX6_readClause 143 = .ok (.iaload, 1) := by decide +kernel
theorem dX6_readClause_144 : decode cX6_readClause 144 = .ok (.invokevirtual 82, 3) := by decide +kernel
theorem dX6_readClause_147 : decode cX6_readClause 147 = .ok (.return_, 1) := by decide +kernel
set_option maxRecDepth 20000 in
theorem ggX6_readNumber_X6_skipBlanks : GoodIn wsX6_readNumber wsX6_skipBlanks := goodIn_r _ [9, 1, 10, 11, 12, 8, 13, 14, 15, 26, 27, 28, 29, 30, 31] (by decide +kernel) (by decide +kernel)
set_option maxRecDepth 20000 in
theorem gX6_readNumber_X6_skipBlanks : GoodIn wsX6_readNumber (wsV RX6 40 RX6 yX6_skipBlanks wsX6_skipBlanks) := goodIn_app (goodIn_of _ (by decide +kernel)) ggX6_readNumber_X6_skipBlanks
set_option maxRecDepth 20000 in
theorem ggX6_readNumber_X6_here : GoodIn wsX6_readNumber wsX6_here := goodIn_r _ [13, 1, 14, 15, 26, 27, 28, 29, 30, 31] (by decide +kernel) (by decide +kernel)
set_option maxRecDepth 20000 in
theorem gX6_readNumber_X6_here : GoodIn wsX6_readNumber (wsV RX6 43 RX6 yX6_here wsX6_here) := goodIn_app (goodIn_of _ (by decide +kernel)) ggX6_readNumber_X6_here
set_option maxRecDepth 20000 in
theorem ggX6_readNumber_X6_isFigure : GoodIn wsX6_readNumber wsX6_isFigure := goodIn_r _ [19] (by decide +kernel) (by decide +kernel)
set_option maxRecDepth 20000 in
theorem gX6_readNumber_X6_isFigure : GoodIn wsX6_readNumber (wsV RX6 86 RX6 yX6_isFigure wsX6_isFigure) := goodIn_app (goodIn_of _ (by decide +kernel)) ggX6_readNumber_X6_isFigure
set_option maxRecDepth 20000 in
theorem ggX6_readNumber_X6_blame : GoodIn wsX6_readNumber wsX6_blame := goodIn_r _ [23, 24, 25, 26, 27, 28, 29, 30, 31] (by decide +kernel) (by decide +kernel)
set_option maxRecDepth 20000 in
theorem gX6_readNumber_X6_blame : GoodIn wsX6_readNumber (wsV RX6 62 RX6 yX6_blame wsX6_blame) := goodIn_app (goodIn_of _ (by decide +kernel)) ggX6_readNumber_X6_blame
theorem dX6_readNumber_0 : decode cX6_readNumber 0 = .ok (.aload_n 0, 1) := by decide +kernel
theorem dX6_readNumber_1 : decode cX6_readNumber 1 = .ok (.invokevirtual 40, 3) := by decide +kernel
theorem dX6_readNumber_4 : decode cX6_readNumber 4 = .ok (.aload_n 0, 1) := by decide +kernel
theorem dX6_readNumber_5 : decode cX6_readNumber 5 = .ok (.getfield 25, 3) := by decide +kernel
theorem dX6_readNumber_8 : decode cX6_readNumber 8 = .ok (.istore_n 3, 1) := by decide +kernel
theorem dX6_readNumber_9 : decode cX6_readNumber 9 = .ok (.iconst 0, 1) := by decide +kernel
theorem dX6_readNumber_10 : decode cX6_readNumber 10 = .ok (.istore 4, 2) := by decide +kernel
theorem dX6_readNumber_12 : decode cX6_readNumber 12 = .ok (.iconst 0, 1) := by decide +kernel
theorem dX6_readNumber_13 : decode cX6_readNumber 13 = .ok (.istore 5, 2) := by decide +kernel
theorem dX6_readNumber_15 : decode cX6_readNumber 15 = .ok (.iload 5, 2) := by decide +kernel
theorem dX6_readNumber_17 : decode cX6_readNumber 17 = .ok (.sipush 240, 3) := by decide +kernel
theorem dX6_readNumber_20 : decode cX6_readNumber 20 = .ok (.if_icmp .gt 51, 3) := by decide +kernel
theorem dX6_readNumber_23 : decode cX6_readNumber 23 = .ok (.aload_n 0, 1) := by decide +kernel
theorem dX6_readNumber_24 : decode cX6_readNumber 24 = .ok (.aload_n 0, 1) := by decide +kernel
theorem dX6_readNumber_25 : decode cX6_readNumber 25 = .ok (.invokevirtual 43, 3) := by decide +kernel
theorem dX6_readNumber_28 : decode cX6_readNumber 28 = .ok (.invokevirtual 86, 3) := by decide +kernel
theorem dX6_readNumber_31 : decode cX6_readNumber 31 = .ok (.ifCond .eq 40, 3) := by decide +kernel
theorem dX6_readNumber_34 : decode cX6_readNumber 34 = .ok (.iload 5, 2) := by decide +kernel
theorem dX6_readNumber_36 : decode cX6_readNumber 36 = .ok (.iconst 4, 1) := by decide +kernel
theorem dX6_readNumber_37 : decode cX6_readNumber 37 = .ok (.if_icmp .ge 18, 3) := by decide +kernel
theorem dX6_readNumber_40 : decode cX6_readNumber 40 = .ok (.iload 4, 2) := by decide +kernel
theorem dX6_readNumber_42 : decode cX6_readNumber 42 = .ok (.bipush 10, 2) := by decide +kernel
theorem dX6_readNumber_44 : decode cX6_readNumber 44 = .ok (.imul, 1) := by decide +kernel
theorem dX6_readNumber_45 : decode cX6_readNumber 45 = .ok (.aload_n 0, 1) := by decide +kernel
theorem dX6_readNumber_46 : decode cX6_readNumber 46 = .ok (.invokevirtual 43, 3) := by decide +kernel
theorem dX6_readNumber_49 : decode cX6_readNumber 49 = .ok (.iadd, 1) := by decide +kernel
theorem dX6_readNumber_50 : decode cX6_readNumber 50 = .ok (.bipush 48, 2) := by decide +kernel
theorem dX6_readNumber_52 : decode cX6_readNumber 52 = .ok (.isub, 1) := by decide +kernel
theorem dX6_readNumber_53 : decode cX6_readNumber 53 = .ok (.istore 4, 2) := by decide +kernel
theorem dX6_readNumber_55 : decode cX6_readNumber 55 = .ok (.aload_n 0, 1) := by decide +kernel
theorem dX6_readNumber_56 : decode cX6_readNumber 56 = .ok (.dup, 1) := by decide +kernel
theorem dX6_readNumber_57 : decode cX6_readNumber 57 = .ok (.getfield 25, 3) := by decide +kernel
theorem dX6_readNumber_60 : decode cX6_readNumber 60 = .ok (.iconst 1, 1) := by decide +kernel
theorem dX6_readNumber_61 : decode cX6_readNumber 61 = .ok (.iadd, 1) := by decide +kernel
theorem dX6_readNumber_62 : decode cX6_readNumber 62 = .ok (.putfield 25, 3) := by decide +kernel
theorem dX6_readNumber_65 : decode cX6_readNumber 65 = .ok (.iinc 5 1, 3) := by decide +kernel
theorem dX6_readNumber_68 : decode cX6_readNumber 68 = .ok (.goto (-53), 3) := by decide +kernel
theorem dX6_readNumber_71 : decode cX6_readNumber 71 = .ok (.aload_n 0, 1) := by decide +kernel
theorem dX6_readNumber_72 : decode cX6_readNumber 72 = .ok (.getfield 25, 3) := by decide +kernel
theorem dX6_readNumber_75 : decode cX6_readNumber 75 = .ok (.iload_n 3, 1) := by decide +kernel
theorem dX6_readNumber_76 : decode cX6_readNumber 76 = .ok (.if_icmp .ne 15, 3) := by decide +kernel
theorem dX6_readNumber_79 : decode cX6_readNumber 79 = .ok (.aload_n 0, 1) := by decide +kernel
theorem dX6_readNumber_80 : decode cX6_readNumber 80 = .ok (.iconst 1, 1) := by decide +kernel
theorem dX6_readNumber_81 : decode cX6_readNumber 81 = .ok (.aload_n 0, 1) := by decide +kernel
theorem dX6_readNumber_82 : decode cX6_readNumber 82 = .ok (.getfield 25, 3) := by decide +kernel
theorem dX6_readNumber_85 : decode cX6_readNumber 85 = .ok (.invokevirtual 62, 3) := by decide +kernel
theorem dX6_readNumber_88 : decode cX6_readNumber 88 = .ok (.goto 50, 3) := by decide +kernel
theorem dX6_readNumber_91 : decode cX6_readNumber 91 = .ok (.aload_n 0, 1) := by decide +kernel
theorem dX6_readNumber_92 : decode cX6_readNumber 92 = .ok (.getfield 25, 3) := by decide +kernel
theorem dX6_readNumber_95 : decode cX6_readNumber 95 = .ok (.iload_n 3, 1) := by decide +kernel
theorem dX6_readNumber_96 : decode cX6_readNumber 96 = .ok (.isub, 1) := by decide +kernel
theorem dX6_readNumber_97 : decode cX6_readNumber 97 = .ok (.iconst 4, 1) := by decide +kernel
theorem dX6_readNumber_98 : decode cX6_readNumber 98 = .ok (.if_icmp .gt 23, 3) := by decide +kernel
theorem dX6_readNumber_101 : decode cX6_readNumber 101 = .ok (.iload 4, 2) := by decide +kernel
theorem dX6_readNumber_103 : decode cX6_readNumber 103 = .ok (.getstatic 89, 3) := by decide +kernel
theorem dX6_readNumber_106 : decode cX6_readNumber 106 = .ok (.iload_n 2, 1) := by decide +kernel
theorem dX6_readNumber_107 : decode cX6_readNumber 107 = .ok (.iaload, 1) := by decide +kernel
theorem dX6_readNumber_108 : decode cX6_readNumber 108 = .ok (.if_icmp .lt 13, 3) := by decide +kernel
theorem dX6_readNumber_111 : decode cX6_readNumber 111 = .ok (.iload 4, 2) := by decide +kernel
theorem dX6_readNumber_113 : decode cX6_readNumber 113 = .ok (.getstatic 92, 3) := by decide +kernel
theorem dX6_readNumber_116 : decode cX6_readNumber 116 = .ok (.iload_n 2, 1) := by decide +kernel
theorem dX6_readNumber_117 : decode cX6_readNumber 117 = .ok (.iaload, 1) := by decide +kernel
theorem dX6_readNumber_118 : decode cX6_readNumber 118 = .ok (.if_icmp .le 12, 3) := by decide +kernel
theorem dX6_readNumber_121 : decode cX6_readNumber 121 = .ok (.aload_n 0, 1) := by decide +kernel
theorem dX6_readNumber_122 : decode cX6_readNumber 122 = .ok (.iconst 2, 1) := by decide +kernel
theorem dX6_readNumber_123 : decode cX6_readNumber 123 = .ok (.iload_n 3, 1) := by decide +kernel
theorem dX6_readNumber_124 : decode cX6_readNumber 124 = .ok (.invokevirtual 62, 3) := by decide +kernel
theorem dX6_readNumber_127 : decode cX6_readNumber 127 = .ok (.goto 11, 3) := by decide +kernel
theorem dX6_readNumber_130 : decode cX6_readNumber 130 = .ok (.aload_n 0, 1) := by decide +kernel
theorem dX6_readNumber_131 : decode cX6_readNumber 131 = .ok (.getfield 15, 3) := by decide +kernel
theorem dX6_readNumber_134 : decode cX6_readNumber 134 = .ok (.iload_n 1, 1) := by decide +kernel
theorem dX6_readNumber_135 : decode cX6_readNumber 135 = .ok (.iload 4, 2) := by decide +kernel
theorem dX6_readNumber_137 : decode cX6_readNumber 137 = .ok (.iastore, 1) := by decide +kernel
theorem dX6_readNumber_138 : decode cX6_readNumber 138 = .ok (.return_, 1) := by decide +kernel
set_option maxRecDepth 20000 in
theorem ggX6_readSemicolon_X6_skipBlanks : GoodIn wsX6_readSemicolon wsX6_skipBlanks := goodIn_r _ [6, 1, 7, 8, 9, 5, 10, 11, 12, 19, 20, 21, 22, 23, 24] (by decide +kernel) (by decide +kernel)
set_option maxRecDepth 20000 in
theorem gX6_readSemicolon_X6_skipBlanks : GoodIn wsX6_readSemicolon (wsV RX6 40 RX6 yX6_skipBlanks wsX6_skipBlanks) := goodIn_app (goodIn_of _ (by decide +kernel)) ggX6_readSemicolon_X6_skipBlanks
set_option maxRecDepth 20000 in
theorem ggX6_readSemicolon_X6_here : GoodIn wsX6_readSemicolon wsX6_here := goodIn_r _ [10, 1, 11, 12, 19, 20, 21, 22, 23, 24] (by decide +kernel) (by decide +kernel)
set_option maxRecDepth 20000 in
theorem gX6_readSemicolon_X6_here : GoodIn wsX6_readSemicolon (wsV RX6 43 RX6 yX6_here wsX6_here) := goodIn_app (goodIn_of _ (by decide +kernel)) ggX6_readSemicolon_X6_here
set_option maxRecDepth 20000 in
theorem ggX6_readSemicolon_X6_blame : GoodIn wsX6_readSemicolon wsX6_blame := goodIn_r _ [16, 17, 18, 19, 20, 21, 22, 23, 24] (by decide +kernel) (by decide +kernel)
set_option maxRecDepth 20000 in
theorem gX6_readSemicolon_X6_blame : GoodIn wsX6_readSemicolon (wsV RX6 62 RX6 yX6_blame wsX6_blame) := goodIn_app (goodIn_of _ (by decide +kernel)) ggX6_readSemicolon_X6_blame
theorem dX6_readSemicolon_0 : decode cX6_readSemicolon 0 = .ok (.aload_n 0, 1) := by decide +kernel
theorem dX6_readSemicolon_1 : decode cX6_readSemicolon 1 = .ok (.invokevirtual 40, 3) := by decide +kernel
theorem dX6_readSemicolon_4 : decode cX6_readSemicolon 4 = .ok (.aload_n 0, 1) := by decide +kernel
theorem dX6_readSemicolon_5 : decode cX6_readSemicolon 5 = .ok (.invokevirtual 43, 3) := by decide +kernel
theorem dX6_readSemicolon_8 : decode cX6_readSemicolon 8 = .ok (.bipush 59, 2) := by decide +kernel
theorem dX6_readSemicolon_10 : decode cX6_readSemicolon 10 = .ok (.if_icmp .ne 16, 3) := by decide +kernel
theorem dX6_readSemicolon_13 : decode cX6_readSemicolon 13 = .ok (.aload_n 0, 1) := by decide +kernel
theorem dX6_readSemicolon_14 : decode cX6_readSemicolon 14 = .ok (.dup, 1) := by decide +kernel
theorem dX6_readSemicolon_15 : decode cX6_readSemicolon 15 = .ok (.getfield 25, 3) := by decide +kernel
theorem dX6_readSemicolon_18 : decode cX6_readSemicolon 18 = .ok (.iconst 1, 1) := by decide +kernel
theorem dX6_readSemicolon_19 : decode cX6_readSemicolon 19 = .ok (.iadd, 1) := by decide +kernel
theorem dX6_readSemicolon_20 : decode cX6_readSemicolon 20 = .ok (.putfield 25, 3) := by decide +kernel
theorem dX6_readSemicolon_23 : decode cX6_readSemicolon 23 = .ok (.goto 12, 3) := by decide +kernel
theorem dX6_readSemicolon_26 : decode cX6_readSemicolon 26 = .ok (.aload_n 0, 1) := by decide +kernel
theorem dX6_readSemicolon_27 : decode cX6_readSemicolon 27 = .ok (.iconst 1, 1) := by decide +kernel
theorem dX6_readSemicolon_28 : decode cX6_readSemicolon 28 = .ok (.aload_n 0, 1) := by decide +kernel
theorem dX6_readSemicolon_29 : decode cX6_readSemicolon 29 = .ok (.getfield 25, 3) := by decide +kernel
theorem dX6_readSemicolon_32 : decode cX6_readSemicolon 32 = .ok (.invokevirtual 62, 3) := by decide +kernel
theorem dX6_readSemicolon_35 : decode cX6_readSemicolon 35 = .ok (.return_, 1) := by decide +kernel
set_option maxRecDepth 20000 in
theorem ggX6_skipBlanks_X6_here : GoodIn wsX6_skipBlanks wsX6_here := goodIn_r _ [6, 1, 7, 8, 9, 10, 11, 12, 13, 14] (by decide +kernel) (by decide +kernel)
set_option maxRecDepth 20000 in
theorem gX6_skipBlanks_X6_here : GoodIn wsX6_skipBlanks (wsV RX6 43 RX6 yX6_here wsX6_here) := goodIn_app (goodIn_of _ (by decide +kernel)) ggX6_skipBlanks_X6_here
theorem dX6_skipBlanks_0 : decode cX6_skipBlanks 0 = .ok (.iconst 0, 1) := by decide +kernel
theorem dX6_skipBlanks_1 : decode cX6_skipBlanks 1 = .ok (.istore_n 1, 1) := by decide +kernel
theorem dX6_skipBlanks_2 : decode cX6_skipBlanks 2 = .ok (.iload_n 1, 1) := by decide +kernel
theorem dX6_skipBlanks_3 : decode cX6_skipBlanks 3 = .ok (.sipush 240, 3) := by decide +kernel
theorem dX6_skipBlanks_6 : decode cX6_skipBlanks 6 = .ok (.if_icmp .gt 28, 3) := by decide +kernel
theorem dX6_skipBlanks_9 : decode cX6_skipBlanks 9 = .ok (.aload_n 0, 1) := by decide +kernel
theorem dX6_skipBlanks_10 : decode cX6_skipBlanks 10 = .ok (.invokevirtual 43, 3) := by decide +kernel
theorem dX6_skipBlanks_13 : decode cX6_skipBlanks 13 = .ok (.bipush 32, 2) := by decide +kernel
theorem dX6_skipBlanks_15 : decode cX6_skipBlanks 15 = .ok (.if_icmp .ne 19, 3) := by decide +kernel
theorem dX6_skipBlanks_18 : decode cX6_skipBlanks 18 = .ok (.aload_n 0, 1) := by decide +kernel
theorem dX6_skipBlanks_19 : decode cX6_skipBlanks 19 = .ok (.dup, 1) := by decide +kernel
theorem dX6_skipBlanks_20 : decode cX6_skipBlanks 20 = .ok (.getfield 25, 3) := by decide +kernel
theorem dX6_skipBlanks_23 : decode cX6_skipBlanks 23 = .ok (.iconst 1, 1) := by decide +kernel
theorem dX6_skipBlanks_24 : decode cX6_skipBlanks 24 = .ok (.iadd, 1) := by decide +kernel
theorem dX6_skipBlanks_25 : decode cX6_skipBlanks 25 = .ok (.putfield 25, 3) := by decide +kernel
theorem dX6_skipBlanks_28 : decode cX6_skipBlanks 28 = .ok (.iinc 1 1, 3) := by decide +kernel
theorem dX6_skipBlanks_31 : decode cX6_skipBlanks 31 = .ok (.goto (-29), 3) := by decide +kernel
theorem dX6_skipBlanks_34 : decode cX6_skipBlanks 34 = .ok (.return_, 1) := by decide +kernel
theorem dX6_here_0 : decode cX6_here 0 = .ok (.aload_n 0, 1) := by decide +kernel
theorem dX6_here_1 : decode cX6_here 1 = .ok (.getfield 25, 3) := by decide +kernel
theorem dX6_here_4 : decode cX6_here 4 = .ok (.aload_n 0, 1) := by decide +kernel
theorem dX6_here_5 : decode cX6_here 5 = .ok (.getfield 22, 3) := by decide +kernel
theorem dX6_here_8 : decode cX6_here 8 = .ok (.if_icmp .ge 25, 3) := by decide +kernel
theorem dX6_here_11 : decode cX6_here 11 = .ok (.aload_n 0, 1) := by decide +kernel
theorem dX6_here_12 : decode cX6_here 12 = .ok (.getfield 25, 3) := by decide +kernel
theorem dX6_here_15 : decode cX6_here 15 = .ok (.sipush 240, 3) := by decide +kernel
theorem dX6_here_18 : decode cX6_here 18 = .ok (.if_icmp .ge 15, 3) := by decide +kernel
theorem dX6_here_21 : decode cX6_here 21 = .ok (.aload_n 0, 1) := by decide +kernel
theorem dX6_here_22 : decode cX6_here 22 = .ok (.getfield 9, 3) := by decide +kernel
theorem dX6_here_25 : decode cX6_here 25 = .ok (.aload_n 0, 1) := by decide +kernel
theorem dX6_here_26 : decode cX6_here 26 = .ok (.getfield 25, 3) := by decide +kernel
theorem dX6_here_29 : decode cX6_here 29 = .ok (.iaload, 1) := by decide +kernel
theorem dX6_here_30 : decode cX6_here 30 = .ok (.goto 4, 3) := by decide +kernel
theorem dX6_here_33 : decode cX6_here 33 = .ok (.iconst (-1), 1) := by decide +kernel
theorem dX6_here_34 : decode cX6_here 34 = .ok (.ireturn, 1) := by decide +kernel
theorem dX6_isFigure_0 : decode cX6_isFigure 0 = .ok (.iload_n 1, 1) := by decide +kernel
theorem dX6_isFigure_1 : decode cX6_isFigure 1 = .ok (.bipush 48, 2) := by decide +kernel
theorem dX6_isFigure_3 : decode cX6_isFigure 3 = .ok (.if_icmp .lt 13, 3) := by decide +kernel
theorem dX6_isFigure_6 : decode cX6_isFigure 6 = .ok (.iload_n 1, 1) := by decide +kernel
theorem dX6_isFigure_7 : decode cX6_isFigure 7 = .ok (.bipush 57, 2) := by decide +kernel
theorem dX6_isFigure_9 : decode cX6_isFigure 9 = .ok (.if_icmp .gt 7, 3) := by decide +kernel
theorem dX6_isFigure_12 : decode cX6_isFigure 12 = .ok (.iconst 1, 1) := by decide +kernel
theorem dX6_isFigure_13 : decode cX6_isFigure 13 = .ok (.goto 4, 3) := by decide +kernel
theorem dX6_isFigure_16 : decode cX6_isFigure 16 = .ok (.iconst 0, 1) := by decide +kernel
theorem dX6_isFigure_17 : decode cX6_isFigure 17 = .ok (.ireturn, 1) := by decide +kernel
theorem dX6_blame_0 : decode cX6_blame 0 = .ok (.aload_n 0, 1) := by decide +kernel
theorem dX6_blame_1 : decode cX6_blame 1 = .ok (.iload_n 1, 1) := by decide +kernel
theorem dX6_blame_2 : decode cX6_blame 2 = .ok (.putfield 28, 3) := by decide +kernel
theorem dX6_blame_5 : decode cX6_blame 5 = .ok (.aload_n 0, 1) := by decide +kernel
theorem dX6_blame_6 : decode cX6_blame 6 = .ok (.iload_n 2, 1) := by decide +kernel
theorem dX6_blame_7 : decode cX6_blame 7 = .ok (.putfield 18, 3) := by decide +kernel
theorem dX6_blame_10 : decode cX6_blame 10 = .ok (.return_, 1) := by decide +kernel
end
section
/-- what holds all along a method's walk -/
def CX (p : Program) (s : State) (m : MethodId) (args : Array Value) (meth : Method) (c : Code) (cc : ByteArray) (own : String) (Ts : List Cond) (nL : Nat) (D : va_G) (tys : List (ClassId × FieldType)) (A : Nat → Prop) : Prop :=
  p.tables.exec = Jvm.exec ∧ c.code = cc ∧ c.maxLocals = nL ∧ s.vm.findClass own = some m.cls ∧ (∀ w ∈ Ts, w.before args s = true) ∧ va_K D vwCl tys s ∧ (∀ q, s.heap.size ≤ q → A q) ∧ meth.locks = false
/-- the walk from pc, with the world ws, the locals lv, the stack st -/
def WW (p : Program) (l : Launch) (e : Env) (R : Room) (s : State) (m : MethodId) (args : Array Value) (below : List Frame) (meth : Method) (c : Code) (nL : Nat) (D : va_G) (A : Nat → Prop) (k9 n9 : Nat) (Q : State → Prop) (ws : va_W) (lv : List (Nat × Value)) (pc : Nat) (st : List Value) : Prop :=
  ∀ (H : Heap) (locs : List Loc) (ls : Array Slot), va_P D vwCl ws H → va_D A ws → va_S A s.heap H locs → lv_has ls nL lv → W p l e R s m args below meth c H locs k9 n9 Q (F0 m pc ls st)
/-- the ends: an int, nothing -/
def RQi (below : List Frame) (args : Array Value) (s : State) (D : va_G) (A : Nat → Prop) (r : Int32) (w1 : va_W) : State → Prop :=
  MQ below (va_Qi (fun r' (_ : Unit) => r' = r) (fun _ t => va_P D vwCl w1 t.heap ∧ va_D A w1) A) args s 0 0 A
def RQv (below : List Frame) (args : Array Value) (s : State) (D : va_G) (A : Nat → Prop) (w1 : va_W) : State → Prop :=
  MQ below (va_Qv (fun (_ : Unit) => True) (fun _ t => va_P D vwCl w1 t.heap ∧ va_D A w1) A) args s 0 0 A
/-- a method's contract: with the arguments av and the world w0 it answers r, and the world is w1 -/
def Ci (l : Launch) (y : MethodName) (wsC : List Cond) (rm : Room) (D : va_G) (tys : List (ClassId × FieldType)) (av : List Value) (w0 : va_W) (r : Int32) (w1 : va_W) : Prop :=
  ∀ sz : Nat, Met l y wsC rm (va_Pc av (fun U => U.heap.size = sz ∧ va_P D vwCl w0 U.heap ∧ va_K D vwCl tys U ∧ va_D (fun _ => True) w0)) (va_Qi (fun r' (_ : Unit) => r' = r) (fun _ t => va_P D vwCl w1 t.heap ∧ va_D (va_A w0 sz) w1) (va_A w0 sz)) 0 0 (va_A w0 sz)
def Cv (l : Launch) (y : MethodName) (wsC : List Cond) (rm : Room) (D : va_G) (tys : List (ClassId × FieldType)) (av : List Value) (w0 : va_W) (w1 : va_W) : Prop :=
  ∀ sz : Nat, Met l y wsC rm (va_Pc av (fun U => U.heap.size = sz ∧ va_P D vwCl w0 U.heap ∧ va_K D vwCl tys U ∧ va_D (fun _ => True) w0)) (va_Qv (fun (_ : Unit) => True) (fun _ t => va_P D vwCl w1 t.heap ∧ va_D (va_A w0 sz) w1) (va_A w0 sz)) 0 0 (va_A w0 sz)
def wput (ws : va_W) : List Nat → va_W → va_W
  | i :: is, x :: xs => wput (ws.set i x) is xs
  | _, _ => ws
theorem wput_get : ∀ (is : List Nat) (ws xs : va_W) (k : Nat) (q : Nat × va_E), is.length = xs.length → (wput ws is xs)[k]? = some q → (∃ j : Nat, is[j]? = some k ∧ xs[j]? = some q) ∨ (k ∉ is ∧ ws[k]? = some q)
  | [], ws, xs, k, q, _, h => Or.inr ⟨List.not_mem_nil, by
      cases xs <;> exact h⟩
  | i :: is, ws, [], k, q, hl, _ => by simp at hl
  | i :: is, ws, x :: xs, k, q, hl, h => by
    rcases wput_get is (ws.set i x) xs k q (by simpa using hl) h with ⟨j, h1, h2⟩ | ⟨h1, h2⟩
    · exact Or.inl ⟨j + 1, by rw [List.getElem?_cons_succ]; exact h1, by rw [List.getElem?_cons_succ]; exact h2⟩
    · by_cases hk : i = k
      · subst hk
        rw [List.getElem?_set] at h2
        simp only [if_true] at h2
        split at h2
        · exact Or.inl ⟨0, rfl, h2⟩
        · cases h2
      · rw [List.getElem?_set_ne hk] at h2
        exact Or.inr ⟨fun hm => by
          rcases List.mem_cons.mp hm with e | e
          · exact hk e.symm
          · exact h1 e, h2⟩
/-- behind a call: the callee's cells at their places, the others as they were -/
theorem w_join {A : Nat → Prop} {D : va_G} {cl : List vw_C} {ws wc w1 : va_W} {H H1 : Heap} (hP : va_P D cl ws H) (hD : va_D A ws) (isC : List Nat) (hC : isC.map (fun i => ws[i]?) = wc.map some) (hadr : w1.map Prod.fst = wc.map Prod.fst)
    (hk : ∀ q : Nat, q < H.size → ¬ va_A wc H.size q → H1[q]? = H[q]?) (hP1 : va_P D cl w1 H1) : va_P D cl (wput ws isC w1) H1 ∧ va_D A (wput ws isC w1) := by
  have hl1 : isC.length = wc.length := by
    have := congrArg List.length hC
    simpa using this
  have hl2 : w1.length = wc.length := by
    have := congrArg List.length hadr
    simpa using this
  have at' : ∀ (k : Nat) (q : Nat × va_E), wc[k]? = some q → ∃ i, isC[k]? = some i ∧ ws[i]? = some q := by
    intro k q hq
    have h1 : (isC.map (fun i => ws[i]?))[k]? = some (some q) := by rw [hC, List.getElem?_map, hq]; rfl
    rw [List.getElem?_map] at h1
    cases hi : isC[k]? with
    | none => rw [hi] at h1; cases h1
    | some i => rw [hi] at h1; exact ⟨i, rfl, Option.some.inj h1⟩
  have at1 : ∀ (j : Nat) (q : Nat × va_E), w1[j]? = some q → ∃ q0, wc[j]? = some q0 ∧ q0.1 = q.1 := by
    intro j q hq
    have h1 : (w1.map Prod.fst)[j]? = some q.1 := by rw [List.getElem?_map, hq]; rfl
    rw [hadr, List.getElem?_map] at h1
    cases hi : wc[j]? with
    | none => rw [hi] at h1; cases h1
    | some q0 => rw [hi] at h1; exact ⟨q0, rfl, Option.some.inj h1⟩
  have key : ∀ (k : Nat) (q : Nat × va_E), (wput ws isC w1)[k]? = some q → ∃ q0, ws[k]? = some q0 ∧ q0.1 = q.1 := by
    intro k q hq
    rcases wput_get isC ws w1 k q (hl1.trans hl2.symm) hq with ⟨j, h1, h2⟩ | ⟨-, h2⟩
    · obtain ⟨q0, g1, g2⟩ := at1 j q h2
      obtain ⟨i, g3, g4⟩ := at' j q0 g1
      have : i = k := Option.some.inj (g3.symm.trans h1)
      subst this
      exact ⟨q0, g4, g2⟩
    · exact ⟨q, h2, rfl⟩
  refine ⟨fun k q hq => ?_, fun i j x y hi hj hxy => ?_, fun k q hq => ?_⟩
  · rcases wput_get isC ws w1 k q (hl1.trans hl2.symm) hq with ⟨j, h1, h2⟩ | ⟨h1, h2⟩
    · exact hP1 j q h2
    · refine (hP k q h2).kept (hk q.1 ((hP k q h2).lt) (fun h => ?_))
      rcases h with ⟨k2, e2, h⟩ | h
      · obtain ⟨i, g1, g2⟩ := at' k2 (q.1, e2) h
        have := hD.1 k i q (q.1, e2) h2 g2 rfl
        subst this
        exact h1 (List.mem_of_getElem? g1)
      · have := (hP k q h2).lt
        omega
  · obtain ⟨x0, h1, h2⟩ := key i x hi
    obtain ⟨y0, h3, h4⟩ := key j y hj
    exact hD.1 i j x0 y0 h1 h3 (h2.trans (hxy.trans h4.symm))
  · obtain ⟨q0, h1, h2⟩ := key k q hq
    rw [← h2]
    exact hD.2 k q0 h1
section WWrows
variable {p : Program} {l : Launch} {e : Env} {R : Room} {s : State} {m : MethodId} {args : Array Value} {below : List Frame} {meth : Method} {c : Code} {Q : State → Prop} {D : va_G} {A : Nat → Prop} {tys : List (ClassId × FieldType)} {nL k9 n9 : Nat} {cc : ByteArray} {own : String} {Ts : List Cond} {ws : va_W} {lv : List (Nat × Value)} {pc : Nat} {rest : List Value}
theorem ww_iconst (X : CX p s m args meth c cc own Ts nL D tys A) {n : Int} {v : Int32} (hdg : decode cc pc = .ok (.iconst n, 1)) (hv : Int32.ofInt n = v) (k : WW p l e R s m args below meth c nL D A k9 n9 Q ws lv (pc + 1) (.int v :: rest)) : WW p l e R s m args below meth c nL D A k9 n9 Q ws lv pc (rest) :=
  fun H locs ls hP hD hS hl => lv_iconst X.1 X.2.1 hdg hv (k H locs ls hP hD hS hl)
theorem ww_bipush (X : CX p s m args meth c cc own Ts nL D tys A) {n : Int} {v : Int32} (hdg : decode cc pc = .ok (.bipush n, 2)) (hv : (Int8.ofInt n).toInt32 = v) (k : WW p l e R s m args below meth c nL D A k9 n9 Q ws lv (pc + 2) (.int v :: rest)) : WW p l e R s m args below meth c nL D A k9 n9 Q ws lv pc (rest) :=
  fun H locs ls hP hD hS hl => lv_bipush X.1 X.2.1 hdg hv (k H locs ls hP hD hS hl)
theorem ww_sipush (X : CX p s m args meth c cc own Ts nL D tys A) {n : Int} {v : Int32} (hdg : decode cc pc = .ok (.sipush n, 3)) (hv : (Int16.ofInt n).toInt32 = v) (k : WW p l e R s m args below meth c nL D A k9 n9 Q ws lv (pc + 3) (.int v :: rest)) : WW p l e R s m args below meth c nL D A k9 n9 Q ws lv pc (rest) :=
  fun H locs ls hP hD hS hl => lv_sipush X.1 X.2.1 hdg hv (k H locs ls hP hD hS hl)
theorem ww_iadd (X : CX p s m args meth c cc own Ts nL D tys A) {x y : Int32} (hdg : decode cc pc = .ok (.iadd, 1))  (k : WW p l e R s m args below meth c nL D A k9 n9 Q ws lv (pc + 1) (.int (x + y) :: rest)) : WW p l e R s m args below meth c nL D A k9 n9 Q ws lv pc (.int y :: .int x :: rest) :=
  fun H locs ls hP hD hS hl => lv_iadd X.1 X.2.1 hdg  (k H locs ls hP hD hS hl)
theorem ww_isub (X : CX p s m args meth c cc own Ts nL D tys A) {x y : Int32} (hdg : decode cc pc = .ok (.isub, 1))  (k : WW p l e R s m args below meth c nL D A k9 n9 Q ws lv (pc + 1) (.int (x - y) :: rest)) : WW p l e R s m args below meth c nL D A k9 n9 Q ws lv pc (.int y :: .int x :: rest) :=
  fun H locs ls hP hD hS hl => lv_isub X.1 X.2.1 hdg  (k H locs ls hP hD hS hl)
theorem ww_imul (X : CX p s m args meth c cc own Ts nL D tys A) {x y : Int32} (hdg : decode cc pc = .ok (.imul, 1))  (k : WW p l e R s m args below meth c nL D A k9 n9 Q ws lv (pc + 1) (.int (x * y) :: rest)) : WW p l e R s m args below meth c nL D A k9 n9 Q ws lv pc (.int y :: .int x :: rest) :=
  fun H locs ls hP hD hS hl => lv_imul X.1 X.2.1 hdg  (k H locs ls hP hD hS hl)
theorem ww_idiv (X : CX p s m args meth c cc own Ts nL D tys A) {x y : Int32} (hdg : decode cc pc = .ok (.idiv, 1)) (hne : ¬ y = 0) (k : WW p l e R s m args below meth c nL D A k9 n9 Q ws lv (pc + 1) (.int (x / y) :: rest)) : WW p l e R s m args below meth c nL D A k9 n9 Q ws lv pc (.int y :: .int x :: rest) :=
  fun H locs ls hP hD hS hl => lv_idiv X.1 X.2.1 hdg hne (k H locs ls hP hD hS hl)
theorem ww_irem (X : CX p s m args meth c cc own Ts nL D tys A) {x y : Int32} (hdg : decode cc pc = .ok (.irem, 1)) (hne : ¬ y = 0) (k : WW p l e R s m args below meth c nL D A k9 n9 Q ws lv (pc + 1) (.int (x - x / y * y) :: rest)) : WW p l e R s m args below meth c nL D A k9 n9 Q ws lv pc (.int y :: .int x :: rest) :=
  fun H locs ls hP hD hS hl => lv_irem X.1 X.2.1 hdg hne (k H locs ls hP hD hS hl)
theorem ww_dup (X : CX p s m args meth c cc own Ts nL D tys A) {va : Value} (hdg : decode cc pc = .ok (.dup, 1)) (hva : va.category = 1) (k : WW p l e R s m args below meth c nL D A k9 n9 Q ws lv (pc + 1) (va :: va :: rest)) : WW p l e R s m args below meth c nL D A k9 n9 Q ws lv pc (va :: rest) :=
  fun H locs ls hP hD hS hl => lv_dup X.1 X.2.1 hdg hva (k H locs ls hP hD hS hl)
theorem ww_dup2_11 (X : CX p s m args meth c cc own Ts nL D tys A) {va vb : Value} (hdg : decode cc pc = .ok (.dup2, 1)) (hva : va.category = 1) (hvb : vb.category = 1) (k : WW p l e R s m args below meth c nL D A k9 n9 Q ws lv (pc + 1) (va :: vb :: va :: vb :: rest)) : WW p l e R s m args below meth c nL D A k9 n9 Q ws lv pc (va :: vb :: rest) :=
  fun H locs ls hP hD hS hl => lv_dup2_11 X.1 X.2.1 hdg hva hvb (k H locs ls hP hD hS hl)
theorem ww_pop (X : CX p s m args meth c cc own Ts nL D tys A) {va : Value} (hdg : decode cc pc = .ok (.pop, 1)) (hva : va.category = 1) (k : WW p l e R s m args below meth c nL D A k9 n9 Q ws lv (pc + 1) (rest)) : WW p l e R s m args below meth c nL D A k9 n9 Q ws lv pc (va :: rest) :=
  fun H locs ls hP hD hS hl => lv_pop X.1 X.2.1 hdg hva (k H locs ls hP hD hS hl)
theorem ww_i2l (X : CX p s m args meth c cc own Ts nL D tys A) {x : Int32} {v : Int64} (hdg : decode cc pc = .ok (.i2l, 1)) (hv : x.toInt64 = v) (k : WW p l e R s m args below meth c nL D A k9 n9 Q ws lv (pc + 1) (.long v :: rest)) : WW p l e R s m args below meth c nL D A k9 n9 Q ws lv pc (.int x :: rest) :=
  fun H locs ls hP hD hS hl => lv_i2l X.1 X.2.1 hdg hv (k H locs ls hP hD hS hl)
theorem ww_l2i (X : CX p s m args meth c cc own Ts nL D tys A) {x : Int64} {v : Int32} (hdg : decode cc pc = .ok (.l2i, 1)) (hv : x.toInt32 = v) (k : WW p l e R s m args below meth c nL D A k9 n9 Q ws lv (pc + 1) (.int v :: rest)) : WW p l e R s m args below meth c nL D A k9 n9 Q ws lv pc (.long x :: rest) :=
  fun H locs ls hP hD hS hl => lv_l2i X.1 X.2.1 hdg hv (k H locs ls hP hD hS hl)
theorem ww_i2c (X : CX p s m args meth c cc own Ts nL D tys A) {x : Int32} {v : Int32} (hdg : decode cc pc = .ok (.i2c, 1)) (hv : (x.toUInt32 % 65536).toInt32 = v) (k : WW p l e R s m args below meth c nL D A k9 n9 Q ws lv (pc + 1) (.int v :: rest)) : WW p l e R s m args below meth c nL D A k9 n9 Q ws lv pc (.int x :: rest) :=
  fun H locs ls hP hD hS hl => lv_i2c X.1 X.2.1 hdg hv (k H locs ls hP hD hS hl)
theorem ww_iand (X : CX p s m args meth c cc own Ts nL D tys A) {x y : Int32} (hdg : decode cc pc = .ok (.iand, 1)) 
     (k : WW p l e R s m args below meth c nL D A k9 n9 Q ws lv (pc + 1) (.int (x &&& y) :: rest)) : WW p l e R s m args below meth c nL D A k9 n9 Q ws lv pc (.int y :: .int x :: rest) :=
  fun H locs ls hP hD hS hl => lv_iand X.1 X.2.1 hdg (k H locs ls hP hD hS hl)
theorem ww_ior (X : CX p s m args meth c cc own Ts nL D tys A) {x y : Int32} (hdg : decode cc pc = .ok (.ior, 1)) 
     (k : WW p l e R s m args below meth c nL D A k9 n9 Q ws lv (pc + 1) (.int (x ||| y) :: rest)) : WW p l e R s m args below meth c nL D A k9 n9 Q ws lv pc (.int y :: .int x :: rest) :=
  fun H locs ls hP hD hS hl => lv_ior X.1 X.2.1 hdg (k H locs ls hP hD hS hl)
theorem ww_ishl (X : CX p s m args meth c cc own Ts nL D tys A) {x y : Int32} (hdg : decode cc pc = .ok (.ishl, 1)) 
     (k : WW p l e R s m args below meth c nL D A k9 n9 Q ws lv (pc + 1) (.int (x <<< (y &&& 31)) :: rest)) : WW p l e R s m args below meth c nL D A k9 n9 Q ws lv pc (.int y :: .int x :: rest) :=
  fun H locs ls hP hD hS hl => lv_ishl X.1 X.2.1 hdg (k H locs ls hP hD hS hl)
theorem ww_ineg (X : CX p s m args meth c cc own Ts nL D tys A) {x : Int32} (hdg : decode cc pc = .ok (.ineg, 1)) 
     (k : WW p l e R s m args below meth c nL D A k9 n9 Q ws lv (pc + 1) (.int (-x) :: rest)) : WW p l e R s m args below meth c nL D A k9 n9 Q ws lv pc (.int x :: rest) :=
  fun H locs ls hP hD hS hl => lv_ineg X.1 X.2.1 hdg (k H locs ls hP hD hS hl)
theorem ww_lmul (X : CX p s m args meth c cc own Ts nL D tys A) {x y : Int64} (hdg : decode cc pc = .ok (.lmul, 1)) 
     (k : WW p l e R s m args below meth c nL D A k9 n9 Q ws lv (pc + 1) (.long (x * y) :: rest)) : WW p l e R s m args below meth c nL D A k9 n9 Q ws lv pc (.long y :: .long x :: rest) :=
  fun H locs ls hP hD hS hl => lv_lmul X.1 X.2.1 hdg (k H locs ls hP hD hS hl)
theorem ww_ldiv (X : CX p s m args meth c cc own Ts nL D tys A) {x y : Int64} (hdg : decode cc pc = .ok (.ldiv, 1)) (hne : ¬ y = 0)
     (k : WW p l e R s m args below meth c nL D A k9 n9 Q ws lv (pc + 1) (.long (x / y) :: rest)) : WW p l e R s m args below meth c nL D A k9 n9 Q ws lv pc (.long y :: .long x :: rest) :=
  fun H locs ls hP hD hS hl => lv_ldiv X.1 X.2.1 hdg hne (k H locs ls hP hD hS hl)
theorem ww_ladd (X : CX p s m args meth c cc own Ts nL D tys A) {x y : Int64} (hdg : decode cc pc = .ok (.ladd, 1)) 
     (k : WW p l e R s m args below meth c nL D A k9 n9 Q ws lv (pc + 1) (.long (x + y) :: rest)) : WW p l e R s m args below meth c nL D A k9 n9 Q ws lv pc (.long y :: .long x :: rest) :=
  fun H locs ls hP hD hS hl => lv_ladd X.1 X.2.1 hdg (k H locs ls hP hD hS hl)
theorem ww_land (X : CX p s m args meth c cc own Ts nL D tys A) {x y : Int64} (hdg : decode cc pc = .ok (.land, 1)) 
     (k : WW p l e R s m args below meth c nL D A k9 n9 Q ws lv (pc + 1) (.long (x &&& y) :: rest)) : WW p l e R s m args below meth c nL D A k9 n9 Q ws lv pc (.long y :: .long x :: rest) :=
  fun H locs ls hP hD hS hl => lv_land X.1 X.2.1 hdg (k H locs ls hP hD hS hl)
theorem ww_ishr (X : CX p s m args meth c cc own Ts nL D tys A) {x y : Int32} (hdg : decode cc pc = .ok (.ishr, 1)) 
     (k : WW p l e R s m args below meth c nL D A k9 n9 Q ws lv (pc + 1) (.int (x >>> (y &&& 31)) :: rest)) : WW p l e R s m args below meth c nL D A k9 n9 Q ws lv pc (.int y :: .int x :: rest) :=
  fun H locs ls hP hD hS hl => lv_ishr X.1 X.2.1 hdg (k H locs ls hP hD hS hl)
theorem ww_iushr (X : CX p s m args meth c cc own Ts nL D tys A) {x y v : Int32} (hdg : decode cc pc = .ok (.iushr, 1)) (hv : (x.toUInt32 >>> (y.toUInt32 &&& Int32.toUInt32 31)).toInt32 = v)
     (k : WW p l e R s m args below meth c nL D A k9 n9 Q ws lv (pc + 1) (.int v :: rest)) : WW p l e R s m args below meth c nL D A k9 n9 Q ws lv pc (.int y :: .int x :: rest) :=
  fun H locs ls hP hD hS hl => lv_iushr X.1 X.2.1 hdg hv (k H locs ls hP hD hS hl)
theorem ww_i2b (X : CX p s m args meth c cc own Ts nL D tys A) {x : Int32} {v : Int32} (hdg : decode cc pc = .ok (.i2b, 1)) (hv : x.toInt8.toInt32 = v)
     (k : WW p l e R s m args below meth c nL D A k9 n9 Q ws lv (pc + 1) (.int v :: rest)) : WW p l e R s m args below meth c nL D A k9 n9 Q ws lv pc (.int x :: rest) :=
  fun H locs ls hP hD hS hl => lv_i2b X.1 X.2.1 hdg hv (k H locs ls hP hD hS hl)
theorem ww_iload_n (X : CX p s m args meth c cc own Ts nL D tys A) {k : Fin 4} {i : Nat} {x : Int32} (hdg : decode cc pc = .ok (.iload_n k, 1)) (j : Nat) (hi : (k : Nat) = i) (hj : lv[j]? = some (i, .int x)) (k : WW p l e R s m args below meth c nL D A k9 n9 Q ws lv (pc + 1) (.int x :: rest)) : WW p l e R s m args below meth c nL D A k9 n9 Q ws lv pc rest :=
  fun H locs ls hP hD hS hl => lv_iload_n X.1 X.2.1 hdg hi (lv_at hl j hj) (k H locs ls hP hD hS hl)
theorem ww_aload_n (X : CX p s m args meth c cc own Ts nL D tys A) {k : Fin 4} {i : Nat} {x : Nat} (hdg : decode cc pc = .ok (.aload_n k, 1)) (j : Nat) (hi : (k : Nat) = i) (hj : lv[j]? = some (i, .ref x)) (k : WW p l e R s m args below meth c nL D A k9 n9 Q ws lv (pc + 1) (.ref x :: rest)) : WW p l e R s m args below meth c nL D A k9 n9 Q ws lv pc rest :=
  fun H locs ls hP hD hS hl => lv_aload_n X.1 X.2.1 hdg hi (lv_at hl j hj) (k H locs ls hP hD hS hl)
theorem ww_lload_n (X : CX p s m args meth c cc own Ts nL D tys A) {k : Fin 4} {i : Nat} {x : Int64} (hdg : decode cc pc = .ok (.lload_n k, 1)) (j : Nat) (hi : (k : Nat) = i) (hj : lv[j]? = some (i, .long x)) (k : WW p l e R s m args below meth c nL D A k9 n9 Q ws lv (pc + 1) (.long x :: rest)) : WW p l e R s m args below meth c nL D A k9 n9 Q ws lv pc rest :=
  fun H locs ls hP hD hS hl => lv_lload_n X.1 X.2.1 hdg hi (lv_at hl j hj) (k H locs ls hP hD hS hl)
theorem ww_iload (X : CX p s m args meth c cc own Ts nL D tys A) {i : Nat} {x : Int32} (hdg : decode cc pc = .ok (.iload i, 2)) (j : Nat) (hj : lv[j]? = some (i, .int x)) (k : WW p l e R s m args below meth c nL D A k9 n9 Q ws lv (pc + 2) (.int x :: rest)) : WW p l e R s m args below meth c nL D A k9 n9 Q ws lv pc rest :=
  fun H locs ls hP hD hS hl => lv_iload X.1 X.2.1 hdg (lv_at hl j hj) (k H locs ls hP hD hS hl)
theorem ww_aload (X : CX p s m args meth c cc own Ts nL D tys A) {i : Nat} {x : Nat} (hdg : decode cc pc = .ok (.aload i, 2)) (j : Nat) (hj : lv[j]? = some (i, .ref x)) (k : WW p l e R s m args below meth c nL D A k9 n9 Q ws lv (pc + 2) (.ref x :: rest)) : WW p l e R s m args below meth c nL D A k9 n9 Q ws lv pc rest :=
  fun H locs ls hP hD hS hl => lv_aload X.1 X.2.1 hdg (lv_at hl j hj) (k H locs ls hP hD hS hl)
theorem ww_istore_n (X : CX p s m args meth c cc own Ts nL D tys A) {k : Fin 4} {i : Nat} {x : Int32} {lv' : List (Nat × Value)} (hdg : decode cc pc = .ok (.istore_n k, 1)) (hi : (k : Nat) = i) (hn : i < nL) (hl : (i, Value.int x) :: lv.filter (fun q => !(q.1 == i) && !(q.1 + 1 == i && q.2.category == 2)) = lv') (kk : WW p l e R s m args below meth c nL D A k9 n9 Q ws lv' (pc + 1) rest) : WW p l e R s m args below meth c nL D A k9 n9 Q ws lv pc (.int x :: rest) :=
  fun H locs ls hP hD hS h => lv_istore_n X.1 X.2.1 hdg hi h hn hl (fun ls' h' => kk H locs ls' hP hD hS h')
theorem ww_astore_n (X : CX p s m args meth c cc own Ts nL D tys A) {k : Fin 4} {i : Nat} {x : Nat} {lv' : List (Nat × Value)} (hdg : decode cc pc = .ok (.astore_n k, 1)) (hi : (k : Nat) = i) (hn : i < nL) (hl : (i, Value.ref x) :: lv.filter (fun q => !(q.1 == i) && !(q.1 + 1 == i && q.2.category == 2)) = lv') (kk : WW p l e R s m args below meth c nL D A k9 n9 Q ws lv' (pc + 1) rest) : WW p l e R s m args below meth c nL D A k9 n9 Q ws lv pc (.ref x :: rest) :=
  fun H locs ls hP hD hS h => lv_astore_n X.1 X.2.1 hdg hi h hn hl (fun ls' h' => kk H locs ls' hP hD hS h')
theorem ww_lstore_n (X : CX p s m args meth c cc own Ts nL D tys A) {k : Fin 4} {i : Nat} {x : Int64} {lv' : List (Nat × Value)} (hdg : decode cc pc = .ok (.lstore_n k, 1)) (hi : (k : Nat) = i) (hn : i + 1 < nL) (hl : (i, Value.long x) :: lv.filter (fun q => !(q.1 == i) && (!(q.1 == i + 1) && !(q.1 + 1 == i && q.2.category == 2))) = lv') (kk : WW p l e R s m args below meth c nL D A k9 n9 Q ws lv' (pc + 1) rest) : WW p l e R s m args below meth c nL D A k9 n9 Q ws lv pc (.long x :: rest) :=
  fun H locs ls hP hD hS h => lv_lstore_n X.1 X.2.1 hdg hi h hn hl (fun ls' h' => kk H locs ls' hP hD hS h')
theorem ww_istore (X : CX p s m args meth c cc own Ts nL D tys A) {i : Nat} {x : Int32} {lv' : List (Nat × Value)} (hdg : decode cc pc = .ok (.istore i, 2)) (hn : i < nL) (hl : (i, Value.int x) :: lv.filter (fun q => !(q.1 == i) && !(q.1 + 1 == i && q.2.category == 2)) = lv') (kk : WW p l e R s m args below meth c nL D A k9 n9 Q ws lv' (pc + 2) rest) : WW p l e R s m args below meth c nL D A k9 n9 Q ws lv pc (.int x :: rest) :=
  fun H locs ls hP hD hS h => lv_istore X.1 X.2.1 hdg h hn hl (fun ls' h' => kk H locs ls' hP hD hS h')
theorem ww_astore (X : CX p s m args meth c cc own Ts nL D tys A) {i : Nat} {x : Nat} {lv' : List (Nat × Value)} (hdg : decode cc pc = .ok (.astore i, 2)) (hn : i < nL) (hl : (i, Value.ref x) :: lv.filter (fun q => !(q.1 == i) && !(q.1 + 1 == i && q.2.category == 2)) = lv') (kk : WW p l e R s m args below meth c nL D A k9 n9 Q ws lv' (pc + 2) rest) : WW p l e R s m args below meth c nL D A k9 n9 Q ws lv pc (.ref x :: rest) :=
  fun H locs ls hP hD hS h => lv_astore X.1 X.2.1 hdg h hn hl (fun ls' h' => kk H locs ls' hP hD hS h')
theorem ww_iinc (X : CX p s m args meth c cc own Ts nL D tys A) {i : Nat} {n : Int} {x v : Int32} {lv' : List (Nat × Value)} (hdg : decode cc pc = .ok (.iinc i n, 3)) (j : Nat) (hj : lv[j]? = some (i, .int x)) (hv : x + Int32.ofInt n = v) (hn : i < nL) (hl : (i, Value.int v) :: lv.filter (fun q => !(q.1 == i) && !(q.1 + 1 == i && q.2.category == 2)) = lv') (kk : WW p l e R s m args below meth c nL D A k9 n9 Q ws lv' (pc + 3) rest) : WW p l e R s m args below meth c nL D A k9 n9 Q ws lv pc rest :=
  fun H locs ls hP hD hS h => lv_iinc X.1 X.2.1 hdg h (k := j) hj hv hn hl (fun ls' h' => kk H locs ls' hP hD hS h')
theorem ww_if_eq (X : CX p s m args meth c cc own Ts nL D tys A) {x : Int32} {off : Int} {tgt : Nat} (hdg : decode cc pc = .ok (.ifCond .eq off, 3)) (ht : (pc : Int) + off = (tgt : Int)) (kt : x = 0 → WW p l e R s m args below meth c nL D A k9 n9 Q ws lv tgt rest) (kf : ¬ x = 0 → WW p l e R s m args below meth c nL D A k9 n9 Q ws lv (pc + 3) rest) : WW p l e R s m args below meth c nL D A k9 n9 Q ws lv pc (.int x :: rest) :=
  fun H locs ls hP hD hS hl => lv_if_eq X.1 X.2.1 hdg ht (fun q => kt q H locs ls hP hD hS hl) (fun q => kf q H locs ls hP hD hS hl)
theorem ww_if_ne (X : CX p s m args meth c cc own Ts nL D tys A) {x : Int32} {off : Int} {tgt : Nat} (hdg : decode cc pc = .ok (.ifCond .ne off, 3)) (ht : (pc : Int) + off = (tgt : Int)) (kt : ¬ x = 0 → WW p l e R s m args below meth c nL D A k9 n9 Q ws lv tgt rest) (kf : x = 0 → WW p l e R s m args below meth c nL D A k9 n9 Q ws lv (pc + 3) rest) : WW p l e R s m args below meth c nL D A k9 n9 Q ws lv pc (.int x :: rest) :=
  fun H locs ls hP hD hS hl => lv_if_ne X.1 X.2.1 hdg ht (fun q => kt q H locs ls hP hD hS hl) (fun q => kf q H locs ls hP hD hS hl)
theorem ww_if_lt (X : CX p s m args meth c cc own Ts nL D tys A) {x : Int32} {off : Int} {tgt : Nat} (hdg : decode cc pc = .ok (.ifCond .lt off, 3)) (ht : (pc : Int) + off = (tgt : Int)) (kt : x < 0 → WW p l e R s m args below meth c nL D A k9 n9 Q ws lv tgt rest) (kf : ¬ x < 0 → WW p l e R s m args below meth c nL D A k9 n9 Q ws lv (pc + 3) rest) : WW p l e R s m args below meth c nL D A k9 n9 Q ws lv pc (.int x :: rest) :=
  fun H locs ls hP hD hS hl => lv_if_lt X.1 X.2.1 hdg ht (fun q => kt q H locs ls hP hD hS hl) (fun q => kf q H locs ls hP hD hS hl)
theorem ww_if_ge (X : CX p s m args meth c cc own Ts nL D tys A) {x : Int32} {off : Int} {tgt : Nat} (hdg : decode cc pc = .ok (.ifCond .ge off, 3)) (ht : (pc : Int) + off = (tgt : Int)) (kt : 0 ≤ x → WW p l e R s m args below meth c nL D A k9 n9 Q ws lv tgt rest) (kf : ¬ 0 ≤ x → WW p l e R s m args below meth c nL D A k9 n9 Q ws lv (pc + 3) rest) : WW p l e R s m args below meth c nL D A k9 n9 Q ws lv pc (.int x :: rest) :=
  fun H locs ls hP hD hS hl => lv_if_ge X.1 X.2.1 hdg ht (fun q => kt q H locs ls hP hD hS hl) (fun q => kf q H locs ls hP hD hS hl)
theorem ww_if_gt (X : CX p s m args meth c cc own Ts nL D tys A) {x : Int32} {off : Int} {tgt : Nat} (hdg : decode cc pc = .ok (.ifCond .gt off, 3)) (ht : (pc : Int) + off = (tgt : Int)) (kt : 0 < x → WW p l e R s m args below meth c nL D A k9 n9 Q ws lv tgt rest) (kf : ¬ 0 < x → WW p l e R s m args below meth c nL D A k9 n9 Q ws lv (pc + 3) rest) : WW p l e R s m args below meth c nL D A k9 n9 Q ws lv pc (.int x :: rest) :=
  fun H locs ls hP hD hS hl => lv_if_gt X.1 X.2.1 hdg ht (fun q => kt q H locs ls hP hD hS hl) (fun q => kf q H locs ls hP hD hS hl)
theorem ww_if_le (X : CX p s m args meth c cc own Ts nL D tys A) {x : Int32} {off : Int} {tgt : Nat} (hdg : decode cc pc = .ok (.ifCond .le off, 3)) (ht : (pc : Int) + off = (tgt : Int)) (kt : x ≤ 0 → WW p l e R s m args below meth c nL D A k9 n9 Q ws lv tgt rest) (kf : ¬ x ≤ 0 → WW p l e R s m args below meth c nL D A k9 n9 Q ws lv (pc + 3) rest) : WW p l e R s m args below meth c nL D A k9 n9 Q ws lv pc (.int x :: rest) :=
  fun H locs ls hP hD hS hl => lv_if_le X.1 X.2.1 hdg ht (fun q => kt q H locs ls hP hD hS hl) (fun q => kf q H locs ls hP hD hS hl)
theorem ww_icmp_eq (X : CX p s m args meth c cc own Ts nL D tys A) {x y : Int32} {off : Int} {tgt : Nat} (hdg : decode cc pc = .ok (.if_icmp .eq off, 3)) (ht : (pc : Int) + off = (tgt : Int)) (kt : x = y → WW p l e R s m args below meth c nL D A k9 n9 Q ws lv tgt rest) (kf : ¬ x = y → WW p l e R s m args below meth c nL D A k9 n9 Q ws lv (pc + 3) rest) : WW p l e R s m args below meth c nL D A k9 n9 Q ws lv pc (.int y :: .int x :: rest) :=
  fun H locs ls hP hD hS hl => lv_icmp_eq X.1 X.2.1 hdg ht (fun q => kt q H locs ls hP hD hS hl) (fun q => kf q H locs ls hP hD hS hl)
theorem ww_icmp_ne (X : CX p s m args meth c cc own Ts nL D tys A) {x y : Int32} {off : Int} {tgt : Nat} (hdg : decode cc pc = .ok (.if_icmp .ne off, 3)) (ht : (pc : Int) + off = (tgt : Int)) (kt : ¬ x = y → WW p l e R s m args below meth c nL D A k9 n9 Q ws lv tgt rest) (kf : x = y → WW p l e R s m args below meth c nL D A k9 n9 Q ws lv (pc + 3) rest) : WW p l e R s m args below meth c nL D A k9 n9 Q ws lv pc (.int y :: .int x :: rest) :=
  fun H locs ls hP hD hS hl => lv_icmp_ne X.1 X.2.1 hdg ht (fun q => kt q H locs ls hP hD hS hl) (fun q => kf q H locs ls hP hD hS hl)
theorem ww_icmp_lt (X : CX p s m args meth c cc own Ts nL D tys A) {x y : Int32} {off : Int} {tgt : Nat} (hdg : decode cc pc = .ok (.if_icmp .lt off, 3)) (ht : (pc : Int) + off = (tgt : Int)) (kt : x < y → WW p l e R s m args below meth c nL D A k9 n9 Q ws lv tgt rest) (kf : ¬ x < y → WW p l e R s m args below meth c nL D A k9 n9 Q ws lv (pc + 3) rest) : WW p l e R s m args below meth c nL D A k9 n9 Q ws lv pc (.int y :: .int x :: rest) :=
  fun H locs ls hP hD hS hl => lv_icmp_lt X.1 X.2.1 hdg ht (fun q => kt q H locs ls hP hD hS hl) (fun q => kf q H locs ls hP hD hS hl)
theorem ww_icmp_ge (X : CX p s m args meth c cc own Ts nL D tys A) {x y : Int32} {off : Int} {tgt : Nat} (hdg : decode cc pc = .ok (.if_icmp .ge off, 3)) (ht : (pc : Int) + off = (tgt : Int)) (kt : y ≤ x → WW p l e R s m args below meth c nL D A k9 n9 Q ws lv tgt rest) (kf : ¬ y ≤ x → WW p l e R s m args below meth c nL D A k9 n9 Q ws lv (pc + 3) rest) : WW p l e R s m args below meth c nL D A k9 n9 Q ws lv pc (.int y :: .int x :: rest) :=
  fun H locs ls hP hD hS hl => lv_icmp_ge X.1 X.2.1 hdg ht (fun q => kt q H locs ls hP hD hS hl) (fun q => kf q H locs ls hP hD hS hl)
theorem ww_icmp_gt (X : CX p s m args meth c cc own Ts nL D tys A) {x y : Int32} {off : Int} {tgt : Nat} (hdg : decode cc pc = .ok (.if_icmp .gt off, 3)) (ht : (pc : Int) + off = (tgt : Int)) (kt : y < x → WW p l e R s m args below meth c nL D A k9 n9 Q ws lv tgt rest) (kf : ¬ y < x → WW p l e R s m args below meth c nL D A k9 n9 Q ws lv (pc + 3) rest) : WW p l e R s m args below meth c nL D A k9 n9 Q ws lv pc (.int y :: .int x :: rest) :=
  fun H locs ls hP hD hS hl => lv_icmp_gt X.1 X.2.1 hdg ht (fun q => kt q H locs ls hP hD hS hl) (fun q => kf q H locs ls hP hD hS hl)
theorem ww_icmp_le (X : CX p s m args meth c cc own Ts nL D tys A) {x y : Int32} {off : Int} {tgt : Nat} (hdg : decode cc pc = .ok (.if_icmp .le off, 3)) (ht : (pc : Int) + off = (tgt : Int)) (kt : x ≤ y → WW p l e R s m args below meth c nL D A k9 n9 Q ws lv tgt rest) (kf : ¬ x ≤ y → WW p l e R s m args below meth c nL D A k9 n9 Q ws lv (pc + 3) rest) : WW p l e R s m args below meth c nL D A k9 n9 Q ws lv pc (.int y :: .int x :: rest) :=
  fun H locs ls hP hD hS hl => lv_icmp_le X.1 X.2.1 hdg ht (fun q => kt q H locs ls hP hD hS hl) (fun q => kf q H locs ls hP hD hS hl)
theorem ww_goto (X : CX p s m args meth c cc own Ts nL D tys A) {off : Int} {tgt : Nat} (hdg : decode cc pc = .ok (.goto off, 3)) (ht : (pc : Int) + off = (tgt : Int)) (k : WW p l e R s m args below meth c nL D A k9 n9 Q ws lv tgt rest) : WW p l e R s m args below meth c nL D A k9 n9 Q ws lv pc rest :=
  fun H locs ls hP hD hS hl => lv_goto X.1 X.2.1 hdg ht (k H locs ls hP hD hS hl)
theorem ww_tableIn (X : CX p s m args meth c cc own Ts nL D tys A) {dflt lo hi : Int} {offs : Array Int} {len : Nat} {x : Int32} {off : Int} {tgt : Nat} (hdg : decode cc pc = .ok (.tableswitch dflt lo hi offs, len)) (h1 : ¬ x.toInt < lo) (h2 : ¬ hi < x.toInt) (ho : offs[(x.toInt - lo).toNat]? = some off) (ht : (pc : Int) + off = (tgt : Int)) (k : WW p l e R s m args below meth c nL D A k9 n9 Q ws lv tgt rest) : WW p l e R s m args below meth c nL D A k9 n9 Q ws lv pc (.int x :: rest) :=
  fun H locs ls hP hD hS hl => lv_tableIn X.1 X.2.1 hdg h1 h2 ho ht (k H locs ls hP hD hS hl)
theorem ww_tableOut (X : CX p s m args meth c cc own Ts nL D tys A) {dflt lo hi : Int} {offs : Array Int} {len : Nat} {x : Int32} {tgt : Nat} (hdg : decode cc pc = .ok (.tableswitch dflt lo hi offs, len)) (h : x.toInt < lo ∨ hi < x.toInt) (ht : (pc : Int) + dflt = (tgt : Int)) (k : WW p l e R s m args below meth c nL D A k9 n9 Q ws lv tgt rest) : WW p l e R s m args below meth c nL D A k9 n9 Q ws lv pc (.int x :: rest) :=
  fun H locs ls hP hD hS hl => lv_tableOut X.1 X.2.1 hdg h ht (k H locs ls hP hD hS hl)
theorem ww_lookup (X : CX p s m args meth c cc own Ts nL D tys A) {dflt : Int} {ps : Array (Int × Int)} {len : Nat} {x : Int32} {off : Int} {tgt : Nat} (hdg : decode cc pc = .ok (.lookupswitch dflt ps, len)) (hp : (ps.toList.zip (ps.toList.drop 1)).all (fun (a, next) => a.1 < next.1) = true) (ho : Op.lookupswitch.offset ps.toList dflt x.toInt = off) (ht : (pc : Int) + off = (tgt : Int)) (k : WW p l e R s m args below meth c nL D A k9 n9 Q ws lv tgt rest) : WW p l e R s m args below meth c nL D A k9 n9 Q ws lv pc (.int x :: rest) :=
  fun H locs ls hP hD hS hl => lv_lookup X.1 X.2.1 hdg hp ho ht (k H locs ls hP hD hS hl)
theorem ww_ldc (X : CX p s m args meth c cc own Ts nL D tys A) {index : Nat} {v : Int32} (hc : Cond.constant own index v ∈ Ts) (hdg : decode cc pc = .ok (.ldc index, 2)) (k : WW p l e R s m args below meth c nL D A k9 n9 Q ws lv (pc + 2) (.int v :: rest)) : WW p l e R s m args below meth c nL D A k9 n9 Q ws lv pc rest :=
  fun H locs ls hP hD hS hl => lv_ldc X.1 X.2.1 X.2.2.2.1 (X.2.2.2.2.1 _ hc) hdg (k H locs ls hP hD hS hl)
theorem ww_ldc2 (X : CX p s m args meth c cc own Ts nL D tys A) {index : Nat} {v : Int64} (hc : Cond.constantLong own index v ∈ Ts) (hdg : decode cc pc = .ok (.ldc2_w index, 3)) (k : WW p l e R s m args below meth c nL D A k9 n9 Q ws lv (pc + 3) (.long v :: rest)) : WW p l e R s m args below meth c nL D A k9 n9 Q ws lv pc rest :=
  fun H locs ls hP hD hS hl => lv_ldc2 X.1 X.2.1 X.2.2.2.1 (X.2.2.2.2.1 _ hc) hdg (k H locs ls hP hD hS hl)
theorem ww_get (X : CX p s m args meth c cc own Ts nL D tys A) {C : String} {T : u_T} {N ci index a : Nat} (hin : ∀ w ∈ u_ws C T N, w ∈ Ts) (q0 : Nat) {fs : List Value} (he : ws[q0]? = some (a, .inr (ci, fs))) (hc : vwCl[ci]? = some (C, T, N)) (k : Nat) (hk : k < N) (hm : Cond.fieldLink own index (T k).1 (T k).2.1 (T k).2.2.1 ∈ Ts) {v : Value} (hv : fs[k]? = some v) (hdg : decode cc pc = .ok (.getfield index, 3)) (kk : WW p l e R s m args below meth c nL D A k9 n9 Q ws lv (pc + 3) (v :: rest)) : WW p l e R s m args below meth c nL D A k9 n9 Q ws lv pc (.ref a :: rest) :=
  fun H locs ls hP hD hS hl => va_get X.1 X.2.1 X.2.2.2.2.1 hin X.2.2.2.1 X.2.2.2.2.2.1 hP q0 he hc k hk (X.2.2.2.2.1 _ hm) (fun _ h9 => h9) hv hdg (kk H locs ls hP hD hS hl)
theorem ww_put (X : CX p s m args meth c cc own Ts nL D tys A) {C : String} {T : u_T} {N ci index a : Nat} (hin : ∀ w ∈ u_ws C T N, w ∈ Ts) (ty0 : Nat → FieldType) (hty : ∀ k, k < N → parseFieldDescriptor (T k).2.2.1 = some (ty0 k)) (hnm : ∀ a, a < N → ∀ b, b < N → a ≠ b → (T a).2.1 ≠ (T b).2.1) (q0 : Nat) {fs : List Value} (he : ws[q0]? = some (a, .inr (ci, fs))) (hc : vwCl[ci]? = some (C, T, N)) (k : Nat) (hk : k < N) (hm : Cond.fieldLink own index (T k).1 (T k).2.1 (T k).2.2.1 ∈ Ts) (hfin : (T k).2.2.2 = false) {v : Value} (hn : narrow (ty0 k) v = v) (hfit : fits (ty0 k) v = true) (hl9 : k < fs.length) {ws' : va_W} (hw : ws.set q0 (a, .inr (ci, fs.set k v)) = ws') (hdg : decode cc pc = .ok (.putfield index, 3)) (kk : WW p l e R s m args below meth c nL D A k9 n9 Q ws' lv (pc + 3) rest) : WW p l e R s m args below meth c nL D A k9 n9 Q ws lv pc (v :: .ref a :: rest) :=
  fun H locs ls hP hD hS hl => va_put X.1 X.2.1 X.2.2.2.2.1 hin ty0 hty hnm X.2.2.2.1 X.2.2.2.2.2.1 hP hD hS q0 he hc k hk (X.2.2.2.2.1 _ hm) (fun _ h9 => h9) hfin (hty k hk) hn hfit hl9 hdg (fun H1 locs1 hP1 hD1 hS1 => kk H1 locs1 ls (by rw [← hw]; exact hP1) (by rw [← hw]; exact hD1) hS1 hl)
theorem ww_iald (X : CX p s m args meth c cc own Ts nL D tys A) {a : Nat} (q0 t0 : Nat) {cA : ClassId} {n : Nat} {f : Nat → Int32} (ha : ws[q0]? = some (a, .inl (cA, n, .inl f))) (ht : tys[t0]? = some (cA, .int)) {i : Int32} (hin : vp_in i n) (hdg : decode cc pc = .ok (.iaload, 1)) (kk : WW p l e R s m args below meth c nL D A k9 n9 Q ws lv (pc + 1) (.int (f i.toNatClampNeg) :: rest)) : WW p l e R s m args below meth c nL D A k9 n9 Q ws lv pc (.int i :: .ref a :: rest) :=
  fun H locs ls hP hD hS hl => va_iald X.1 X.2.1 X.2.2.2.2.2.1 hP q0 t0 ha ht hin hdg (kk H locs ls hP hD hS hl)
theorem ww_zald (X : CX p s m args meth c cc own Ts nL D tys A) {a : Nat} (q0 t0 : Nat) {cA : ClassId} {n : Nat} {f : Nat → Int32} (ha : ws[q0]? = some (a, .inl (cA, n, .inl f))) (ht : tys[t0]? = some (cA, .boolean)) {i : Int32} (hin : vp_in i n) (hdg : decode cc pc = .ok (.baload, 1)) (kk : WW p l e R s m args below meth c nL D A k9 n9 Q ws lv (pc + 1) (.int (f i.toNatClampNeg) :: rest)) : WW p l e R s m args below meth c nL D A k9 n9 Q ws lv pc (.int i :: .ref a :: rest) :=
  fun H locs ls hP hD hS hl => va_zald X.1 X.2.1 X.2.2.2.2.2.1 hP q0 t0 ha ht hin hdg (kk H locs ls hP hD hS hl)
theorem ww_iast (X : CX p s m args meth c cc own Ts nL D tys A) {a : Nat} (q0 t0 : Nat) {cA : ClassId} {n : Nat} {f : Nat → Int32} (ha : ws[q0]? = some (a, .inl (cA, n, .inl f))) (ht : tys[t0]? = some (cA, .int)) {i : Int32} {x : Int32} (hin : vp_in i n) {ws' : va_W} (hw : ws.set q0 (a, .inl (cA, n, .inl (upd f i.toNatClampNeg x))) = ws') (hdg : decode cc pc = .ok (.iastore, 1)) (kk : WW p l e R s m args below meth c nL D A k9 n9 Q ws' lv (pc + 1) rest) : WW p l e R s m args below meth c nL D A k9 n9 Q ws lv pc (.int x :: .int i :: .ref a :: rest) :=
  fun H locs ls hP hD hS hl => va_iast X.1 X.2.1 X.2.2.2.2.2.1 hP hD hS q0 t0 ha ht hin hdg (fun H1 locs1 hP1 hD1 hS1 => kk H1 locs1 ls (by rw [← hw]; exact hP1) (by rw [← hw]; exact hD1) hS1 hl)
theorem ww_zast (X : CX p s m args meth c cc own Ts nL D tys A) {a : Nat} (q0 t0 : Nat) {cA : ClassId} {n : Nat} {f : Nat → Int32} (ha : ws[q0]? = some (a, .inl (cA, n, .inl f))) (ht : tys[t0]? = some (cA, .boolean)) {i : Int32} {x : Int32} (hin : vp_in i n) (hx : vp_nar .boolean x = x) {ws' : va_W} (hw : ws.set q0 (a, .inl (cA, n, .inl (upd f i.toNatClampNeg x))) = ws') (hdg : decode cc pc = .ok (.bastore, 1)) (kk : WW p l e R s m args below meth c nL D A k9 n9 Q ws' lv (pc + 1) rest) : WW p l e R s m args below meth c nL D A k9 n9 Q ws lv pc (.int x :: .int i :: .ref a :: rest) :=
  fun H locs ls hP hD hS hl => va_zast X.1 X.2.1 X.2.2.2.2.2.1 hP hD hS q0 t0 ha ht hin hdg (fun H1 locs1 hP1 hD1 hS1 => kk H1 locs1 ls (by rw [hx] at hP1; rw [← hw]; exact hP1) (by rw [hx] at hD1; rw [← hw]; exact hD1) hS1 hl)
theorem ww_alen (X : CX p s m args meth c cc own Ts nL D tys A) {a : Nat} (q0 t0 : Nat) {cA : ClassId} {x : vp_A} (ha : ws[q0]? = some (a, .inl (cA, x))) {ty : FieldType} (ht : tys[t0]? = some (cA, ty)) {v : Int32} (hv : Int32.ofNat x.1 = v) (hdg : decode cc pc = .ok (.arraylength, 1)) (kk : WW p l e R s m args below meth c nL D A k9 n9 Q ws lv (pc + 1) (.int v :: rest)) : WW p l e R s m args below meth c nL D A k9 n9 Q ws lv pc (.ref a :: rest) :=
  fun H locs ls hP hD hS hl => va_alen X.1 X.2.1 X.2.2.2.2.2.1 hP q0 t0 ha ht hv hdg (kk H locs ls hP hD hS hl)
theorem ww_mmin (X : CX p s m args meth c cc own Ts nL D tys A) {x y : Int32} {index : Nat} (h1 : Cond.methodLink own index Lib.Math.min.name ∈ Ts) (h2 : Cond.static Lib.Math.min.name ∈ Ts) (h3 : Cond.initialized "java/lang/Math" ∈ Ts) (h4 : Cond.code Lib.Math.min.name Lib.Math.min.code 2 (some .int) ∈ Ts) (hf : 1 ≤ R.frames) (hlo : (rest.map fun v => v.category).sum + 13 ≤ R.locals) (hc : k9 ≤ R.cells) (hs : n9 ≤ R.slots) (hdg : decode cc pc = .ok (.invokestatic index, 3)) (kk : WW p l e R s m args below meth c nL D A k9 n9 Q ws lv (pc + 3) (.int (if y < x then y else x) :: rest)) : WW p l e R s m args below meth c nL D A k9 n9 Q ws lv pc (.int y :: .int x :: rest) :=
  fun H locs ls hP hD hS hl => va_mmin X.1 X.2.1 (X.2.2.1.trans hl.1.symm) X.2.2.2.1 (X.2.2.2.2.1 _ h1) (X.2.2.2.2.1 _ h2) (X.2.2.2.2.1 _ h3) (X.2.2.2.2.1 _ h4) hf hlo hc hs hdg (kk H locs ls hP hD hS hl)
theorem ww_mmax (X : CX p s m args meth c cc own Ts nL D tys A) {x y : Int32} {index : Nat} (h1 : Cond.methodLink own index Lib.Math.max.name ∈ Ts) (h2 : Cond.static Lib.Math.max.name ∈ Ts) (h3 : Cond.initialized "java/lang/Math" ∈ Ts) (h4 : Cond.code Lib.Math.max.name Lib.Math.max.code 2 (some .int) ∈ Ts) (hf : 1 ≤ R.frames) (hlo : (rest.map fun v => v.category).sum + 13 ≤ R.locals) (hc : k9 ≤ R.cells) (hs : n9 ≤ R.slots) (hdg : decode cc pc = .ok (.invokestatic index, 3)) (kk : WW p l e R s m args below meth c nL D A k9 n9 Q ws lv (pc + 3) (.int (if x < y then y else x) :: rest)) : WW p l e R s m args below meth c nL D A k9 n9 Q ws lv pc (.int y :: .int x :: rest) :=
  fun H locs ls hP hD hS hl => va_mmax X.1 X.2.1 (X.2.2.1.trans hl.1.symm) X.2.2.2.1 (X.2.2.2.2.1 _ h1) (X.2.2.2.2.1 _ h2) (X.2.2.2.2.1 _ h3) (X.2.2.2.2.1 _ h4) hf hlo hc hs hdg (kk H locs ls hP hD hS hl)
theorem ww_mabs (X : CX p s m args meth c cc own Ts nL D tys A) {x : Int32} {index : Nat} (h1 : Cond.methodLink own index Lib.Math.abs.name ∈ Ts) (h2 : Cond.static Lib.Math.abs.name ∈ Ts) (h3 : Cond.initialized "java/lang/Math" ∈ Ts) (h4 : Cond.code Lib.Math.abs.name Lib.Math.abs.code 1 (some .int) ∈ Ts) (hf : 1 ≤ R.frames) (hlo : (rest.map fun v => v.category).sum + 13 ≤ R.locals) (hc : k9 ≤ R.cells) (hs : n9 ≤ R.slots) (hdg : decode cc pc = .ok (.invokestatic index, 3)) (kk : WW p l e R s m args below meth c nL D A k9 n9 Q ws lv (pc + 3) (.int (if 0 ≤ x then x else 0 - x) :: rest)) : WW p l e R s m args below meth c nL D A k9 n9 Q ws lv pc (.int x :: rest) :=
  fun H locs ls hP hD hS hl => va_mabs X.1 X.2.1 (X.2.2.1.trans hl.1.symm) X.2.2.2.1 (X.2.2.2.2.1 _ h1) (X.2.2.2.2.1 _ h2) (X.2.2.2.2.1 _ h3) (X.2.2.2.2.1 _ h4) hf hlo hc hs hdg (kk H locs ls hP hD hS hl)
theorem ww_iret {r v : Int32} {w1 : va_W} {ty : FieldType} (X : CX p s m args meth c cc own Ts nL D tys A) (hr : meth.sig.returnType = some ty) (hn : narrow ty (.int v) = .int v) (hv : v = r) (hw : ws = w1) (hdg : decode cc pc = .ok (.ireturn, 1)) : WW p l e R s m args below meth c nL D A 0 0 (RQi below args s D A r w1) ws lv pc [.int v] :=
  fun H locs ls hP hD hS hl => W.zret X.1 X.2.1 hr hn (fun t ht hW => ⟨⟨v, (), rfl, hv, by rw [ht, ← hw]; exact hP, by rw [← hw]; exact hD⟩, hS.F ht⟩) hS.2.2 hdg X.2.2.2.2.2.2.2
theorem ww_vret {w1 : va_W} (X : CX p s m args meth c cc own Ts nL D tys A) (hr : meth.sig.returnType = none) (hw : ws = w1) (hdg : decode cc pc = .ok (.return_, 1)) : WW p l e R s m args below meth c nL D A 0 0 (RQv below args s D A w1) ws lv pc [] :=
  fun H locs ls hP hD hS hl => W.vret X.1 X.2.1 hr (fun t ht hW => ⟨⟨(), rfl, trivial, by rw [ht, ← hw]; exact hP, by rw [← hw]; exact hD⟩, hS.F ht⟩) hS.2.2 hdg X.2.2.2.2.2.2.2
end WWrows
theorem ci_of {l : Launch} {y : MethodName} {wsC ws' : List Cond} {rm : Room} {D : va_G} {tys : List (ClassId × FieldType)} {av : List Value} {w0 w1 : va_W} {r : Int32} {cc : ByteArray} {nL : Nat} {ty : FieldType} {lv0 : List (Nat × Value)}
    (hy : plainName y.cls = true) (hw : wsC = Cond.code y cc nL (some ty) :: ws') (hle : (lg_sl av).length ≤ nL) (hlv : lv_args 0 av = lv0)
    (body : ∀ (p : Program) (e : Env) (s : State) (m : MethodId) (args : Array Value) (below : List Frame) (meth : Method) (c : Code) (A : Nat → Prop), CX p s m args meth c cc y.cls wsC nL D tys A → meth.sig.returnType = some ty → WW p l e (headSpec wsC rm).room s m args below meth c nL D A 0 0 (RQi below args s D A r w1) w0 lv0 0 []) : Ci l y wsC rm D tys av w0 r w1 := by
  intro sz
  refine Met.ofW (cc := cc) (maxL := nL) (ret := some ty) hy hw ?_
  intro p e s m args below meth c s₁ B hml hv
  obtain ⟨rfl, hsz, hP, hK, hD0⟩ := hv
  subst hsz
  have hl := lv_entry av (n := nL) hle
  rw [hlv] at hl
  rw [lg_entry_eq]
  exact body p e s m _ below meth c (va_A w0 s.heap.size) ⟨B.exec, B.bytes, hml, findClass_of_methodNamed B.named, atoms_spec (ws := wsC) B.pre, hK, fun q h => Or.inr h, B.notSynchronized⟩ B.returns s.heap [] _ hP (hD0.self (sz := s.heap.size)) va_S.rf hl
theorem cv_of {l : Launch} {y : MethodName} {wsC ws' : List Cond} {rm : Room} {D : va_G} {tys : List (ClassId × FieldType)} {av : List Value} {w0 w1 : va_W} {cc : ByteArray} {nL : Nat} {lv0 : List (Nat × Value)}
    (hy : plainName y.cls = true) (hw : wsC = Cond.code y cc nL none :: ws') (hle : (lg_sl av).length ≤ nL) (hlv : lv_args 0 av = lv0)
    (body : ∀ (p : Program) (e : Env) (s : State) (m : MethodId) (args : Array Value) (below : List Frame) (meth : Method) (c : Code) (A : Nat → Prop), CX p s m args meth c cc y.cls wsC nL D tys A → meth.sig.returnType = none → WW p l e (headSpec wsC rm).room s m args below meth c nL D A 0 0 (RQv below args s D A w1) w0 lv0 0 []) : Cv l y wsC rm D tys av w0 w1 := by
  intro sz
  refine Met.ofW (cc := cc) (maxL := nL) (ret := none) hy hw ?_
  intro p e s m args below meth c s₁ B hml hv
  obtain ⟨rfl, hsz, hP, hK, hD0⟩ := hv
  subst hsz
  have hl := lv_entry av (n := nL) hle
  rw [hlv] at hl
  rw [lg_entry_eq]
  exact body p e s m _ below meth c (va_A w0 s.heap.size) ⟨B.exec, B.bytes, hml, findClass_of_methodNamed B.named, atoms_spec (ws := wsC) B.pre, hK, fun q h => Or.inr h, B.notSynchronized⟩ B.returns s.heap [] _ hP (hD0.self (sz := s.heap.size)) va_S.rf hl
section WWcalls
variable {p : Program} {l : Launch} {e : Env} {R : Room} {s : State} {m : MethodId} {args : Array Value} {below : List Frame} {meth : Method} {c : Code} {Q : State → Prop} {D : va_G} {A : Nat → Prop} {tys : List (ClassId × FieldType)} {nL k9 n9 : Nat} {cc : ByteArray} {own : String} {Ts : List Cond} {ws : va_W} {lv : List (Nat × Value)} {pc : Nat} {rest : List Value}
variable {y : MethodName} {bytes : ByteArray} {maxL index : Nat} {ret : Option FieldType} {wsC ws' : List Cond} {rm : Room} {C : String} {b : Nat} {As st : List Value} {w0 w1 wsN : va_W} {r : Int32}
theorem w_blind {D : va_G} {tys : List (ClassId × FieldType)} {av : List Value} {w0 : va_W} {sz : Nat} : FrameBlind (va_Pc av (fun U => U.heap.size = sz ∧ va_P D vwCl w0 U.heap ∧ va_K D vwCl tys U ∧ va_D (fun _ => True) w0)) :=
  fun a U g mk q => by obtain ⟨q0, q1, qP, qK, qD⟩ := q; exact ⟨q0, q1, qP, va_K.moved (u := U) (U := U.calling g mk a) (Vm.Alike.refl U.vm) qK, qD⟩
theorem w_pre {D : va_G} {tys : List (ClassId × FieldType)} {av : List Value} {w0 : va_W} {A : Nat → Prop} {s : State} {H : Heap} (hP : va_P D vwCl w0 H) (hK : va_K D vwCl tys s) (hD : va_D A w0) : ∀ U : State, U.heap = H → s.WarmedH U.vm → va_Pc av (fun U => U.heap.size = H.size ∧ va_P D vwCl w0 U.heap ∧ va_K D vwCl tys U ∧ va_D (fun _ => True) w0) av.toArray U :=
  fun U hU hW => ⟨rfl, by rw [hU], by rw [hU]; exact hP, va_K.moved hW.alike hK, hD.weaken (fun _ _ _ _ => trivial)⟩
theorem w_subP {D : va_G} {cl : List vw_C} {ws wc : va_W} {H : Heap} (hP : va_P D cl ws H) (isC : List Nat) (hC : isC.map (fun i => ws[i]?) = wc.map some) : va_P D cl wc H := by
  intro k q hq
  have h1 : (isC.map (fun i => ws[i]?))[k]? = some (some q) := by rw [hC, List.getElem?_map, hq]; rfl
  rw [List.getElem?_map] at h1
  cases hi : isC[k]? with
  | none => rw [hi] at h1; cases h1
  | some i => rw [hi] at h1; exact hP i q (Option.some.inj h1)
/-- a call of a method of an object -/
theorem ww_cVi (X : CX p s m args meth c cc own Ts nL D tys A) (hM : Ci l y wsC rm D tys (.ref b :: As) w0 r w1) (hG : GoodIn Ts (wsV own index C y wsC)) (hw : wsC = Cond.code y bytes maxL ret :: ws') (hd : y.cls = C ∧ y.cls ≠ "java/lang/invoke/MethodHandle" ∧ y.cls ≠ "java/lang/invoke/VarHandle" ∧ (parseMethodDescriptor y.desc).map (fun d => d.parameters.length) = some As.length) (isC : List Nat) (hC : isC.map (fun i => ws[i]?) = w0.map some) (hnd : va_nd isC = true) (hadr : w1.map Prod.fst = w0.map Prod.fst) (hwN : wput ws isC w1 = wsN) {ci q0 : Nat} {qc : vw_C} {fs : List Value} (hci : vwCl[ci]? = some qc) (hcn : qc.1 = C) (hrc : w0[q0]? = some (b, .inr (ci, fs))) (hst : st = As.reverse ++ .ref b :: rest) (hrm : rm.cells = 0 ∧ rm.slots = 0) (hR : rm.frames + 1 ≤ R.frames ∧ 8 + (maxL + 11) + rm.locals ≤ R.locals) (hrest : (rest.map fun v => v.category).sum ≤ 8) (hf : k9 ≤ R.cells ∧ n9 ≤ R.slots) (hdg : decode cc pc = .ok (.invokevirtual index, 3)) (kk : WW p l e R s m args below meth c nL D A k9 n9 Q wsN lv (pc + 3) (.int r :: rest)) : WW p l e R s m args below meth c nL D A k9 n9 Q ws lv pc st := by
  intro H locs ls hP hD hS hl
  have hPc := w_subP hP isC hC
  have hDc := hD.sub isC hnd hC
  have hFc := va_free (wc := w0) hD hS X.2.2.2.2.2.2.1 isC hC
  refine va_calli (va_runV (As := As) (rest := rest) (b := b) (C := C) ⟨X.1, X.2.1, X.2.2.1, X.2.2.2.1, X.2.2.2.2.1⟩ (hM H.size) (cwV As.length X.2.2.2.2.1 hG hw hrm.1 hrm.2 hd hR) ⟨w_blind, by rw [← hcn]; exact va_recv X.2.2.2.2.2.1 hPc hci hrc, w_pre hPc X.2.2.2.2.2.1 hDc⟩ rfl rfl hl.1 hst (lv_room hrest) hdg hf) hS (fun q _ h => hFc q h) hFc (fun r9 u t H1 locs1 ht hvm hw9 hB hz1 hk1 hS1 => ?_)
  obtain ⟨hP1, hD1⟩ := hB
  rw [ht] at hP1
  obtain ⟨hPn, hDn⟩ := w_join hP hD isC hC hadr hk1 hP1
  rw [hwN] at hPn hDn
  subst hw9
  exact kk H1 locs1 ls hPn hDn hS1 hl
/-- a call of a static method of the same home -/
theorem ww_cSi (X : CX p s m args meth c cc own Ts nL D tys A) (hM : Ci l y wsC rm D tys As w0 r w1) (hG : GoodIn Ts (wsS own index y wsC)) (hw : wsC = Cond.code y bytes maxL ret :: ws') (hd : y.cls = own ∧ y.cls ≠ "java/lang/invoke/MethodHandle" ∧ y.cls ≠ "java/lang/invoke/VarHandle" ∧ (parseMethodDescriptor y.desc).map (fun d => d.parameters.length) = some As.length) (isC : List Nat) (hC : isC.map (fun i => ws[i]?) = w0.map some) (hnd : va_nd isC = true) (hadr : w1.map Prod.fst = w0.map Prod.fst) (hwN : wput ws isC w1 = wsN) (hst : st = As.reverse ++ rest) (hrm : rm.cells = 0 ∧ rm.slots = 0) (hR : rm.frames + 1 ≤ R.frames ∧ 8 + (maxL + 11) + rm.locals ≤ R.locals) (hrest : (rest.map fun v => v.category).sum ≤ 8) (hf : k9 ≤ R.cells ∧ n9 ≤ R.slots) (hdg : decode cc pc = .ok (.invokestatic index, 3)) (kk : WW p l e R s m args below meth c nL D A k9 n9 Q wsN lv (pc + 3) (.int r :: rest)) : WW p l e R s m args below meth c nL D A k9 n9 Q ws lv pc st := by
  intro H locs ls hP hD hS hl
  have hPc := w_subP hP isC hC
  have hDc := hD.sub isC hnd hC
  have hFc := va_free (wc := w0) hD hS X.2.2.2.2.2.2.1 isC hC
  refine va_calli (va_runS (As := As) (rest := rest) ⟨X.1, X.2.1, X.2.2.1, X.2.2.2.1, X.2.2.2.2.1⟩ (hM H.size) (cwS As.length X.2.2.2.2.1 hG hw hrm.1 hrm.2 hd hR) ⟨w_blind, w_pre hPc X.2.2.2.2.2.1 hDc⟩ rfl rfl hl.1 hst (lv_room hrest) hdg hf) hS (fun q _ h => hFc q h) hFc (fun r9 u t H1 locs1 ht hvm hw9 hB hz1 hk1 hS1 => ?_)
  obtain ⟨hP1, hD1⟩ := hB
  rw [ht] at hP1
  obtain ⟨hPn, hDn⟩ := w_join hP hD isC hC hadr hk1 hP1
  rw [hwN] at hPn hDn
  subst hw9
  exact kk H1 locs1 ls hPn hDn hS1 hl
/-- a call of a method of an object -/
theorem ww_cVv (X : CX p s m args meth c cc own Ts nL D tys A) (hM : Cv l y wsC rm D tys (.ref b :: As) w0 w1) (hG : GoodIn Ts (wsV own index C y wsC)) (hw : wsC = Cond.code y bytes maxL ret :: ws') (hd : y.cls = C ∧ y.cls ≠ "java/lang/invoke/MethodHandle" ∧ y.cls ≠ "java/lang/invoke/VarHandle" ∧ (parseMethodDescriptor y.desc).map (fun d => d.parameters.length) = some As.length) (isC : List Nat) (hC : isC.map (fun i => ws[i]?) = w0.map some) (hnd : va_nd isC = true) (hadr : w1.map Prod.fst = w0.map Prod.fst) (hwN : wput ws isC w1 = wsN) {ci q0 : Nat} {qc : vw_C} {fs : List Value} (hci : vwCl[ci]? = some qc) (hcn : qc.1 = C) (hrc : w0[q0]? = some (b, .inr (ci, fs))) (hst : st = As.reverse ++ .ref b :: rest) (hrm : rm.cells = 0 ∧ rm.slots = 0) (hR : rm.frames + 1 ≤ R.frames ∧ 8 + (maxL + 11) + rm.locals ≤ R.locals) (hrest : (rest.map fun v => v.category).sum ≤ 8) (hf : k9 ≤ R.cells ∧ n9 ≤ R.slots) (hdg : decode cc pc = .ok (.invokevirtual index, 3)) (kk : WW p l e R s m args below meth c nL D A k9 n9 Q wsN lv (pc + 3) (rest)) : WW p l e R s m args below meth c nL D A k9 n9 Q ws lv pc st := by
  intro H locs ls hP hD hS hl
  have hPc := w_subP hP isC hC
  have hDc := hD.sub isC hnd hC
  have hFc := va_free (wc := w0) hD hS X.2.2.2.2.2.2.1 isC hC
  refine va_callv (va_runV (As := As) (rest := rest) (b := b) (C := C) ⟨X.1, X.2.1, X.2.2.1, X.2.2.2.1, X.2.2.2.2.1⟩ (hM H.size) (cwV As.length X.2.2.2.2.1 hG hw hrm.1 hrm.2 hd hR) ⟨w_blind, by rw [← hcn]; exact va_recv X.2.2.2.2.2.1 hPc hci hrc, w_pre hPc X.2.2.2.2.2.1 hDc⟩ rfl rfl hl.1 hst (lv_room hrest) hdg hf) hS (fun q _ h => hFc q h) hFc (fun u t H1 locs1 ht hvm hw9 hB hz1 hk1 hS1 => ?_)
  obtain ⟨hP1, hD1⟩ := hB
  rw [ht] at hP1
  obtain ⟨hPn, hDn⟩ := w_join hP hD isC hC hadr hk1 hP1
  rw [hwN] at hPn hDn
  exact kk H1 locs1 ls hPn hDn hS1 hl
/-- a call of a static method of the same home -/
theorem ww_cSv (X : CX p s m args meth c cc own Ts nL D tys A) (hM : Cv l y wsC rm D tys As w0 w1) (hG : GoodIn Ts (wsS own index y wsC)) (hw : wsC = Cond.code y bytes maxL ret :: ws') (hd : y.cls = own ∧ y.cls ≠ "java/lang/invoke/MethodHandle" ∧ y.cls ≠ "java/lang/invoke/VarHandle" ∧ (parseMethodDescriptor y.desc).map (fun d => d.parameters.length) = some As.length) (isC : List Nat) (hC : isC.map (fun i => ws[i]?) = w0.map some) (hnd : va_nd isC = true) (hadr : w1.map Prod.fst = w0.map Prod.fst) (hwN : wput ws isC w1 = wsN) (hst : st = As.reverse ++ rest) (hrm : rm.cells = 0 ∧ rm.slots = 0) (hR : rm.frames + 1 ≤ R.frames ∧ 8 + (maxL + 11) + rm.locals ≤ R.locals) (hrest : (rest.map fun v => v.category).sum ≤ 8) (hf : k9 ≤ R.cells ∧ n9 ≤ R.slots) (hdg : decode cc pc = .ok (.invokestatic index, 3)) (kk : WW p l e R s m args below meth c nL D A k9 n9 Q wsN lv (pc + 3) (rest)) : WW p l e R s m args below meth c nL D A k9 n9 Q ws lv pc st := by
  intro H locs ls hP hD hS hl
  have hPc := w_subP hP isC hC
  have hDc := hD.sub isC hnd hC
  have hFc := va_free (wc := w0) hD hS X.2.2.2.2.2.2.1 isC hC
  refine va_callv (va_runS (As := As) (rest := rest) ⟨X.1, X.2.1, X.2.2.1, X.2.2.2.1, X.2.2.2.2.1⟩ (hM H.size) (cwS As.length X.2.2.2.2.1 hG hw hrm.1 hrm.2 hd hR) ⟨w_blind, w_pre hPc X.2.2.2.2.2.1 hDc⟩ rfl rfl hl.1 hst (lv_room hrest) hdg hf) hS (fun q _ h => hFc q h) hFc (fun u t H1 locs1 ht hvm hw9 hB hz1 hk1 hS1 => ?_)
  obtain ⟨hP1, hD1⟩ := hB
  rw [ht] at hP1
  obtain ⟨hPn, hDn⟩ := w_join hP hD isC hC hadr hk1 hP1
  rw [hwN] at hPn hDn
  exact kk H1 locs1 ls hPn hDn hS1 hl
end WWcalls
end
section
theorem vl_in {x : Int32} {n : Nat} (h : (decide (0 ≤ x.toInt) && decide (x.toInt < (n : Int))) = true) : vp_in x n := by
  rw [Bool.and_eq_true, decide_eq_true_eq, decide_eq_true_eq] at h
  exact vp_in_iff.mpr h
theorem vn {x : Int32} {m n : Nat} (hx : x = nI m) (h : m < n) (hn : n < 2 ^ 31) : vp_in x n := by
  rw [hx]
  exact vp_in_nI h hn
theorem nat_iadd {x y : Int32} {a b : Nat} (hx : x = nI a) (hy : y = nI b) : x + y = nI (a + b) := by
  rw [hx, hy, nI_add]
theorem nat_imul {x y : Int32} {a b : Nat} (hx : x = nI a) (hy : y = nI b) : x * y = nI (a * b) := by
  rw [hx, hy, pk_mul]
theorem cl_eq {x : Int32} (h : ¬ x < 0) : x = nI x.toNatClampNeg := by
  obtain ⟨j, hj, rfl⟩ := nI_of h
  rw [nI_clamp hj]
theorem cl_lt (x : Int32) : x.toNatClampNeg < 2 ^ 31 := by
  rcases Int.lt_or_le x.toInt 0 with h | h
  · have : x.toNatClampNeg = 0 := by
      show x.toInt.toNat = 0
      omega
    omega
  · have h2 := Int32.toInt_lt x
    show x.toInt.toNat < 2 ^ 31
    omega
theorem lp_ge0 {bx : Int32} {B j : Nat} (hB : bx = nI B) (h : B ≤ j) (hj : j < 2 ^ 31) : bx ≤ nI j := by
  rw [hB]
  exact nI_le h hj
theorem lp_ge1 {bx : Int32} {B j : Nat} (hB : bx = nI B) (h : j < B) (hb : B < 2 ^ 31) : ¬ bx ≤ nI j := by
  rw [hB]
  exact nI_ge h hb
theorem lp_gt0 {bx : Int32} {b j : Nat} (hB : bx = nI b) (h : b + 1 ≤ j) (hj : j < 2 ^ 31) : bx < nI j := by
  rw [hB]
  exact nI_lt h hj
theorem lp_gt1 {bx : Int32} {b j : Nat} (hB : bx = nI b) (h : j < b + 1) (hb : b + 1 < 2 ^ 31) : ¬ bx < nI j := by
  rw [hB]
  exact nI_nlt (by omega) (by omega)
theorem lp_ge0c {bx : Int32} {j : Nat} (h : bx.toNatClampNeg ≤ j) (hj : j < 2 ^ 31) : bx ≤ nI j := by
  rw [Int32.le_iff_toInt_le, nI_toInt hj]
  have : bx.toInt.toNat ≤ j := h
  omega
theorem lp_ge1c {bx : Int32} {j : Nat} (h : j < bx.toNatClampNeg) : ¬ bx ≤ nI j := by
  have h2 : j < bx.toInt.toNat := h
  have h3 := Int32.toInt_lt bx
  rw [Int32.le_iff_toInt_le, nI_toInt (by omega)]
  omega
theorem vp_off {x c : Int32} {k n N : Nat} (h : vp_in x n) (hc : c = nI k) (hN : k + n ≤ N) (hs : N < 2 ^ 31) : vp_in (c + x) N := by
  obtain ⟨j, hj, rfl⟩ := vp_in_of h (by omega)
  rw [hc, nI_add]
  exact vp_in_nI (by omega) hs
theorem vp_mono {x : Int32} {n N : Nat} (h : vp_in x n) (hN : n ≤ N) : vp_in x N := fun q => h (q.elim Or.inl (fun q => Or.inr (Nat.le_trans hN q)))
theorem vin_lt {x N : Int32} {n : Nat} (h0 : ¬ x < 0) (h : x < N) (hN : N = nI n) : vp_in x n := by
  obtain ⟨j, hj, rfl⟩ := nI_of h0
  intro q
  rcases q with q | q
  · exact h0 q
  · rw [nI_clamp hj] at q
    rw [hN] at h
    exact nI_nlt q hj h
theorem vin_nge {x N : Int32} {n : Nat} (h0 : ¬ x < 0) (h : ¬ N ≤ x) (hN : N = nI n) : vp_in x n := vin_lt h0 (Int32.not_le.mp h) hN
theorem vin_ne {x N : Int32} {n : Nat} (h0 : ¬ x < 0) (h1 : x ≤ N) (h : ¬ x = N) (hN : N = nI n) : vp_in x n := by
  refine vin_lt h0 ?_ hN
  rw [Int32.lt_iff_toInt_lt]
  rw [Int32.le_iff_toInt_le] at h1
  have : x.toInt ≠ N.toInt := fun e => h (Int32.toInt_inj.mp e)
  omega
theorem ne_nle {x : Int32} (h : ¬ x ≤ 0) : ¬ x = 0 := fun e => h (by rw [e]; decide)
theorem aq {i : Int32} {k b n : Nat} {r : Nat → Nat} (h : i = nI k) (hk : k < n) (hn : n < 2 ^ 31 := by decide) : (fun z => if z < n then some (r (b + z)) else none) i.toNatClampNeg = some (r (b + k)) := by
  subst h
  simp only [nI_clamp (show k < 2 ^ 31 by omega), if_pos hk]
theorem c2_ {P : Nat → Prop} (h0 : P 0) (h1 : P 1) {k : Nat} (hk : k < 2) : P k := by
  rcases (show k = 0 ∨ k = 1 by omega) with rfl | rfl
  · exact h0
  · exact h1
theorem c6_ {P : Nat → Prop} (h0 : P 0) (h1 : P 1) (h2 : P 2) (h3 : P 3) (h4 : P 4) (h5 : P 5) {k : Nat} (hk : k < 6) : P k := by
  rcases (show k = 0 ∨ k = 1 ∨ k = 2 ∨ k = 3 ∨ k = 4 ∨ k = 5 by omega) with rfl | rfl | rfl | rfl | rfl | rfl
  · exact h0
  · exact h1
  · exact h2
  · exact h3
  · exact h4
  · exact h5
theorem c20_ {P : Nat → Prop} (h0 : P 0) (h1 : P 1) (h2 : P 2) (h3 : P 3) (h4 : P 4) (h5 : P 5) (h6 : P 6) (h7 : P 7) (h8 : P 8) (h9 : P 9) (h10 : P 10) (h11 : P 11) (h12 : P 12) (h13 : P 13) (h14 : P 14) (h15 : P 15) (h16 : P 16) (h17 : P 17) (h18 : P 18) (h19 : P 19) {k : Nat} (hk : k < 20) : P k := by
  rcases (show k = 0 ∨ k = 1 ∨ k = 2 ∨ k = 3 ∨ k = 4 ∨ k = 5 ∨ k = 6 ∨ k = 7 ∨ k = 8 ∨ k = 9 ∨ k = 10 ∨ k = 11 ∨ k = 12 ∨ k = 13 ∨ k = 14 ∨ k = 15 ∨ k = 16 ∨ k = 17 ∨ k = 18 ∨ k = 19 by omega) with rfl | rfl | rfl | rfl | rfl | rfl | rfl | rfl | rfl | rfl | rfl | rfl | rfl | rfl | rfl | rfl | rfl | rfl | rfl | rfl
  · exact h0
  · exact h1
  · exact h2
  · exact h3
  · exact h4
  · exact h5
  · exact h6
  · exact h7
  · exact h8
  · exact h9
  · exact h10
  · exact h11
  · exact h12
  · exact h13
  · exact h14
  · exact h15
  · exact h16
  · exact h17
  · exact h18
  · exact h19
theorem clb {x : Int32} {n : Nat} (h : vp_in x n) : x.toNatClampNeg < n := Nat.not_le.mp fun q => h (Or.inr q)
theorem cl_of {x : Int32} {n : Nat} (h : vp_in x n) : x = nI x.toNatClampNeg := cl_eq (fun q => h (Or.inl q))
section WWmore
variable {p : Program} {l : Launch} {e : Env} {R : Room} {s : State} {m : MethodId} {args : Array Value} {below : List Frame} {meth : Method} {c : Code} {Q : State → Prop} {D : va_G} {A : Nat → Prop} {nL k9 n9 : Nat} {ws ws' : va_W} {lv lv' : List (Nat × Value)} {pc : Nat} {st : List Value}
theorem ww_lsub (ks : List Nat) (hl : lv_pick lv ks = lv') (k : WW p l e R s m args below meth c nL D A k9 n9 Q ws lv' pc st) : WW p l e R s m args below meth c nL D A k9 n9 Q ws lv pc st :=
  fun H locs ls hP hD hS h => k H locs ls hP hD hS (lv_sub h ks hl)
theorem ww_cast (hw : ws = ws') (hl : lv = lv') (k : WW p l e R s m args below meth c nL D A k9 n9 Q ws lv pc st) : WW p l e R s m args below meth c nL D A k9 n9 Q ws' lv' pc st := by
  subst hw
  subst hl
  exact k
theorem ww_aald {cc : ByteArray} {own : String} {Ts : List Cond} {tys : List (ClassId × FieldType)} {rest : List Value} (X : CX p s m args meth c cc own Ts nL D tys A) {a : Nat} (q0 t0 : Nat) {cA : ClassId} {ty : FieldType} {n q : Nat} {f : Nat → Option Nat} (ha : ws[q0]? = some (a, .inl (cA, n, .inr (.inr (.inr (.inr f)))))) (ht : tys[t0]? = some (cA, .array ty)) {i : Int32} (hin : vp_in i n) (hq : f i.toNatClampNeg = some q) (hdg : decode cc pc = .ok (.aaload, 1)) (kk : WW p l e R s m args below meth c nL D A k9 n9 Q ws lv (pc + 1) (.ref q :: rest)) : WW p l e R s m args below meth c nL D A k9 n9 Q ws lv pc (.int i :: .ref a :: rest) := by
  intro H locs ls hP hD hS hl
  have hlt : i.toNatClampNeg < n := Nat.not_le.mp fun z => hin (Or.inr z)
  refine W.aald (v := .ref q) (ty := .array ty) X.1 X.2.1 (hP q0 _ ha) ((X.2.2.2.2.2.1.2 t0 _ ht).1 n (fun j => va_rf (f j))) rfl (fun z => by cases z) (by show ¬ (i < 0 ∨ (arrV _ _ _).slots.size ≤ _); rw [arrV_size]; exact hin) (by show (arrV _ _ _).slots[_]? = _; rw [arrV_read _ _ hlt, hq]; rfl) rfl rfl hdg (kk H locs ls hP hD hS hl)
theorem ww_castI {σ : Type} (F : σ → va_W) (G : σ → Int32 → List (Nat × Value)) {u u' : σ} {j : Nat} (h : u = u') (k : WW p l e R s m args below meth c nL D A k9 n9 Q (F u) (G u (nI (j + 1))) pc st) : WW p l e R s m args below meth c nL D A k9 n9 Q (F u') (G u' (nI j + 1)) pc st := by
  subst h
  rw [nI_1]
  exact k
theorem ww_copyi {cc : ByteArray} {own : String} {Ts : List Cond} {tys : List (ClassId × FieldType)} {rest : List Value} (X : CX p s m args meth c cc own Ts nL D tys A) {index : Nat} (h1 : Cond.methodLink own index arraycopyName ∈ Ts) (h2 : Cond.native arraycopyName ∈ Ts) (h3 : Cond.static arraycopyName ∈ Ts) (h4 : Cond.initialized "java/lang/System" ∈ Ts) (q0 q1 t0 t1 : Nat) {a a0 : Nat} {c0 c1 : ClassId} {n0 n1 : Nat} {f g : Nat → Int32} (ha0 : ws[q0]? = some (a0, .inl (c0, n0, .inl f))) (ha1 : ws[q1]? = some (a, .inl (c1, n1, .inl g))) (ht0 : tys[t0]? = some (c0, .int)) (ht1 : tys[t1]? = some (c1, .int))
    {sp dp n : Int32} (g1 : ¬ sp < 0) (g2 : ¬ dp < 0) (g3 : ¬ n < 0) (g4 : sp.toNatClampNeg + n.toNatClampNeg ≤ n0) (g5 : dp.toNatClampNeg + n.toNatClampNeg ≤ n1) (hf : 1 ≤ R.frames) (hlo : (rest.map fun v => v.category).sum + (nativeFrameWords "java/lang/System" "arraycopy" 5 + 11) ≤ R.locals) {ws'' : va_W} (hw : ws.set q1 (a, .inl (c1, n1, .inl (va_cpy f g sp.toNatClampNeg dp.toNatClampNeg n.toNatClampNeg))) = ws'') (hdg : decode cc pc = .ok (.invokestatic index, 3))
    (kk : WW p l e R s m args below meth c nL D A k9 n9 Q ws'' lv (pc + 3) rest) : WW p l e R s m args below meth c nL D A k9 n9 Q ws lv pc (.int n :: .int dp :: .ref a :: .int sp :: .ref a0 :: rest) :=
  fun H locs ls hP hD hS hl => va_copyi X.1 X.2.1 (X.2.2.1.trans hl.1.symm) X.2.2.2.1 (X.2.2.2.2.1 _ h1) (X.2.2.2.2.1 _ h2) (X.2.2.2.2.1 _ h3) (X.2.2.2.2.1 _ h4) X.2.2.2.2.2.1 hP hD hS q0 q1 t0 t1 ha0 ha1 ht0 ht1 rfl g1 g2 g3 g4 g5 (fun _ _ => rfl) hf hlo hdg (fun H1 locs1 hP1 hD1 hS1 => kk H1 locs1 ls (by rw [← hw]; exact hP1) (by rw [← hw]; exact hD1) hS1 hl)
end WWmore
end
section
abbrev St : Type := (Nat → Int32) × (Nat → Nat → Int32)
def sI (S : St) (k : Nat) (v : Int32) : St := (upd S.1 k v, S.2)
def sA (S : St) (j : Nat) (f : Nat → Int32) : St := (S.1, va_up S.2 j f)
abbrev tyL (cI cZ cQ : ClassId) : List (ClassId × FieldType) := [(cI, .int), (cZ, .boolean), (cQ, .array .int)]
abbrev wX0 (cI cZ cQ : ClassId) (r : Nat → Nat) (S : St) : va_W := [(r 0, .inr (0, [.ref (r 1), .ref (r 2), .int (S.1 0)])), (r 1, .inl (cI, 15, .inl (S.2 0))), (r 2, .inl (cI, 15, .inl (S.2 1)))]
abbrev wX1 (cI cZ cQ : ClassId) (r : Nat → Nat) (S : St) : va_W := [(r 0, .inr (1, [.ref (r 1), .ref (r 2), .ref (r 3), .int (S.1 0), .ref (r 4), .int (S.1 1), .ref (r 5), .int (S.1 2), .int (S.1 3)])), (r 1, .inl (cI, 6, .inl (S.2 0))), (r 2, .inl (cI, 6, .inl (S.2 1))), (r 3, .inl (cI, 6, .inl (S.2 2))), (r 4, .inl (cQ, 6, .inr (.inr (.inr (.inr (fun i => if i < 6 then some (r (6 + i)) else none)))))), (r 5, .inl (cI, 124, .inl (S.2 3))), (r 6, .inl (cI, 124, .inl (S.2 4))), (r 7, .inl (cI, 124, .inl (S.2 5))), (r 8, .inl (cI, 124, .inl (S.2 6))), (r 9, .inl (cI, 124, .inl (S.2 7))), (r 10, .inl (cI, 124, .inl (S.2 8))), (r 11, .inl (cI, 124, .inl (S.2 9)))]
abbrev wX2 (cI cZ cQ : ClassId) (r : Nat → Nat) (S : St) : va_W := [(r 0, .inr (2, [.ref (r 1), .ref (r 2), .ref (r 3)])), (r 1, .inl (cQ, 2, .inr (.inr (.inr (.inr (fun i => if i < 2 then some (r (4 + i)) else none)))))), (r 2, .inl (cI, 2, .inl (S.2 0))), (r 3, .inl (cZ, 2, .inl (S.2 1))), (r 4, .inl (cI, 35, .inl (S.2 2))), (r 5, .inl (cI, 35, .inl (S.2 3)))]
abbrev wX3 (cI cZ cQ : ClassId) (r : Nat → Nat) (S : St) : va_W := [(r 0, .inr (3, [.ref (r 1)])), (r 1, .inl (cI, 35, .inl (S.2 0)))]
abbrev wX4 (cI cZ cQ : ClassId) (r : Nat → Nat) (S : St) : va_W := [(r 0, .inr (4, [.ref (r 1), .int (S.1 0), .int (S.1 1)])), (r 1, .inl (cQ, 20, .inr (.inr (.inr (.inr (fun i => if i < 20 then some (r (2 + i)) else none)))))), (r 2, .inl (cI, 35, .inl (S.2 0))), (r 3, .inl (cI, 35, .inl (S.2 1))), (r 4, .inl (cI, 35, .inl (S.2 2))), (r 5, .inl (cI, 35, .inl (S.2 3))), (r 6, .inl (cI, 35, .inl (S.2 4))), (r 7, .inl (cI, 35, .inl (S.2 5))), (r 8, .inl (cI, 35, .inl (S.2 6))), (r 9, .inl (cI, 35, .inl (S.2 7))), (r 10, .inl (cI, 35, .inl (S.2 8))), (r 11, .inl (cI, 35, .inl (S.2 9))), (r 12, .inl (cI, 35, .inl (S.2 10))), (r 13, .inl (cI, 35, .inl (S.2 11))), (r 14, .inl (cI, 35, .inl (S.2 12))), (r 15, .inl (cI, 35, .inl (S.2 13))), (r 16, .inl (cI, 35, .inl (S.2 14))), (r 17, .inl (cI, 35, .inl (S.2 15))), (r 18, .inl (cI, 35, .inl (S.2 16))), (r 19, .inl (cI, 35, .inl (S.2 17))), (r 20, .inl (cI, 35, .inl (S.2 18))), (r 21, .inl (cI, 35, .inl (S.2 19)))]
abbrev wX5 (cI cZ cQ : ClassId) (r : Nat → Nat) (S : St) : va_W := [(r 0, .inr (5, [.int (S.1 0), .int (S.1 1), .int (S.1 2), .int (S.1 3), .int (S.1 4), .ref (r 1), .ref (r 2), .ref (r 3), .ref (r 4), .ref (r 5), .ref (r 6)])), (r 1, .inl (cI, 4, .inl (S.2 0))), (r 2, .inl (cI, 7, .inl (S.2 1))), (r 3, .inl (cI, 7, .inl (S.2 2))), (r 4, .inl (cI, 6, .inl (S.2 3))), (r 5, .inl (cI, 6, .inl (S.2 4))), (r 6, .inl (cI, 6, .inl (S.2 5)))]
abbrev wX6 (cI cZ cQ : ClassId) (r : Nat → Nat) (S : St) : va_W := [(r 0, .inr (6, [.ref (r 1), .ref (r 2), .int (S.1 0), .int (S.1 1), .int (S.1 2), .int (S.1 3)])), (r 1, .inl (cI, 240, .inl (S.2 0))), (r 2, .inl (cI, 3, .inl (S.2 1)))]
abbrev wX8 (cI cZ cQ : ClassId) (r : Nat → Nat) (S : St) : va_W := [(r 0, .inr (8, [.ref (r 1), .int (S.1 0), .int (S.1 1), .ref (r 2), .ref (r 3), .ref (r 4), .ref (r 5), .ref (r 6), .ref (r 7), .ref (r 8), .ref (r 9), .ref (r 10), .ref (r 11), .int (S.1 2), .ref (r 12), .ref (r 13), .ref (r 14), .int (S.1 3), .ref (r 15), .int (S.1 4), .ref (r 16), .int (S.1 5), .int (S.1 6), .int (S.1 7), .ref (r 17), .ref (r 18), .ref (r 19)])), (r 1, .inl (cI, 240, .inl (S.2 0))), (r 2, .inl (cI, 5, .inl (S.2 1))), (r 3, .inl (cI, 4, .inl (S.2 2))), (r 4, .inl (cI, 14, .inl (S.2 3))), (r 5, .inl (cI, 18, .inl (S.2 4))), (r 6, .inl (cI, 5, .inl (S.2 5))), (r 7, .inl (cI, 4, .inl (S.2 6))), (r 8, .inl (cI, 14, .inl (S.2 7))), (r 9, .inl (cI, 18, .inl (S.2 8))), (r 10, .inl (cI, 35, .inl (S.2 9))), (r 11, .inl (cI, 700, .inl (S.2 10))), (r 12, .inl (cI, 70, .inl (S.2 11))), (r 13, .inl (cI, 2, .inl (S.2 12))), (r 14, .inl (cZ, 2, .inl (S.2 13))), (r 15, .inl (cI, 18, .inl (S.2 14))), (r 16, .inl (cI, 30, .inl (S.2 15))), (r 17, .inl (cI, 6, .inl (S.2 16))), (r 18, .inl (cI, 124, .inl (S.2 17))), (r 19, .inl (cI, 744, .inl (S.2 18)))]
abbrev wX7 (cI cZ cQ : ClassId) (g : Nat → Nat → Nat) (S : St) : va_W := [(g 0 0, .inr (7, [.ref (g 1 0), .ref (g 2 0), .ref (g 3 0), .ref (g 4 0), .ref (g 5 0), .ref (g 6 0), .ref (g 7 0), .ref (g 8 0), .int (S.1 0)]))]
theorem cl_le {x N : Int32} {n : Nat} (h : x ≤ N) (hN : N = nI n) (hn : n < 2 ^ 31) : x.toNatClampNeg ≤ n := by
  subst hN
  rw [Int32.le_iff_toInt_le, nI_toInt hn] at h
  show x.toInt.toNat ≤ n
  omega
/-- how many there may be of what the text tells -/
def okS (S : St) : Prop := S.1 2 ≤ 4 ∧ S.1 3 ≤ 7 ∧ S.1 4 ≤ 6
def okN (S : St) : Prop := ¬ S.1 2 < 0 ∧ ¬ S.1 3 < 0 ∧ ¬ S.1 4 < 0
theorem okS_d {S : St} (h : okS S) : (S.1 2).toNatClampNeg ≤ 4 := cl_le h.1 rfl (by decide)
theorem okS_p {S : St} (h : okS S) : (S.1 3).toNatClampNeg ≤ 7 := cl_le h.2.1 rfl (by decide)
theorem okS_g {S : St} (h : okS S) : (S.1 4).toNatClampNeg ≤ 6 := cl_le h.2.2 rfl (by decide)
def cp35 (f g : Nat → Int32) : Nat → Int32 := va_cpy f g 0 0 35
theorem pb_in {x : Int32} (h : vp_in x 20) : vp_in (((x + 20) - 1) - ((x + 20) - 1) / 20 * 20) 20 := by
  obtain ⟨j, hj, rfl⟩ := vp_in_of h (by decide)
  have e : (nI j + 20) - 1 = nI (j + 19) := by
    rw [show (20 : Int32) = nI 20 from rfl, nI_add]
    exact nI_pred (j + 19)
  rw [e, show (20 : Int32) = nI 20 from rfl, pk_rem (by omega) (by decide) (by decide)]
  exact vp_in_nI (Nat.mod_lt _ (by decide)) (by decide)
end
section
def f_X5_isTold (SL : St) : Int32 :=
  if (SL.1 0) ≤ 0 then
    0
  else
    1
theorem inX5_isTold_5 : ∀ w ∈ wsX50, w ∈ wsX5_isTold := by decide +kernel
theorem hd_X5_isTold : yX5_isTold.cls = RX5 ∧ yX5_isTold.cls ≠ "java/lang/invoke/MethodHandle" ∧ yX5_isTold.cls ≠ "java/lang/invoke/VarHandle" ∧ (parseMethodDescriptor yX5_isTold.desc).map (fun d => d.parameters.length) = some 0 := by decide +kernel
set_option maxHeartbeats 4000000 in
set_option maxRecDepth 100000 in
theorem c_X5_isTold (l : Launch) (D : va_G) (cI cZ cQ : ClassId) (rL : Nat → Nat) (SL : St) : Ci l yX5_isTold wsX5_isTold { frames := 0, cells := 0, slots := 0, locals := 0 } D (tyL cI cZ cQ) [.ref (rL 0)] (wX5 cI cZ cQ rL SL) (f_X5_isTold SL) (wX5 cI cZ cQ rL SL) := by
  refine ci_of (cc := cX5_isTold) (nL := 1) (ty := .boolean) (lv0 := [(0, .ref (rL 0))]) (by decide) rfl (Nat.le_of_ble_eq_true rfl) rfl ?_
  intro p e s m args below meth c A X hr
  refine ww_aload_n (pc := 0) X dX5_isTold_0 0 rfl rfl ?_
  refine ww_get (pc := 1) (ci := 5) (v := .int (SL.1 0)) (C := RX5) (T := TX5) (N := 11) X inX5_isTold_5 0 rfl rfl 0 (by decide) (by decide +kernel) rfl dX5_isTold_1 ?_
  refine ww_if_le (pc := 4) (tgt := 11) X dX5_isTold_4 (by decide) (fun c1 => ?_) (fun c1 => ?_)
  · refine ww_iconst (pc := 11) (v := 0) X dX5_isTold_11 (by decide) ?_
    exact ww_iret X hr rfl (Eq.symm (by unfold f_X5_isTold; try rw [if_pos c1]; first | done | rfl)) rfl dX5_isTold_12
  · refine ww_iconst (pc := 7) (v := 1) X dX5_isTold_7 (by decide) ?_
    refine ww_goto (pc := 8) (tgt := 12) X dX5_isTold_8 (by decide) ?_
    exact ww_iret X hr rfl (Eq.symm (by unfold f_X5_isTold; try rw [if_neg c1]; first | done | rfl)) rfl dX5_isTold_12
def f_X5_hasDepth (SL : St) (x1 : Int32) : Int32 :=
  if x1 < 0 then
    0
  else
    if (SL.1 2) ≤ x1 then
      0
    else
      if 4 ≤ x1 then
        0
      else
        1
theorem in_X5_hasDepth {S : St} {x : Int32} (h : ¬ f_X5_hasDepth S x = 0) : vp_in x 4 := by
  unfold f_X5_hasDepth at h
  split at h
  · exact absurd rfl h
  split at h
  · exact absurd rfl h
  split at h
  · exact absurd rfl h
  exact vin_nge (by assumption) (by assumption) rfl
theorem inX5_hasDepth_5 : ∀ w ∈ wsX50, w ∈ wsX5_hasDepth := by decide +kernel
theorem hd_X5_hasDepth : yX5_hasDepth.cls = RX5 ∧ yX5_hasDepth.cls ≠ "java/lang/invoke/MethodHandle" ∧ yX5_hasDepth.cls ≠ "java/lang/invoke/VarHandle" ∧ (parseMethodDescriptor yX5_hasDepth.desc).map (fun d => d.parameters.length) = some 1 := by decide +kernel
set_option maxHeartbeats 4000000 in
set_option maxRecDepth 100000 in
theorem c_X5_hasDepth (l : Launch) (D : va_G) (cI cZ cQ : ClassId) (rL : Nat → Nat) (SL : St) (x1 : Int32) : Ci l yX5_hasDepth wsX5_hasDepth { frames := 0, cells := 0, slots := 0, locals := 0 } D (tyL cI cZ cQ) [.ref (rL 0), .int x1] (wX5 cI cZ cQ rL SL) (f_X5_hasDepth SL x1) (wX5 cI cZ cQ rL SL) := by
  refine ci_of (cc := cX5_hasDepth) (nL := 2) (ty := .boolean) (lv0 := [(0, .ref (rL 0)), (1, .int x1)]) (by decide) rfl (Nat.le_of_ble_eq_true rfl) rfl ?_
  intro p e s m args below meth c A X hr
  refine ww_iload_n (pc := 0) X dX5_hasDepth_0 1 rfl rfl ?_
  refine ww_if_lt (pc := 1) (tgt := 21) X dX5_hasDepth_1 (by decide) (fun c1 => ?_) (fun c1 => ?_)
  · refine ww_iconst (pc := 21) (v := 0) X dX5_hasDepth_21 (by decide) ?_
    exact ww_iret X hr rfl (Eq.symm (by unfold f_X5_hasDepth; try rw [if_pos c1]; first | done | rfl)) rfl dX5_hasDepth_22
  · refine ww_iload_n (pc := 4) X dX5_hasDepth_4 1 rfl rfl ?_
    refine ww_aload_n (pc := 5) X dX5_hasDepth_5 0 rfl rfl ?_
    refine ww_get (pc := 6) (ci := 5) (v := .int (SL.1 2)) (C := RX5) (T := TX5) (N := 11) X inX5_hasDepth_5 0 rfl rfl 2 (by decide) (by decide +kernel) rfl dX5_hasDepth_6 ?_
    refine ww_icmp_ge (pc := 9) (tgt := 21) X dX5_hasDepth_9 (by decide) (fun c2 => ?_) (fun c2 => ?_)
    · refine ww_iconst (pc := 21) (v := 0) X dX5_hasDepth_21 (by decide) ?_
      exact ww_iret X hr rfl (Eq.symm (by unfold f_X5_hasDepth; try rw [if_neg c1, if_pos c2]; first | done | rfl)) rfl dX5_hasDepth_22
    · refine ww_iload_n (pc := 12) X dX5_hasDepth_12 1 rfl rfl ?_
      refine ww_iconst (pc := 13) (v := 4) X dX5_hasDepth_13 (by decide) ?_
      refine ww_icmp_ge (pc := 14) (tgt := 21) X dX5_hasDepth_14 (by decide) (fun c3 => ?_) (fun c3 => ?_)
      · refine ww_iconst (pc := 21) (v := 0) X dX5_hasDepth_21 (by decide) ?_
        exact ww_iret X hr rfl (Eq.symm (by unfold f_X5_hasDepth; try rw [if_neg c1, if_neg c2, if_pos c3]; first | done | rfl)) rfl dX5_hasDepth_22
      · refine ww_iconst (pc := 17) (v := 1) X dX5_hasDepth_17 (by decide) ?_
        refine ww_goto (pc := 18) (tgt := 22) X dX5_hasDepth_18 (by decide) ?_
        exact ww_iret X hr rfl (Eq.symm (by unfold f_X5_hasDepth; try rw [if_neg c1, if_neg c2, if_neg c3]; first | done | rfl)) rfl dX5_hasDepth_22
def f_X5_hasPerson (SL : St) (x1 : Int32) : Int32 :=
  if x1 < 0 then
    0
  else
    if (SL.1 3) ≤ x1 then
      0
    else
      if 7 ≤ x1 then
        0
      else
        1
theorem in_X5_hasPerson {S : St} {x : Int32} (h : ¬ f_X5_hasPerson S x = 0) : vp_in x 7 := by
  unfold f_X5_hasPerson at h
  split at h
  · exact absurd rfl h
  split at h
  · exact absurd rfl h
  split at h
  · exact absurd rfl h
  exact vin_nge (by assumption) (by assumption) rfl
theorem inX5_hasPerson_5 : ∀ w ∈ wsX50, w ∈ wsX5_hasPerson := by decide +kernel
theorem hd_X5_hasPerson : yX5_hasPerson.cls = RX5 ∧ yX5_hasPerson.cls ≠ "java/lang/invoke/MethodHandle" ∧ yX5_hasPerson.cls ≠ "java/lang/invoke/VarHandle" ∧ (parseMethodDescriptor yX5_hasPerson.desc).map (fun d => d.parameters.length) = some 1 := by decide +kernel
set_option maxHeartbeats 4000000 in
set_option maxRecDepth 100000 in
theorem c_X5_hasPerson (l : Launch) (D : va_G) (cI cZ cQ : ClassId) (rL : Nat → Nat) (SL : St) (x1 : Int32) : Ci l yX5_hasPerson wsX5_hasPerson { frames := 0, cells := 0, slots := 0, locals := 0 } D (tyL cI cZ cQ) [.ref (rL 0), .int x1] (wX5 cI cZ cQ rL SL) (f_X5_hasPerson SL x1) (wX5 cI cZ cQ rL SL) := by
  refine ci_of (cc := cX5_hasPerson) (nL := 2) (ty := .boolean) (lv0 := [(0, .ref (rL 0)), (1, .int x1)]) (by decide) rfl (Nat.le_of_ble_eq_true rfl) rfl ?_
  intro p e s m args below meth c A X hr
  refine ww_iload_n (pc := 0) X dX5_hasPerson_0 1 rfl rfl ?_
  refine ww_if_lt (pc := 1) (tgt := 22) X dX5_hasPerson_1 (by decide) (fun c1 => ?_) (fun c1 => ?_)
  · refine ww_iconst (pc := 22) (v := 0) X dX5_hasPerson_22 (by decide) ?_
    exact ww_iret X hr rfl (Eq.symm (by unfold f_X5_hasPerson; try rw [if_pos c1]; first | done | rfl)) rfl dX5_hasPerson_23
  · refine ww_iload_n (pc := 4) X dX5_hasPerson_4 1 rfl rfl ?_
    refine ww_aload_n (pc := 5) X dX5_hasPerson_5 0 rfl rfl ?_
    refine ww_get (pc := 6) (ci := 5) (v := .int (SL.1 3)) (C := RX5) (T := TX5) (N := 11) X inX5_hasPerson_5 0 rfl rfl 3 (by decide) (by decide +kernel) rfl dX5_hasPerson_6 ?_
    refine ww_icmp_ge (pc := 9) (tgt := 22) X dX5_hasPerson_9 (by decide) (fun c2 => ?_) (fun c2 => ?_)
    · refine ww_iconst (pc := 22) (v := 0) X dX5_hasPerson_22 (by decide) ?_
      exact ww_iret X hr rfl (Eq.symm (by unfold f_X5_hasPerson; try rw [if_neg c1, if_pos c2]; first | done | rfl)) rfl dX5_hasPerson_23
    · refine ww_iload_n (pc := 12) X dX5_hasPerson_12 1 rfl rfl ?_
      refine ww_bipush (pc := 13) (v := 7) X dX5_hasPerson_13 (by decide) ?_
      refine ww_icmp_ge (pc := 15) (tgt := 22) X dX5_hasPerson_15 (by decide) (fun c3 => ?_) (fun c3 => ?_)
      · refine ww_iconst (pc := 22) (v := 0) X dX5_hasPerson_22 (by decide) ?_
        exact ww_iret X hr rfl (Eq.symm (by unfold f_X5_hasPerson; try rw [if_neg c1, if_neg c2, if_pos c3]; first | done | rfl)) rfl dX5_hasPerson_23
      · refine ww_iconst (pc := 18) (v := 1) X dX5_hasPerson_18 (by decide) ?_
        refine ww_goto (pc := 19) (tgt := 23) X dX5_hasPerson_19 (by decide) ?_
        exact ww_iret X hr rfl (Eq.symm (by unfold f_X5_hasPerson; try rw [if_neg c1, if_neg c2, if_neg c3]; first | done | rfl)) rfl dX5_hasPerson_23
def f_X5_hasGood (SL : St) (x1 : Int32) : Int32 :=
  if x1 < 0 then
    0
  else
    if (SL.1 4) ≤ x1 then
      0
    else
      if 6 ≤ x1 then
        0
      else
        1
theorem in_X5_hasGood {S : St} {x : Int32} (h : ¬ f_X5_hasGood S x = 0) : vp_in x 6 := by
  unfold f_X5_hasGood at h
  split at h
  · exact absurd rfl h
  split at h
  · exact absurd rfl h
  split at h
  · exact absurd rfl h
  exact vin_nge (by assumption) (by assumption) rfl
theorem inX5_hasGood_5 : ∀ w ∈ wsX50, w ∈ wsX5_hasGood := by decide +kernel
theorem hd_X5_hasGood : yX5_hasGood.cls = RX5 ∧ yX5_hasGood.cls ≠ "java/lang/invoke/MethodHandle" ∧ yX5_hasGood.cls ≠ "java/lang/invoke/VarHandle" ∧ (parseMethodDescriptor yX5_hasGood.desc).map (fun d => d.parameters.length) = some 1 := by decide +kernel
set_option maxHeartbeats 4000000 in
set_option maxRecDepth 100000 in
theorem c_X5_hasGood (l : Launch) (D : va_G) (cI cZ cQ : ClassId) (rL : Nat → Nat) (SL : St) (x1 : Int32) : Ci l yX5_hasGood wsX5_hasGood { frames := 0, cells := 0, slots := 0, locals := 0 } D (tyL cI cZ cQ) [.ref (rL 0), .int x1] (wX5 cI cZ cQ rL SL) (f_X5_hasGood SL x1) (wX5 cI cZ cQ rL SL) := by
  refine ci_of (cc := cX5_hasGood) (nL := 2) (ty := .boolean) (lv0 := [(0, .ref (rL 0)), (1, .int x1)]) (by decide) rfl (Nat.le_of_ble_eq_true rfl) rfl ?_
  intro p e s m args below meth c A X hr
  refine ww_iload_n (pc := 0) X dX5_hasGood_0 1 rfl rfl ?_
  refine ww_if_lt (pc := 1) (tgt := 22) X dX5_hasGood_1 (by decide) (fun c1 => ?_) (fun c1 => ?_)
  · refine ww_iconst (pc := 22) (v := 0) X dX5_hasGood_22 (by decide) ?_
    exact ww_iret X hr rfl (Eq.symm (by unfold f_X5_hasGood; try rw [if_pos c1]; first | done | rfl)) rfl dX5_hasGood_23
  · refine ww_iload_n (pc := 4) X dX5_hasGood_4 1 rfl rfl ?_
    refine ww_aload_n (pc := 5) X dX5_hasGood_5 0 rfl rfl ?_
    refine ww_get (pc := 6) (ci := 5) (v := .int (SL.1 4)) (C := RX5) (T := TX5) (N := 11) X inX5_hasGood_5 0 rfl rfl 4 (by decide) (by decide +kernel) rfl dX5_hasGood_6 ?_
    refine ww_icmp_ge (pc := 9) (tgt := 22) X dX5_hasGood_9 (by decide) (fun c2 => ?_) (fun c2 => ?_)
    · refine ww_iconst (pc := 22) (v := 0) X dX5_hasGood_22 (by decide) ?_
      exact ww_iret X hr rfl (Eq.symm (by unfold f_X5_hasGood; try rw [if_neg c1, if_pos c2]; first | done | rfl)) rfl dX5_hasGood_23
    · refine ww_iload_n (pc := 12) X dX5_hasGood_12 1 rfl rfl ?_
      refine ww_bipush (pc := 13) (v := 6) X dX5_hasGood_13 (by decide) ?_
      refine ww_icmp_ge (pc := 15) (tgt := 22) X dX5_hasGood_15 (by decide) (fun c3 => ?_) (fun c3 => ?_)
      · refine ww_iconst (pc := 22) (v := 0) X dX5_hasGood_22 (by decide) ?_
        exact ww_iret X hr rfl (Eq.symm (by unfold f_X5_hasGood; try rw [if_neg c1, if_neg c2, if_pos c3]; first | done | rfl)) rfl dX5_hasGood_23
      · refine ww_iconst (pc := 18) (v := 1) X dX5_hasGood_18 (by decide) ?_
        refine ww_goto (pc := 19) (tgt := 23) X dX5_hasGood_19 (by decide) ?_
        exact ww_iret X hr rfl (Eq.symm (by unfold f_X5_hasGood; try rw [if_neg c1, if_neg c2, if_neg c3]; first | done | rfl)) rfl dX5_hasGood_23
def f_X5_empty (SL : St) : St :=
  (sI (sI (sI (sI (sI SL 0 0) 1 0) 2 0) 3 0) 4 0)
theorem inX5_empty_5 : ∀ w ∈ wsX50, w ∈ wsX5_empty := by decide +kernel
theorem hd_X5_empty : yX5_empty.cls = RX5 ∧ yX5_empty.cls ≠ "java/lang/invoke/MethodHandle" ∧ yX5_empty.cls ≠ "java/lang/invoke/VarHandle" ∧ (parseMethodDescriptor yX5_empty.desc).map (fun d => d.parameters.length) = some 0 := by decide +kernel
set_option maxHeartbeats 4000000 in
set_option maxRecDepth 100000 in
theorem c_X5_empty (l : Launch) (D : va_G) (cI cZ cQ : ClassId) (rL : Nat → Nat) (SL : St) : Cv l yX5_empty wsX5_empty { frames := 0, cells := 0, slots := 0, locals := 0 } D (tyL cI cZ cQ) [.ref (rL 0)] (wX5 cI cZ cQ rL SL) (wX5 cI cZ cQ rL (f_X5_empty SL)) := by
  refine cv_of (cc := cX5_empty) (nL := 1) (lv0 := [(0, .ref (rL 0))]) (by decide) rfl (Nat.le_of_ble_eq_true rfl) rfl ?_
  intro p e s m args below meth c A X hr
  refine ww_aload_n (pc := 0) X dX5_empty_0 0 rfl rfl ?_
  refine ww_iconst (pc := 1) (v := 0) X dX5_empty_1 (by decide) ?_
  refine ww_put (pc := 2) (ci := 5) (v := .int 0) (C := RX5) (T := TX5) (N := 11) (ws' := wX5 cI cZ cQ rL (sI SL 0 0)) X inX5_empty_5 tyX5 tyX5_ok nmX5 0 rfl rfl 0 (by decide) (by decide +kernel) rfl rfl rfl (Nat.le_of_ble_eq_true rfl) rfl dX5_empty_2 ?_
  refine ww_aload_n (pc := 5) X dX5_empty_5 0 rfl rfl ?_
  refine ww_iconst (pc := 6) (v := 0) X dX5_empty_6 (by decide) ?_
  refine ww_put (pc := 7) (ci := 5) (v := .int 0) (C := RX5) (T := TX5) (N := 11) (ws' := wX5 cI cZ cQ rL (sI (sI SL 0 0) 1 0)) X inX5_empty_5 tyX5 tyX5_ok nmX5 0 rfl rfl 1 (by decide) (by decide +kernel) rfl rfl rfl (Nat.le_of_ble_eq_true rfl) rfl dX5_empty_7 ?_
  refine ww_aload_n (pc := 10) X dX5_empty_10 0 rfl rfl ?_
  refine ww_iconst (pc := 11) (v := 0) X dX5_empty_11 (by decide) ?_
  refine ww_put (pc := 12) (ci := 5) (v := .int 0) (C := RX5) (T := TX5) (N := 11) (ws' := wX5 cI cZ cQ rL (sI (sI (sI SL 0 0) 1 0) 2 0)) X inX5_empty_5 tyX5 tyX5_ok nmX5 0 rfl rfl 2 (by decide) (by decide +kernel) rfl rfl rfl (Nat.le_of_ble_eq_true rfl) rfl dX5_empty_12 ?_
  refine ww_aload_n (pc := 15) X dX5_empty_15 0 rfl rfl ?_
  refine ww_iconst (pc := 16) (v := 0) X dX5_empty_16 (by decide) ?_
  refine ww_put (pc := 17) (ci := 5) (v := .int 0) (C := RX5) (T := TX5) (N := 11) (ws' := wX5 cI cZ cQ rL (sI (sI (sI (sI SL 0 0) 1 0) 2 0) 3 0)) X inX5_empty_5 tyX5 tyX5_ok nmX5 0 rfl rfl 3 (by decide) (by decide +kernel) rfl rfl rfl (Nat.le_of_ble_eq_true rfl) rfl dX5_empty_17 ?_
  refine ww_aload_n (pc := 20) X dX5_empty_20 0 rfl rfl ?_
  refine ww_iconst (pc := 21) (v := 0) X dX5_empty_21 (by decide) ?_
  refine ww_put (pc := 22) (ci := 5) (v := .int 0) (C := RX5) (T := TX5) (N := 11) (ws' := wX5 cI cZ cQ rL (sI (sI (sI (sI (sI SL 0 0) 1 0) 2 0) 3 0) 4 0)) X inX5_empty_5 tyX5 tyX5_ok nmX5 0 rfl rfl 4 (by decide) (by decide +kernel) rfl rfl rfl (Nat.le_of_ble_eq_true rfl) rfl dX5_empty_22 ?_
  have h1 : f_X5_empty SL = (sI (sI (sI (sI (sI SL 0 0) 1 0) 2 0) 3 0) 4 0) := by unfold f_X5_empty; first | done | rfl
  exact ww_vret X hr (congrArg (fun u9 : St => wX5 cI cZ cQ rL u9) h1.symm) dX5_empty_25
def f_X5_hasRoomFor (SL : St) (x1 : Int32) : Int32 :=
  if x1 = 100 then
    if 4 ≤ (SL.1 2) then
      0
    else
      1
  else
    if x1 = 103 then
      if 6 ≤ (SL.1 4) then
        0
      else
        1
    else
      if x1 = 112 then
        if 7 ≤ (SL.1 3) then
          0
        else
          1
      else
        if x1 = 115 then
          if (f_X5_isTold SL) = 0 then
            1
          else
            0
        else
          0
theorem rm_d {S : St} {x : Int32} (hn : okN S) (h : ¬ f_X5_hasRoomFor S x = 0) (h1 : x = 100) : vp_in (S.1 2) 4 := by
  unfold f_X5_hasRoomFor at h
  rw [if_pos h1] at h
  split at h
  · exact absurd rfl h
  · exact vin_nge hn.1 (by assumption) rfl
theorem rm_p {S : St} {x : Int32} (hn : okN S) (h : ¬ f_X5_hasRoomFor S x = 0) (h1 : x = 112) : vp_in (S.1 3) 7 := by
  subst h1
  unfold f_X5_hasRoomFor at h
  simp only [show ¬ ((112 : Int32) = 100) by decide, show ¬ ((112 : Int32) = 103) by decide, if_false, if_true] at h
  split at h
  · exact absurd rfl h
  · exact vin_nge hn.2.1 (by assumption) rfl
theorem rm_g {S : St} {x : Int32} (hn : okN S) (h : ¬ f_X5_hasRoomFor S x = 0) (h1 : ¬ x = 100) (h2 : ¬ x = 112) (h3 : ¬ x = 115) : vp_in (S.1 4) 6 := by
  unfold f_X5_hasRoomFor at h
  rw [if_neg h1] at h
  split at h
  · split at h
    · exact absurd rfl h
    · exact vin_nge hn.2.2 (by assumption) rfl
  · first | exact absurd rfl h | (rw [if_neg h2, if_neg h3] at h; exact absurd rfl h)
theorem inX5_hasRoomFor_5 : ∀ w ∈ wsX50, w ∈ wsX5_hasRoomFor := by decide +kernel
theorem hd_X5_hasRoomFor : yX5_hasRoomFor.cls = RX5 ∧ yX5_hasRoomFor.cls ≠ "java/lang/invoke/MethodHandle" ∧ yX5_hasRoomFor.cls ≠ "java/lang/invoke/VarHandle" ∧ (parseMethodDescriptor yX5_hasRoomFor.desc).map (fun d => d.parameters.length) = some 1 := by decide +kernel
set_option maxHeartbeats 4000000 in
set_option maxRecDepth 100000 in
theorem c_X5_hasRoomFor (l : Launch) (D : va_G) (cI cZ cQ : ClassId) (rL : Nat → Nat) (SL : St) (x1 : Int32) : Ci l yX5_hasRoomFor wsX5_hasRoomFor { frames := 1, cells := 0, slots := 0, locals := 20 } D (tyL cI cZ cQ) [.ref (rL 0), .int x1] (wX5 cI cZ cQ rL SL) (f_X5_hasRoomFor SL x1) (wX5 cI cZ cQ rL SL) := by
  refine ci_of (cc := cX5_hasRoomFor) (nL := 2) (ty := .boolean) (lv0 := [(0, .ref (rL 0)), (1, .int x1)]) (by decide) rfl (Nat.le_of_ble_eq_true rfl) rfl ?_
  intro p e s m args below meth c A X hr
  refine ww_iload_n (pc := 0) X dX5_hasRoomFor_0 1 rfl rfl ?_
  refine Decidable.byCases (fun (c1 : x1 = 100) => ?_) (fun (c1 : ¬ x1 = 100) => ?_)
  · refine ww_lookup (off := 56) (tgt := 57) X dX5_hasRoomFor_1 (by decide) (by rw [c1]; rfl) (by decide) ?_
    refine ww_aload_n (pc := 57) X dX5_hasRoomFor_57 0 rfl rfl ?_
    refine ww_get (pc := 58) (ci := 5) (v := .int (SL.1 2)) (C := RX5) (T := TX5) (N := 11) X inX5_hasRoomFor_5 0 rfl rfl 2 (by decide) (by decide +kernel) rfl dX5_hasRoomFor_58 ?_
    refine ww_iconst (pc := 61) (v := 4) X dX5_hasRoomFor_61 (by decide) ?_
    refine ww_icmp_ge (pc := 62) (tgt := 69) X dX5_hasRoomFor_62 (by decide) (fun c2 => ?_) (fun c2 => ?_)
    · refine ww_iconst (pc := 69) (v := 0) X dX5_hasRoomFor_69 (by decide) ?_
      exact ww_iret X hr rfl (Eq.symm (by unfold f_X5_hasRoomFor; try rw [if_pos c1, if_pos c2]; first | done | rfl)) rfl dX5_hasRoomFor_70
    · refine ww_iconst (pc := 65) (v := 1) X dX5_hasRoomFor_65 (by decide) ?_
      refine ww_goto (pc := 66) (tgt := 70) X dX5_hasRoomFor_66 (by decide) ?_
      exact ww_iret X hr rfl (Eq.symm (by unfold f_X5_hasRoomFor; try rw [if_pos c1, if_neg c2]; first | done | rfl)) rfl dX5_hasRoomFor_70
  · skip
    refine Decidable.byCases (fun (c3 : x1 = 103) => ?_) (fun (c3 : ¬ x1 = 103) => ?_)
    · refine ww_lookup (off := 85) (tgt := 86) X dX5_hasRoomFor_1 (by decide) (by rw [c3]; rfl) (by decide) ?_
      refine ww_aload_n (pc := 86) X dX5_hasRoomFor_86 0 rfl rfl ?_
      refine ww_get (pc := 87) (ci := 5) (v := .int (SL.1 4)) (C := RX5) (T := TX5) (N := 11) X inX5_hasRoomFor_5 0 rfl rfl 4 (by decide) (by decide +kernel) rfl dX5_hasRoomFor_87 ?_
      refine ww_bipush (pc := 90) (v := 6) X dX5_hasRoomFor_90 (by decide) ?_
      refine ww_icmp_ge (pc := 92) (tgt := 99) X dX5_hasRoomFor_92 (by decide) (fun c4 => ?_) (fun c4 => ?_)
      · refine ww_iconst (pc := 99) (v := 0) X dX5_hasRoomFor_99 (by decide) ?_
        exact ww_iret X hr rfl (Eq.symm (by unfold f_X5_hasRoomFor; try rw [if_neg c1, if_pos c3, if_pos c4]; first | done | rfl)) rfl dX5_hasRoomFor_100
      · refine ww_iconst (pc := 95) (v := 1) X dX5_hasRoomFor_95 (by decide) ?_
        refine ww_goto (pc := 96) (tgt := 100) X dX5_hasRoomFor_96 (by decide) ?_
        exact ww_iret X hr rfl (Eq.symm (by unfold f_X5_hasRoomFor; try rw [if_neg c1, if_pos c3, if_neg c4]; first | done | rfl)) rfl dX5_hasRoomFor_100
    · skip
      refine Decidable.byCases (fun (c5 : x1 = 112) => ?_) (fun (c5 : ¬ x1 = 112) => ?_)
      · refine ww_lookup (off := 70) (tgt := 71) X dX5_hasRoomFor_1 (by decide) (by rw [c5]; rfl) (by decide) ?_
        refine ww_aload_n (pc := 71) X dX5_hasRoomFor_71 0 rfl rfl ?_
        refine ww_get (pc := 72) (ci := 5) (v := .int (SL.1 3)) (C := RX5) (T := TX5) (N := 11) X inX5_hasRoomFor_5 0 rfl rfl 3 (by decide) (by decide +kernel) rfl dX5_hasRoomFor_72 ?_
        refine ww_bipush (pc := 75) (v := 7) X dX5_hasRoomFor_75 (by decide) ?_
        refine ww_icmp_ge (pc := 77) (tgt := 84) X dX5_hasRoomFor_77 (by decide) (fun c6 => ?_) (fun c6 => ?_)
        · refine ww_iconst (pc := 84) (v := 0) X dX5_hasRoomFor_84 (by decide) ?_
          exact ww_iret X hr rfl (Eq.symm (by unfold f_X5_hasRoomFor; try rw [if_neg c1, if_neg c3, if_pos c5, if_pos c6]; first | done | rfl)) rfl dX5_hasRoomFor_85
        · refine ww_iconst (pc := 80) (v := 1) X dX5_hasRoomFor_80 (by decide) ?_
          refine ww_goto (pc := 81) (tgt := 85) X dX5_hasRoomFor_81 (by decide) ?_
          exact ww_iret X hr rfl (Eq.symm (by unfold f_X5_hasRoomFor; try rw [if_neg c1, if_neg c3, if_pos c5, if_neg c6]; first | done | rfl)) rfl dX5_hasRoomFor_85
      · skip
        refine Decidable.byCases (fun (c7 : x1 = 115) => ?_) (fun (c7 : ¬ x1 = 115) => ?_)
        · refine ww_lookup (off := 43) (tgt := 44) X dX5_hasRoomFor_1 (by decide) (by rw [c7]; rfl) (by decide) ?_
          refine ww_aload_n (pc := 44) X dX5_hasRoomFor_44 0 rfl rfl ?_
          refine ww_cVi (pc := 45) (rest := []) (wsN := wX5 cI cZ cQ rL SL) (ci := 5) (q0 := 0) X (c_X5_isTold l D cI cZ cQ rL SL) gX5_hasRoomFor_X5_isTold rfl hd_X5_isTold [0, 1, 2, 3, 4, 5, 6] rfl (by decide) rfl rfl rfl rfl rfl rfl ⟨rfl, rfl⟩ ⟨Nat.le_of_ble_eq_true rfl, Nat.le_of_ble_eq_true rfl⟩ (Nat.le_of_ble_eq_true rfl) ⟨Nat.zero_le _, Nat.zero_le _⟩ dX5_hasRoomFor_45 ?_
          refine ww_if_ne (pc := 48) (tgt := 55) X dX5_hasRoomFor_48 (by decide) (fun c8 => ?_) (fun c8 => ?_)
          · refine ww_iconst (pc := 55) (v := 0) X dX5_hasRoomFor_55 (by decide) ?_
            exact ww_iret X hr rfl (Eq.symm (by unfold f_X5_hasRoomFor; try rw [if_neg c1, if_neg c3, if_neg c5, if_pos c7, if_neg c8]; first | done | rfl)) rfl dX5_hasRoomFor_56
          · refine ww_iconst (pc := 51) (v := 1) X dX5_hasRoomFor_51 (by decide) ?_
            refine ww_goto (pc := 52) (tgt := 56) X dX5_hasRoomFor_52 (by decide) ?_
            exact ww_iret X hr rfl (Eq.symm (by unfold f_X5_hasRoomFor; try rw [if_neg c1, if_neg c3, if_neg c5, if_pos c7, if_pos c8]; first | done | rfl)) rfl dX5_hasRoomFor_56
        · skip
          refine ww_lookup (off := 100) (tgt := 101) X dX5_hasRoomFor_1 (by decide) (by
            simp only [Op.lookupswitch.offset]
            have q100 : ¬ (x1).toInt = 100 := fun h => c1 (Int32.toInt_inj.mp (h.trans (by decide)))
            have q103 : ¬ (x1).toInt = 103 := fun h => c3 (Int32.toInt_inj.mp (h.trans (by decide)))
            have q112 : ¬ (x1).toInt = 112 := fun h => c5 (Int32.toInt_inj.mp (h.trans (by decide)))
            have q115 : ¬ (x1).toInt = 115 := fun h => c7 (Int32.toInt_inj.mp (h.trans (by decide)))
            first | (simp_all; done) | (split <;> simp_all; done) | (repeat' split) <;> first | rfl | omega) (by decide) ?_
          refine ww_iconst (pc := 101) (v := 0) X dX5_hasRoomFor_101 (by decide) ?_
          exact ww_iret X hr rfl (Eq.symm (by unfold f_X5_hasRoomFor; try rw [if_neg c1, if_neg c3, if_neg c5, if_neg c7]; first | done | rfl)) rfl dX5_hasRoomFor_102
def f_X5_add (SL : St) (x1 : Int32) (x2 : Int32) (x3 : Int32) (x4 : Int32) : St :=
  if (f_X5_hasRoomFor SL x1) = 0 then
    SL
  else
    if x1 = 100 then
      (sA (sI SL 2 ((SL.1 2) + 1)) 0 (upd (SL.2 0) ((SL.1 2 : Int32)).toNatClampNeg x2))
    else
      if x1 = 112 then
        (sA (sA (sI SL 3 ((SL.1 3) + 1)) 1 (upd (SL.2 1) ((SL.1 3 : Int32)).toNatClampNeg x2)) 2 (upd (SL.2 2) ((SL.1 3 : Int32)).toNatClampNeg x3))
      else
        if x1 = 115 then
          (sI (sI SL 0 x2) 1 x3)
        else
          (sA (sA (sA (sI SL 4 ((SL.1 4) + 1)) 3 (upd (SL.2 3) ((SL.1 4 : Int32)).toNatClampNeg x2)) 4 (upd (SL.2 4) ((SL.1 4 : Int32)).toNatClampNeg x3)) 5 (upd (SL.2 5) ((SL.1 4 : Int32)).toNatClampNeg x4))
theorem inX5_add_5 : ∀ w ∈ wsX50, w ∈ wsX5_add := by decide +kernel
theorem hd_X5_add : yX5_add.cls = RX5 ∧ yX5_add.cls ≠ "java/lang/invoke/MethodHandle" ∧ yX5_add.cls ≠ "java/lang/invoke/VarHandle" ∧ (parseMethodDescriptor yX5_add.desc).map (fun d => d.parameters.length) = some 4 := by decide +kernel
set_option maxHeartbeats 4000000 in
set_option maxRecDepth 100000 in
theorem c_X5_add (l : Launch) (D : va_G) (cI cZ cQ : ClassId) (rL : Nat → Nat) (SL : St) (x1 : Int32) (x2 : Int32) (x3 : Int32) (x4 : Int32) (okN : okN SL) : Cv l yX5_add wsX5_add { frames := 2, cells := 0, slots := 0, locals := 41 } D (tyL cI cZ cQ) [.ref (rL 0), .int x1, .int x2, .int x3, .int x4] (wX5 cI cZ cQ rL SL) (wX5 cI cZ cQ rL (f_X5_add SL x1 x2 x3 x4)) := by
  refine cv_of (cc := cX5_add) (nL := 5) (lv0 := [(0, .ref (rL 0)), (1, .int x1), (2, .int x2), (3, .int x3), (4, .int x4)]) (by decide) rfl (Nat.le_of_ble_eq_true rfl) rfl ?_
  intro p e s m args below meth c A X hr
  refine ww_aload_n (pc := 0) X dX5_add_0 0 rfl rfl ?_
  refine ww_iload_n (pc := 1) X dX5_add_1 1 rfl rfl ?_
  refine ww_cVi (pc := 2) (rest := []) (wsN := wX5 cI cZ cQ rL SL) (ci := 5) (q0 := 0) X (c_X5_hasRoomFor l D cI cZ cQ rL SL x1) gX5_add_X5_hasRoomFor rfl hd_X5_hasRoomFor [0, 1, 2, 3, 4, 5, 6] rfl (by decide) rfl rfl rfl rfl rfl rfl ⟨rfl, rfl⟩ ⟨Nat.le_of_ble_eq_true rfl, Nat.le_of_ble_eq_true rfl⟩ (Nat.le_of_ble_eq_true rfl) ⟨Nat.zero_le _, Nat.zero_le _⟩ dX5_add_2 ?_
  refine ww_if_ne (pc := 5) (tgt := 9) X dX5_add_5 (by decide) (fun c1 => ?_) (fun c1 => ?_)
  · refine ww_iload_n (pc := 9) X dX5_add_9 1 rfl rfl ?_
    refine Decidable.byCases (fun (c2 : x1 = 100) => ?_) (fun (c2 : ¬ x1 = 100) => ?_)
    · refine ww_lookup (off := 47) (tgt := 57) X dX5_add_10 (by decide) (by rw [c2]; rfl) (by decide) ?_
      refine ww_aload_n (pc := 57) X dX5_add_57 0 rfl rfl ?_
      refine ww_get (pc := 58) (ci := 5) (v := .ref (rL 1)) (C := RX5) (T := TX5) (N := 11) X inX5_add_5 0 rfl rfl 5 (by decide) (by decide +kernel) rfl dX5_add_58 ?_
      refine ww_aload_n (pc := 61) X dX5_add_61 0 rfl rfl ?_
      refine ww_get (pc := 62) (ci := 5) (v := .int (SL.1 2)) (C := RX5) (T := TX5) (N := 11) X inX5_add_5 0 rfl rfl 2 (by decide) (by decide +kernel) rfl dX5_add_62 ?_
      refine ww_iload_n (pc := 65) X dX5_add_65 2 rfl rfl ?_
      refine ww_iast (pc := 66) (f := SL.2 0) (ws' := wX5 cI cZ cQ rL (sA SL 0 (upd (SL.2 0) ((SL.1 2 : Int32)).toNatClampNeg x2))) X 1 0 rfl rfl (rm_d okN c1 c2) rfl dX5_add_66 ?_
      refine ww_aload_n (pc := 67) X dX5_add_67 0 rfl rfl ?_
      refine ww_dup (pc := 68) X dX5_add_68 rfl ?_
      refine ww_get (pc := 69) (ci := 5) (v := .int (SL.1 2)) (C := RX5) (T := TX5) (N := 11) X inX5_add_5 0 rfl rfl 2 (by decide) (by decide +kernel) rfl dX5_add_69 ?_
      refine ww_iconst (pc := 72) (v := 1) X dX5_add_72 (by decide) ?_
      refine ww_iadd (pc := 73) X dX5_add_73 ?_
      refine ww_put (pc := 74) (ci := 5) (v := .int ((SL.1 2) + 1)) (C := RX5) (T := TX5) (N := 11) (ws' := wX5 cI cZ cQ rL (sA (sI SL 2 ((SL.1 2) + 1)) 0 (upd (SL.2 0) ((SL.1 2 : Int32)).toNatClampNeg x2))) X inX5_add_5 tyX5 tyX5_ok nmX5 0 rfl rfl 2 (by decide) (by decide +kernel) rfl rfl rfl (Nat.le_of_ble_eq_true rfl) rfl dX5_add_74 ?_
      refine ww_goto (pc := 77) (tgt := 154) X dX5_add_77 (by decide) ?_
      have h3 : f_X5_add SL x1 x2 x3 x4 = (sA (sI SL 2 ((SL.1 2) + 1)) 0 (upd (SL.2 0) ((SL.1 2 : Int32)).toNatClampNeg x2)) := by unfold f_X5_add; try rw [if_neg c1, if_pos c2]; first | done | rfl
      exact ww_vret X hr (congrArg (fun u9 : St => wX5 cI cZ cQ rL u9) h3.symm) dX5_add_154
    · skip
      refine Decidable.byCases (fun (c4 : x1 = 112) => ?_) (fun (c4 : ¬ x1 = 112) => ?_)
      · refine ww_lookup (off := 70) (tgt := 80) X dX5_add_10 (by decide) (by rw [c4]; rfl) (by decide) ?_
        refine ww_aload_n (pc := 80) X dX5_add_80 0 rfl rfl ?_
        refine ww_get (pc := 81) (ci := 5) (v := .ref (rL 2)) (C := RX5) (T := TX5) (N := 11) X inX5_add_5 0 rfl rfl 6 (by decide) (by decide +kernel) rfl dX5_add_81 ?_
        refine ww_aload_n (pc := 84) X dX5_add_84 0 rfl rfl ?_
        refine ww_get (pc := 85) (ci := 5) (v := .int (SL.1 3)) (C := RX5) (T := TX5) (N := 11) X inX5_add_5 0 rfl rfl 3 (by decide) (by decide +kernel) rfl dX5_add_85 ?_
        refine ww_iload_n (pc := 88) X dX5_add_88 2 rfl rfl ?_
        refine ww_iast (pc := 89) (f := SL.2 1) (ws' := wX5 cI cZ cQ rL (sA SL 1 (upd (SL.2 1) ((SL.1 3 : Int32)).toNatClampNeg x2))) X 2 0 rfl rfl (rm_p okN c1 c4) rfl dX5_add_89 ?_
        refine ww_aload_n (pc := 90) X dX5_add_90 0 rfl rfl ?_
        refine ww_get (pc := 91) (ci := 5) (v := .ref (rL 3)) (C := RX5) (T := TX5) (N := 11) X inX5_add_5 0 rfl rfl 7 (by decide) (by decide +kernel) rfl dX5_add_91 ?_
        refine ww_aload_n (pc := 94) X dX5_add_94 0 rfl rfl ?_
        refine ww_get (pc := 95) (ci := 5) (v := .int (SL.1 3)) (C := RX5) (T := TX5) (N := 11) X inX5_add_5 0 rfl rfl 3 (by decide) (by decide +kernel) rfl dX5_add_95 ?_
        refine ww_iload_n (pc := 98) X dX5_add_98 3 rfl rfl ?_
        refine ww_iast (pc := 99) (f := SL.2 2) (ws' := wX5 cI cZ cQ rL (sA (sA SL 1 (upd (SL.2 1) ((SL.1 3 : Int32)).toNatClampNeg x2)) 2 (upd (SL.2 2) ((SL.1 3 : Int32)).toNatClampNeg x3))) X 3 0 rfl rfl (rm_p okN c1 c4) rfl dX5_add_99 ?_
        refine ww_aload_n (pc := 100) X dX5_add_100 0 rfl rfl ?_
        refine ww_dup (pc := 101) X dX5_add_101 rfl ?_
        refine ww_get (pc := 102) (ci := 5) (v := .int (SL.1 3)) (C := RX5) (T := TX5) (N := 11) X inX5_add_5 0 rfl rfl 3 (by decide) (by decide +kernel) rfl dX5_add_102 ?_
        refine ww_iconst (pc := 105) (v := 1) X dX5_add_105 (by decide) ?_
        refine ww_iadd (pc := 106) X dX5_add_106 ?_
        refine ww_put (pc := 107) (ci := 5) (v := .int ((SL.1 3) + 1)) (C := RX5) (T := TX5) (N := 11) (ws' := wX5 cI cZ cQ rL (sA (sA (sI SL 3 ((SL.1 3) + 1)) 1 (upd (SL.2 1) ((SL.1 3 : Int32)).toNatClampNeg x2)) 2 (upd (SL.2 2) ((SL.1 3 : Int32)).toNatClampNeg x3))) X inX5_add_5 tyX5 tyX5_ok nmX5 0 rfl rfl 3 (by decide) (by decide +kernel) rfl rfl rfl (Nat.le_of_ble_eq_true rfl) rfl dX5_add_107 ?_
        refine ww_goto (pc := 110) (tgt := 154) X dX5_add_110 (by decide) ?_
        have h5 : f_X5_add SL x1 x2 x3 x4 = (sA (sA (sI SL 3 ((SL.1 3) + 1)) 1 (upd (SL.2 1) ((SL.1 3 : Int32)).toNatClampNeg x2)) 2 (upd (SL.2 2) ((SL.1 3 : Int32)).toNatClampNeg x3)) := by unfold f_X5_add; try rw [if_neg c1, if_neg c2, if_pos c4]; first | done | rfl
        exact ww_vret X hr (congrArg (fun u9 : St => wX5 cI cZ cQ rL u9) h5.symm) dX5_add_154
      · skip
        refine Decidable.byCases (fun (c6 : x1 = 115) => ?_) (fun (c6 : ¬ x1 = 115) => ?_)
        · refine ww_lookup (off := 34) (tgt := 44) X dX5_add_10 (by decide) (by rw [c6]; rfl) (by decide) ?_
          refine ww_aload_n (pc := 44) X dX5_add_44 0 rfl rfl ?_
          refine ww_iload_n (pc := 45) X dX5_add_45 2 rfl rfl ?_
          refine ww_put (pc := 46) (ci := 5) (v := .int x2) (C := RX5) (T := TX5) (N := 11) (ws' := wX5 cI cZ cQ rL (sI SL 0 x2)) X inX5_add_5 tyX5 tyX5_ok nmX5 0 rfl rfl 0 (by decide) (by decide +kernel) rfl rfl rfl (Nat.le_of_ble_eq_true rfl) rfl dX5_add_46 ?_
          refine ww_aload_n (pc := 49) X dX5_add_49 0 rfl rfl ?_
          refine ww_iload_n (pc := 50) X dX5_add_50 3 rfl rfl ?_
          refine ww_put (pc := 51) (ci := 5) (v := .int x3) (C := RX5) (T := TX5) (N := 11) (ws' := wX5 cI cZ cQ rL (sI (sI SL 0 x2) 1 x3)) X inX5_add_5 tyX5 tyX5_ok nmX5 0 rfl rfl 1 (by decide) (by decide +kernel) rfl rfl rfl (Nat.le_of_ble_eq_true rfl) rfl dX5_add_51 ?_
          refine ww_goto (pc := 54) (tgt := 154) X dX5_add_54 (by decide) ?_
          have h7 : f_X5_add SL x1 x2 x3 x4 = (sI (sI SL 0 x2) 1 x3) := by unfold f_X5_add; try rw [if_neg c1, if_neg c2, if_neg c4, if_pos c6]; first | done | rfl
          exact ww_vret X hr (congrArg (fun u9 : St => wX5 cI cZ cQ rL u9) h7.symm) dX5_add_154
        · skip
          refine ww_lookup (off := 103) (tgt := 113) X dX5_add_10 (by decide) (by
            simp only [Op.lookupswitch.offset]
            have q100 : ¬ (x1).toInt = 100 := fun h => c2 (Int32.toInt_inj.mp (h.trans (by decide)))
            have q112 : ¬ (x1).toInt = 112 := fun h => c4 (Int32.toInt_inj.mp (h.trans (by decide)))
            have q115 : ¬ (x1).toInt = 115 := fun h => c6 (Int32.toInt_inj.mp (h.trans (by decide)))
            first | (simp_all; done) | (split <;> simp_all; done) | (repeat' split) <;> first | rfl | omega) (by decide) ?_
          refine ww_aload_n (pc := 113) X dX5_add_113 0 rfl rfl ?_
          refine ww_get (pc := 114) (ci := 5) (v := .ref (rL 4)) (C := RX5) (T := TX5) (N := 11) X inX5_add_5 0 rfl rfl 8 (by decide) (by decide +kernel) rfl dX5_add_114 ?_
          refine ww_aload_n (pc := 117) X dX5_add_117 0 rfl rfl ?_
          refine ww_get (pc := 118) (ci := 5) (v := .int (SL.1 4)) (C := RX5) (T := TX5) (N := 11) X inX5_add_5 0 rfl rfl 4 (by decide) (by decide +kernel) rfl dX5_add_118 ?_
          refine ww_iload_n (pc := 121) X dX5_add_121 2 rfl rfl ?_
          refine ww_iast (pc := 122) (f := SL.2 3) (ws' := wX5 cI cZ cQ rL (sA SL 3 (upd (SL.2 3) ((SL.1 4 : Int32)).toNatClampNeg x2))) X 4 0 rfl rfl (rm_g okN c1 c2 c4 c6) rfl dX5_add_122 ?_
          refine ww_aload_n (pc := 123) X dX5_add_123 0 rfl rfl ?_
          refine ww_get (pc := 124) (ci := 5) (v := .ref (rL 5)) (C := RX5) (T := TX5) (N := 11) X inX5_add_5 0 rfl rfl 9 (by decide) (by decide +kernel) rfl dX5_add_124 ?_
          refine ww_aload_n (pc := 127) X dX5_add_127 0 rfl rfl ?_
          refine ww_get (pc := 128) (ci := 5) (v := .int (SL.1 4)) (C := RX5) (T := TX5) (N := 11) X inX5_add_5 0 rfl rfl 4 (by decide) (by decide +kernel) rfl dX5_add_128 ?_
          refine ww_iload_n (pc := 131) X dX5_add_131 3 rfl rfl ?_
          refine ww_iast (pc := 132) (f := SL.2 4) (ws' := wX5 cI cZ cQ rL (sA (sA SL 3 (upd (SL.2 3) ((SL.1 4 : Int32)).toNatClampNeg x2)) 4 (upd (SL.2 4) ((SL.1 4 : Int32)).toNatClampNeg x3))) X 5 0 rfl rfl (rm_g okN c1 c2 c4 c6) rfl dX5_add_132 ?_
          refine ww_aload_n (pc := 133) X dX5_add_133 0 rfl rfl ?_
          refine ww_get (pc := 134) (ci := 5) (v := .ref (rL 6)) (C := RX5) (T := TX5) (N := 11) X inX5_add_5 0 rfl rfl 10 (by decide) (by decide +kernel) rfl dX5_add_134 ?_
          refine ww_aload_n (pc := 137) X dX5_add_137 0 rfl rfl ?_
          refine ww_get (pc := 138) (ci := 5) (v := .int (SL.1 4)) (C := RX5) (T := TX5) (N := 11) X inX5_add_5 0 rfl rfl 4 (by decide) (by decide +kernel) rfl dX5_add_138 ?_
          refine ww_iload (pc := 141) X dX5_add_141 4 rfl ?_
          refine ww_iast (pc := 143) (f := SL.2 5) (ws' := wX5 cI cZ cQ rL (sA (sA (sA SL 3 (upd (SL.2 3) ((SL.1 4 : Int32)).toNatClampNeg x2)) 4 (upd (SL.2 4) ((SL.1 4 : Int32)).toNatClampNeg x3)) 5 (upd (SL.2 5) ((SL.1 4 : Int32)).toNatClampNeg x4))) X 6 0 rfl rfl (rm_g okN c1 c2 c4 c6) rfl dX5_add_143 ?_
          refine ww_aload_n (pc := 144) X dX5_add_144 0 rfl rfl ?_
          refine ww_dup (pc := 145) X dX5_add_145 rfl ?_
          refine ww_get (pc := 146) (ci := 5) (v := .int (SL.1 4)) (C := RX5) (T := TX5) (N := 11) X inX5_add_5 0 rfl rfl 4 (by decide) (by decide +kernel) rfl dX5_add_146 ?_
          refine ww_iconst (pc := 149) (v := 1) X dX5_add_149 (by decide) ?_
          refine ww_iadd (pc := 150) X dX5_add_150 ?_
          refine ww_put (pc := 151) (ci := 5) (v := .int ((SL.1 4) + 1)) (C := RX5) (T := TX5) (N := 11) (ws' := wX5 cI cZ cQ rL (sA (sA (sA (sI SL 4 ((SL.1 4) + 1)) 3 (upd (SL.2 3) ((SL.1 4 : Int32)).toNatClampNeg x2)) 4 (upd (SL.2 4) ((SL.1 4 : Int32)).toNatClampNeg x3)) 5 (upd (SL.2 5) ((SL.1 4 : Int32)).toNatClampNeg x4))) X inX5_add_5 tyX5 tyX5_ok nmX5 0 rfl rfl 4 (by decide) (by decide +kernel) rfl rfl rfl (Nat.le_of_ble_eq_true rfl) rfl dX5_add_151 ?_
          have h8 : f_X5_add SL x1 x2 x3 x4 = (sA (sA (sA (sI SL 4 ((SL.1 4) + 1)) 3 (upd (SL.2 3) ((SL.1 4 : Int32)).toNatClampNeg x2)) 4 (upd (SL.2 4) ((SL.1 4 : Int32)).toNatClampNeg x3)) 5 (upd (SL.2 5) ((SL.1 4 : Int32)).toNatClampNeg x4)) := by unfold f_X5_add; try rw [if_neg c1, if_neg c2, if_neg c4, if_neg c6]; first | done | rfl
          exact ww_vret X hr (congrArg (fun u9 : St => wX5 cI cZ cQ rL u9) h8.symm) dX5_add_154
  · have h9 : f_X5_add SL x1 x2 x3 x4 = SL := by unfold f_X5_add; try rw [if_pos c1]; first | done | rfl
    exact ww_vret X hr (congrArg (fun u9 : St => wX5 cI cZ cQ rL u9) h9.symm) dX5_add_8
def f_X5_kingAt (SL : St) (x1 : Int32) : Int32 :=
  if (SL.1 1) ≤ 0 then
    0
  else
    x1 / (SL.1 1)
theorem inX5_kingAt_5 : ∀ w ∈ wsX50, w ∈ wsX5_kingAt := by decide +kernel
theorem hd_X5_kingAt : yX5_kingAt.cls = RX5 ∧ yX5_kingAt.cls ≠ "java/lang/invoke/MethodHandle" ∧ yX5_kingAt.cls ≠ "java/lang/invoke/VarHandle" ∧ (parseMethodDescriptor yX5_kingAt.desc).map (fun d => d.parameters.length) = some 1 := by decide +kernel
set_option maxHeartbeats 4000000 in
set_option maxRecDepth 100000 in
theorem c_X5_kingAt (l : Launch) (D : va_G) (cI cZ cQ : ClassId) (rL : Nat → Nat) (SL : St) (x1 : Int32) : Ci l yX5_kingAt wsX5_kingAt { frames := 0, cells := 0, slots := 0, locals := 0 } D (tyL cI cZ cQ) [.ref (rL 0), .int x1] (wX5 cI cZ cQ rL SL) (f_X5_kingAt SL x1) (wX5 cI cZ cQ rL SL) := by
  refine ci_of (cc := cX5_kingAt) (nL := 2) (ty := .int) (lv0 := [(0, .ref (rL 0)), (1, .int x1)]) (by decide) rfl (Nat.le_of_ble_eq_true rfl) rfl ?_
  intro p e s m args below meth c A X hr
  refine ww_aload_n (pc := 0) X dX5_kingAt_0 0 rfl rfl ?_
  refine ww_get (pc := 1) (ci := 5) (v := .int (SL.1 1)) (C := RX5) (T := TX5) (N := 11) X inX5_kingAt_5 0 rfl rfl 1 (by decide) (by decide +kernel) rfl dX5_kingAt_1 ?_
  refine ww_if_le (pc := 4) (tgt := 16) X dX5_kingAt_4 (by decide) (fun c1 => ?_) (fun c1 => ?_)
  · refine ww_iconst (pc := 16) (v := 0) X dX5_kingAt_16 (by decide) ?_
    exact ww_iret X hr rfl (Eq.symm (by unfold f_X5_kingAt; try rw [if_pos c1]; first | done | rfl)) rfl dX5_kingAt_17
  · refine ww_iload_n (pc := 7) X dX5_kingAt_7 1 rfl rfl ?_
    refine ww_aload_n (pc := 8) X dX5_kingAt_8 0 rfl rfl ?_
    refine ww_get (pc := 9) (ci := 5) (v := .int (SL.1 1)) (C := RX5) (T := TX5) (N := 11) X inX5_kingAt_5 0 rfl rfl 1 (by decide) (by decide +kernel) rfl dX5_kingAt_9 ?_
    refine ww_idiv (pc := 12) X dX5_kingAt_12 (ne_nle c1) ?_
    refine ww_goto (pc := 13) (tgt := 17) X dX5_kingAt_13 (by decide) ?_
    exact ww_iret X hr rfl (Eq.symm (by unfold f_X5_kingAt; try rw [if_neg c1]; first | done | rfl)) rfl dX5_kingAt_17
def f_X5_daysIn (SL : St) (x1 : Int32) (x2 : Int32) : Int32 :=
  if (f_X5_hasDepth SL x1) = 0 then
    0
  else
    if ((SL.2 0) ((x1 : Int32)).toNatClampNeg) ≤ 0 then
      0
    else
      x2 / ((SL.2 0) ((x1 : Int32)).toNatClampNeg)
theorem inX5_daysIn_5 : ∀ w ∈ wsX50, w ∈ wsX5_daysIn := by decide +kernel
theorem hd_X5_daysIn : yX5_daysIn.cls = RX5 ∧ yX5_daysIn.cls ≠ "java/lang/invoke/MethodHandle" ∧ yX5_daysIn.cls ≠ "java/lang/invoke/VarHandle" ∧ (parseMethodDescriptor yX5_daysIn.desc).map (fun d => d.parameters.length) = some 2 := by decide +kernel
set_option maxHeartbeats 4000000 in
set_option maxRecDepth 100000 in
theorem c_X5_daysIn (l : Launch) (D : va_G) (cI cZ cQ : ClassId) (rL : Nat → Nat) (SL : St) (x1 : Int32) (x2 : Int32) : Ci l yX5_daysIn wsX5_daysIn { frames := 1, cells := 0, slots := 0, locals := 21 } D (tyL cI cZ cQ) [.ref (rL 0), .int x1, .int x2] (wX5 cI cZ cQ rL SL) (f_X5_daysIn SL x1 x2) (wX5 cI cZ cQ rL SL) := by
  refine ci_of (cc := cX5_daysIn) (nL := 3) (ty := .int) (lv0 := [(0, .ref (rL 0)), (1, .int x1), (2, .int x2)]) (by decide) rfl (Nat.le_of_ble_eq_true rfl) rfl ?_
  intro p e s m args below meth c A X hr
  refine ww_aload_n (pc := 0) X dX5_daysIn_0 0 rfl rfl ?_
  refine ww_iload_n (pc := 1) X dX5_daysIn_1 1 rfl rfl ?_
  refine ww_cVi (pc := 2) (rest := []) (wsN := wX5 cI cZ cQ rL SL) (ci := 5) (q0 := 0) X (c_X5_hasDepth l D cI cZ cQ rL SL x1) gX5_daysIn_X5_hasDepth rfl hd_X5_hasDepth [0, 1, 2, 3, 4, 5, 6] rfl (by decide) rfl rfl rfl rfl rfl rfl ⟨rfl, rfl⟩ ⟨Nat.le_of_ble_eq_true rfl, Nat.le_of_ble_eq_true rfl⟩ (Nat.le_of_ble_eq_true rfl) ⟨Nat.zero_le _, Nat.zero_le _⟩ dX5_daysIn_2 ?_
  refine ww_if_eq (pc := 5) (tgt := 28) X dX5_daysIn_5 (by decide) (fun c1 => ?_) (fun c1 => ?_)
  · refine ww_iconst (pc := 28) (v := 0) X dX5_daysIn_28 (by decide) ?_
    exact ww_iret X hr rfl (Eq.symm (by unfold f_X5_daysIn; try rw [if_pos c1]; first | done | rfl)) rfl dX5_daysIn_29
  · refine ww_aload_n (pc := 8) X dX5_daysIn_8 0 rfl rfl ?_
    refine ww_get (pc := 9) (ci := 5) (v := .ref (rL 1)) (C := RX5) (T := TX5) (N := 11) X inX5_daysIn_5 0 rfl rfl 5 (by decide) (by decide +kernel) rfl dX5_daysIn_9 ?_
    refine ww_iload_n (pc := 12) X dX5_daysIn_12 1 rfl rfl ?_
    refine ww_iald (pc := 13) (f := SL.2 0) X 1 0 rfl rfl (in_X5_hasDepth c1) dX5_daysIn_13 ?_
    refine ww_if_le (pc := 14) (tgt := 28) X dX5_daysIn_14 (by decide) (fun c2 => ?_) (fun c2 => ?_)
    · refine ww_iconst (pc := 28) (v := 0) X dX5_daysIn_28 (by decide) ?_
      exact ww_iret X hr rfl (Eq.symm (by unfold f_X5_daysIn; try rw [if_neg c1, if_pos c2]; first | done | rfl)) rfl dX5_daysIn_29
    · refine ww_iload_n (pc := 17) X dX5_daysIn_17 2 rfl rfl ?_
      refine ww_aload_n (pc := 18) X dX5_daysIn_18 0 rfl rfl ?_
      refine ww_get (pc := 19) (ci := 5) (v := .ref (rL 1)) (C := RX5) (T := TX5) (N := 11) X inX5_daysIn_5 0 rfl rfl 5 (by decide) (by decide +kernel) rfl dX5_daysIn_19 ?_
      refine ww_iload_n (pc := 22) X dX5_daysIn_22 1 rfl rfl ?_
      refine ww_iald (pc := 23) (f := SL.2 0) X 1 0 rfl rfl (in_X5_hasDepth c1) dX5_daysIn_23 ?_
      refine ww_idiv (pc := 24) X dX5_daysIn_24 (ne_nle c2) ?_
      refine ww_goto (pc := 25) (tgt := 29) X dX5_daysIn_25 (by decide) ?_
      exact ww_iret X hr rfl (Eq.symm (by unfold f_X5_daysIn; try rw [if_neg c1, if_neg c2]; first | done | rfl)) rfl dX5_daysIn_29
def f_X5_worthNextYear (SL : St) (x1 : Int32) (x2 : Int32) : Int32 :=
  if (f_X5_hasGood SL x1) = 0 then
    x2
  else
    if ((SL.2 4) ((x1 : Int32)).toNatClampNeg) ≤ 50 then
      if ((SL.2 5) ((x1 : Int32)).toNatClampNeg) < (x2 + ((x2 * ((SL.2 4) ((x1 : Int32)).toNatClampNeg)) / 100)) then
        x2
      else
        x2 + ((x2 * ((SL.2 4) ((x1 : Int32)).toNatClampNeg)) / 100)
    else
      x2 - ((x2 * (((SL.2 4) ((x1 : Int32)).toNatClampNeg) - 50)) / 100)
theorem inX5_worthNextYear_5 : ∀ w ∈ wsX50, w ∈ wsX5_worthNextYear := by decide +kernel
theorem hd_X5_worthNextYear : yX5_worthNextYear.cls = RX5 ∧ yX5_worthNextYear.cls ≠ "java/lang/invoke/MethodHandle" ∧ yX5_worthNextYear.cls ≠ "java/lang/invoke/VarHandle" ∧ (parseMethodDescriptor yX5_worthNextYear.desc).map (fun d => d.parameters.length) = some 2 := by decide +kernel
set_option maxHeartbeats 4000000 in
set_option maxRecDepth 100000 in
theorem c_X5_worthNextYear (l : Launch) (D : va_G) (cI cZ cQ : ClassId) (rL : Nat → Nat) (SL : St) (x1 : Int32) (x2 : Int32) : Ci l yX5_worthNextYear wsX5_worthNextYear { frames := 1, cells := 0, slots := 0, locals := 21 } D (tyL cI cZ cQ) [.ref (rL 0), .int x1, .int x2] (wX5 cI cZ cQ rL SL) (f_X5_worthNextYear SL x1 x2) (wX5 cI cZ cQ rL SL) := by
  refine ci_of (cc := cX5_worthNextYear) (nL := 4) (ty := .int) (lv0 := [(0, .ref (rL 0)), (1, .int x1), (2, .int x2)]) (by decide) rfl (Nat.le_of_ble_eq_true rfl) rfl ?_
  intro p e s m args below meth c A X hr
  refine ww_aload_n (pc := 0) X dX5_worthNextYear_0 0 rfl rfl ?_
  refine ww_iload_n (pc := 1) X dX5_worthNextYear_1 1 rfl rfl ?_
  refine ww_cVi (pc := 2) (rest := []) (wsN := wX5 cI cZ cQ rL SL) (ci := 5) (q0 := 0) X (c_X5_hasGood l D cI cZ cQ rL SL x1) gX5_worthNextYear_X5_hasGood rfl hd_X5_hasGood [0, 1, 2, 3, 4, 5, 6] rfl (by decide) rfl rfl rfl rfl rfl rfl ⟨rfl, rfl⟩ ⟨Nat.le_of_ble_eq_true rfl, Nat.le_of_ble_eq_true rfl⟩ (Nat.le_of_ble_eq_true rfl) ⟨Nat.zero_le _, Nat.zero_le _⟩ dX5_worthNextYear_2 ?_
  refine ww_if_ne (pc := 5) (tgt := 10) X dX5_worthNextYear_5 (by decide) (fun c1 => ?_) (fun c1 => ?_)
  · refine ww_aload_n (pc := 10) X dX5_worthNextYear_10 0 rfl rfl ?_
    refine ww_get (pc := 11) (ci := 5) (v := .ref (rL 5)) (C := RX5) (T := TX5) (N := 11) X inX5_worthNextYear_5 0 rfl rfl 9 (by decide) (by decide +kernel) rfl dX5_worthNextYear_11 ?_
    refine ww_iload_n (pc := 14) X dX5_worthNextYear_14 1 rfl rfl ?_
    refine ww_iald (pc := 15) (f := SL.2 4) X 5 0 rfl rfl (in_X5_hasGood c1) dX5_worthNextYear_15 ?_
    refine ww_bipush (pc := 16) (v := 50) X dX5_worthNextYear_16 (by decide) ?_
    refine ww_icmp_le (pc := 18) (tgt := 38) X dX5_worthNextYear_18 (by decide) (fun c2 => ?_) (fun c2 => ?_)
    · refine ww_iload_n (pc := 38) X dX5_worthNextYear_38 2 rfl rfl ?_
      refine ww_iload_n (pc := 39) X dX5_worthNextYear_39 2 rfl rfl ?_
      refine ww_aload_n (pc := 40) X dX5_worthNextYear_40 0 rfl rfl ?_
      refine ww_get (pc := 41) (ci := 5) (v := .ref (rL 5)) (C := RX5) (T := TX5) (N := 11) X inX5_worthNextYear_5 0 rfl rfl 9 (by decide) (by decide +kernel) rfl dX5_worthNextYear_41 ?_
      refine ww_iload_n (pc := 44) X dX5_worthNextYear_44 1 rfl rfl ?_
      refine ww_iald (pc := 45) (f := SL.2 4) X 5 0 rfl rfl (in_X5_hasGood c1) dX5_worthNextYear_45 ?_
      refine ww_imul (pc := 46) X dX5_worthNextYear_46 ?_
      refine ww_bipush (pc := 47) (v := 100) X dX5_worthNextYear_47 (by decide) ?_
      refine ww_idiv (pc := 49) X dX5_worthNextYear_49 (by decide) ?_
      refine ww_iadd (pc := 50) X dX5_worthNextYear_50 ?_
      refine ww_istore_n (pc := 51) (lv' := [(3, .int (x2 + ((x2 * ((SL.2 4) ((x1 : Int32)).toNatClampNeg)) / 100))), (0, .ref (rL 0)), (1, .int x1), (2, .int x2)]) X dX5_worthNextYear_51 rfl (by decide) rfl ?_
      refine ww_iload_n (pc := 52) X dX5_worthNextYear_52 0 rfl rfl ?_
      refine ww_aload_n (pc := 53) X dX5_worthNextYear_53 1 rfl rfl ?_
      refine ww_get (pc := 54) (ci := 5) (v := .ref (rL 6)) (C := RX5) (T := TX5) (N := 11) X inX5_worthNextYear_5 0 rfl rfl 10 (by decide) (by decide +kernel) rfl dX5_worthNextYear_54 ?_
      refine ww_iload_n (pc := 57) X dX5_worthNextYear_57 2 rfl rfl ?_
      refine ww_iald (pc := 58) (f := SL.2 5) X 6 0 rfl rfl (in_X5_hasGood c1) dX5_worthNextYear_58 ?_
      refine ww_icmp_gt (pc := 59) (tgt := 66) X dX5_worthNextYear_59 (by decide) (fun c3 => ?_) (fun c3 => ?_)
      · refine ww_iload_n (pc := 66) X dX5_worthNextYear_66 3 rfl rfl ?_
        exact ww_iret X hr rfl (Eq.symm (by unfold f_X5_worthNextYear; try rw [if_neg c1, if_pos c2, if_pos c3]; first | done | rfl)) rfl dX5_worthNextYear_67
      · refine ww_iload_n (pc := 62) X dX5_worthNextYear_62 0 rfl rfl ?_
        refine ww_goto (pc := 63) (tgt := 67) X dX5_worthNextYear_63 (by decide) ?_
        exact ww_iret X hr rfl (Eq.symm (by unfold f_X5_worthNextYear; try rw [if_neg c1, if_pos c2, if_neg c3]; first | done | rfl)) rfl dX5_worthNextYear_67
    · refine ww_iload_n (pc := 21) X dX5_worthNextYear_21 2 rfl rfl ?_
      refine ww_iload_n (pc := 22) X dX5_worthNextYear_22 2 rfl rfl ?_
      refine ww_aload_n (pc := 23) X dX5_worthNextYear_23 0 rfl rfl ?_
      refine ww_get (pc := 24) (ci := 5) (v := .ref (rL 5)) (C := RX5) (T := TX5) (N := 11) X inX5_worthNextYear_5 0 rfl rfl 9 (by decide) (by decide +kernel) rfl dX5_worthNextYear_24 ?_
      refine ww_iload_n (pc := 27) X dX5_worthNextYear_27 1 rfl rfl ?_
      refine ww_iald (pc := 28) (f := SL.2 4) X 5 0 rfl rfl (in_X5_hasGood c1) dX5_worthNextYear_28 ?_
      refine ww_bipush (pc := 29) (v := 50) X dX5_worthNextYear_29 (by decide) ?_
      refine ww_isub (pc := 31) X dX5_worthNextYear_31 ?_
      refine ww_imul (pc := 32) X dX5_worthNextYear_32 ?_
      refine ww_bipush (pc := 33) (v := 100) X dX5_worthNextYear_33 (by decide) ?_
      refine ww_idiv (pc := 35) X dX5_worthNextYear_35 (by decide) ?_
      refine ww_isub (pc := 36) X dX5_worthNextYear_36 ?_
      exact ww_iret X hr rfl (Eq.symm (by unfold f_X5_worthNextYear; try rw [if_neg c1, if_neg c2]; first | done | rfl)) rfl dX5_worthNextYear_37
  · refine ww_iload_n (pc := 8) X dX5_worthNextYear_8 2 rfl rfl ?_
    exact ww_iret X hr rfl (Eq.symm (by unfold f_X5_worthNextYear; try rw [if_pos c1]; first | done | rfl)) rfl dX5_worthNextYear_9
def l0_X5_worthBehind_6 (SL : St) (x1 : Int32) (x2 : Int32) (x3 : Int32) (j : Nat) (u : Int32) : Int32 :=
  u
def lb_X5_worthBehind_6 (SL : St) (x1 : Int32) (x2 : Int32) (x3 : Int32) (rec : Nat → (Int32) → Int32) (j : Nat) (u : Int32) : Int32 :=
  if (f_X5_worthNextYear SL x1 u) = u then
    u
  else
    rec (j + 1) (f_X5_worthNextYear SL x1 u)
def lp_X5_worthBehind_6 (SL : St) (x1 : Int32) (x2 : Int32) (x3 : Int32) : Nat → Nat → (Int32) → Int32
  | 0, j, u => l0_X5_worthBehind_6 SL x1 x2 x3 j u
  | k + 1, j, u => lb_X5_worthBehind_6 SL x1 x2 x3 (lp_X5_worthBehind_6 SL x1 x2 x3 k) j u
def f_X5_worthBehind (SL : St) (x1 : Int32) (x2 : Int32) (x3 : Int32) : Int32 :=
  lp_X5_worthBehind_6 SL x1 x2 x3 x3.toNatClampNeg 0 x2
theorem hd_X5_worthBehind : yX5_worthBehind.cls = RX5 ∧ yX5_worthBehind.cls ≠ "java/lang/invoke/MethodHandle" ∧ yX5_worthBehind.cls ≠ "java/lang/invoke/VarHandle" ∧ (parseMethodDescriptor yX5_worthBehind.desc).map (fun d => d.parameters.length) = some 3 := by decide +kernel
set_option maxHeartbeats 4000000 in
set_option maxRecDepth 100000 in
theorem c_X5_worthBehind (l : Launch) (D : va_G) (cI cZ cQ : ClassId) (rL : Nat → Nat) (SL : St) (x1 : Int32) (x2 : Int32) (x3 : Int32) : Ci l yX5_worthBehind wsX5_worthBehind { frames := 2, cells := 0, slots := 0, locals := 44 } D (tyL cI cZ cQ) [.ref (rL 0), .int x1, .int x2, .int x3] (wX5 cI cZ cQ rL SL) (f_X5_worthBehind SL x1 x2 x3) (wX5 cI cZ cQ rL SL) := by
  refine ci_of (cc := cX5_worthBehind) (nL := 7) (ty := .int) (lv0 := [(0, .ref (rL 0)), (1, .int x1), (2, .int x2), (3, .int x3)]) (by decide) rfl (Nat.le_of_ble_eq_true rfl) rfl ?_
  intro p e s m args below meth c A X hr
  refine ww_iload_n (pc := 0) X dX5_worthBehind_0 2 rfl rfl ?_
  refine ww_istore (pc := 1) (lv' := [(4, .int x2), (0, .ref (rL 0)), (1, .int x1), (2, .int x2), (3, .int x3)]) X dX5_worthBehind_1 (by decide) rfl ?_
  refine ww_iconst (pc := 3) (v := 0) X dX5_worthBehind_3 (by decide) ?_
  refine ww_istore (pc := 4) (lv' := [(5, .int 0), (4, .int x2), (0, .ref (rL 0)), (1, .int x1), (2, .int x2), (3, .int x3)]) X dX5_worthBehind_4 (by decide) rfl ?_
  have L6 : ∀ (k_6 j_6 : Nat) (u_6 : Int32), j_6 + k_6 = x3.toNatClampNeg → True → f_X5_worthBehind SL x1 x2 x3 = lp_X5_worthBehind_6 SL x1 x2 x3 k_6 j_6 u_6 → WW p l e (headSpec wsX5_worthBehind { frames := 2, cells := 0, slots := 0, locals := 44 }).room s m args below meth c 7 D A 0 0 (RQi below args s D A (f_X5_worthBehind SL x1 x2 x3) (wX5 cI cZ cQ rL SL)) (wX5 cI cZ cQ rL SL) [(0, .ref (rL 0)), (1, .int x1), (2, .int x2), (3, .int x3), (4, .int u_6), (5, .int (nI j_6))] 6 [] := by
    intro k_6
    induction k_6 with
    | zero =>
      intro j_6 u_6 hj hi hf
      have hjB : j_6 = x3.toNatClampNeg := by omega
      subst hjB
      refine ww_iload (pc := 6) X dX5_worthBehind_6 5 rfl ?_
      refine ww_iload_n (pc := 8) X dX5_worthBehind_8 3 rfl rfl ?_
      refine ww_icmp_ge (pc := 9) (tgt := 41) X dX5_worthBehind_9 (by decide) (fun _ => ?_) (fun c9 => absurd (lp_ge0c (Nat.le_refl _) (cl_lt _)) c9)
      refine ww_iload (pc := 41) X dX5_worthBehind_41 4 rfl ?_
      exact ww_iret X hr rfl (Eq.symm (by rw [hf]; show l0_X5_worthBehind_6 SL x1 x2 x3 x3.toNatClampNeg u_6 = _; unfold l0_X5_worthBehind_6; first | done | rfl)) rfl dX5_worthBehind_43
    | succ k_6 ih =>
      intro j_6 u_6 hj hi hf
      have hjB : j_6 < x3.toNatClampNeg := by omega
      refine ww_iload (pc := 6) X dX5_worthBehind_6 5 rfl ?_
      refine ww_iload_n (pc := 8) X dX5_worthBehind_8 3 rfl rfl ?_
      refine ww_icmp_ge (pc := 9) (tgt := 41) X dX5_worthBehind_9 (by decide) (fun c9 => absurd c9 (lp_ge1c hjB)) (fun _ => ?_)
      refine ww_aload_n (pc := 12) X dX5_worthBehind_12 0 rfl rfl ?_
      refine ww_iload_n (pc := 13) X dX5_worthBehind_13 1 rfl rfl ?_
      refine ww_iload (pc := 14) X dX5_worthBehind_14 4 rfl ?_
      refine ww_cVi (pc := 16) (rest := []) (wsN := wX5 cI cZ cQ rL SL) (ci := 5) (q0 := 0) X (c_X5_worthNextYear l D cI cZ cQ rL SL x1 u_6) gX5_worthBehind_X5_worthNextYear rfl hd_X5_worthNextYear [0, 1, 2, 3, 4, 5, 6] rfl (by decide) rfl rfl rfl rfl rfl rfl ⟨rfl, rfl⟩ ⟨Nat.le_of_ble_eq_true rfl, Nat.le_of_ble_eq_true rfl⟩ (Nat.le_of_ble_eq_true rfl) ⟨Nat.zero_le _, Nat.zero_le _⟩ dX5_worthBehind_16 ?_
      refine ww_istore (pc := 19) (lv' := [(6, .int (f_X5_worthNextYear SL x1 u_6)), (0, .ref (rL 0)), (1, .int x1), (2, .int x2), (3, .int x3), (4, .int u_6), (5, .int (nI j_6))]) X dX5_worthBehind_19 (by decide) rfl ?_
      refine ww_iload (pc := 21) X dX5_worthBehind_21 0 rfl ?_
      refine ww_iload (pc := 23) X dX5_worthBehind_23 5 rfl ?_
      refine ww_icmp_ne (pc := 25) (tgt := 31) X dX5_worthBehind_25 (by decide) (fun c2 => ?_) (fun c2 => ?_)
      · refine ww_iload (pc := 31) X dX5_worthBehind_31 0 rfl ?_
        refine ww_istore (pc := 33) (lv' := [(4, .int (f_X5_worthNextYear SL x1 u_6)), (6, .int (f_X5_worthNextYear SL x1 u_6)), (0, .ref (rL 0)), (1, .int x1), (2, .int x2), (3, .int x3), (5, .int (nI j_6))]) X dX5_worthBehind_33 (by decide) rfl ?_
        refine ww_iinc (pc := 35) (v := (nI j_6) + 1) (lv' := [(5, .int ((nI j_6) + 1)), (4, .int (f_X5_worthNextYear SL x1 u_6)), (6, .int (f_X5_worthNextYear SL x1 u_6)), (0, .ref (rL 0)), (1, .int x1), (2, .int x2), (3, .int x3)]) X dX5_worthBehind_35 6 rfl rfl (by decide) rfl ?_
        refine ww_goto (pc := 38) (tgt := 6) X dX5_worthBehind_38 (by decide) ?_
        refine ww_lsub [3, 4, 5, 6, 1, 0] rfl ?_
        have h3 : f_X5_worthBehind SL x1 x2 x3 = lp_X5_worthBehind_6 SL x1 x2 x3 k_6 (j_6 + 1) (f_X5_worthNextYear SL x1 u_6) := by rw [hf]; show lb_X5_worthBehind_6 SL x1 x2 x3 (lp_X5_worthBehind_6 SL x1 x2 x3 k_6) j_6 u_6 = _; unfold lb_X5_worthBehind_6; try rw [if_neg c2]; first | done | rfl
        exact ww_cast rfl (congrArg (fun (i9 : Int32) => ([(0, .ref (rL 0)), (1, .int x1), (2, .int x2), (3, .int x3), (4, .int (f_X5_worthNextYear SL x1 u_6)), (5, .int i9)] : List (Nat × Value))) (nI_1 j_6).symm) (ih (j_6 + 1) (f_X5_worthNextYear SL x1 u_6) (by omega) trivial h3)
      · refine ww_iload (pc := 28) X dX5_worthBehind_28 5 rfl ?_
        exact ww_iret X hr rfl (Eq.symm (by rw [hf]; show lb_X5_worthBehind_6 SL x1 x2 x3 (lp_X5_worthBehind_6 SL x1 x2 x3 k_6) j_6 u_6 = _; unfold lb_X5_worthBehind_6; try rw [if_pos c2]; first | done | rfl)) rfl dX5_worthBehind_30
  refine ww_lsub [2, 3, 4, 5, 1, 0] rfl ?_
  exact L6 x3.toNatClampNeg 0 x2 (by omega) trivial (by unfold f_X5_worthBehind; first | done | rfl)
end
section
def f_X3_isPerson (x0 : Int32) : Int32 :=
  if x0 < 0 then
    0
  else
    if 7 ≤ x0 then
      0
    else
      1
theorem in_X3_isPerson {x : Int32} (h : ¬ f_X3_isPerson x = 0) : vp_in x 7 := by
  unfold f_X3_isPerson at h
  split at h
  · exact absurd rfl h
  split at h
  · exact absurd rfl h
  exact vin_nge (by assumption) (by assumption) rfl
theorem hd_X3_isPerson : yX3_isPerson.cls = RX3 ∧ yX3_isPerson.cls ≠ "java/lang/invoke/MethodHandle" ∧ yX3_isPerson.cls ≠ "java/lang/invoke/VarHandle" ∧ (parseMethodDescriptor yX3_isPerson.desc).map (fun d => d.parameters.length) = some 1 := by decide +kernel
set_option maxHeartbeats 4000000 in
set_option maxRecDepth 100000 in
theorem c_X3_isPerson (l : Launch) (D : va_G) (cI cZ cQ : ClassId) (x0 : Int32) : Ci l yX3_isPerson wsX3_isPerson { frames := 0, cells := 0, slots := 0, locals := 0 } D (tyL cI cZ cQ) [.int x0] ([]) (f_X3_isPerson x0) ([]) := by
  refine ci_of (cc := cX3_isPerson) (nL := 1) (ty := .boolean) (lv0 := [(0, .int x0)]) (by decide) rfl (Nat.le_of_ble_eq_true rfl) rfl ?_
  intro p e s m args below meth c A X hr
  refine ww_iload_n (pc := 0) X dX3_isPerson_0 0 rfl rfl ?_
  refine ww_if_lt (pc := 1) (tgt := 14) X dX3_isPerson_1 (by decide) (fun c1 => ?_) (fun c1 => ?_)
  · refine ww_iconst (pc := 14) (v := 0) X dX3_isPerson_14 (by decide) ?_
    exact ww_iret X hr rfl (Eq.symm (by unfold f_X3_isPerson; try rw [if_pos c1]; first | done | rfl)) rfl dX3_isPerson_15
  · refine ww_iload_n (pc := 4) X dX3_isPerson_4 0 rfl rfl ?_
    refine ww_bipush (pc := 5) (v := 7) X dX3_isPerson_5 (by decide) ?_
    refine ww_icmp_ge (pc := 7) (tgt := 14) X dX3_isPerson_7 (by decide) (fun c2 => ?_) (fun c2 => ?_)
    · refine ww_iconst (pc := 14) (v := 0) X dX3_isPerson_14 (by decide) ?_
      exact ww_iret X hr rfl (Eq.symm (by unfold f_X3_isPerson; try rw [if_neg c1, if_pos c2]; first | done | rfl)) rfl dX3_isPerson_15
    · refine ww_iconst (pc := 10) (v := 1) X dX3_isPerson_10 (by decide) ?_
      refine ww_goto (pc := 11) (tgt := 15) X dX3_isPerson_11 (by decide) ?_
      exact ww_iret X hr rfl (Eq.symm (by unfold f_X3_isPerson; try rw [if_neg c1, if_neg c2]; first | done | rfl)) rfl dX3_isPerson_15
def f_X3_isGood (x0 : Int32) : Int32 :=
  if x0 < 0 then
    0
  else
    if 6 ≤ x0 then
      0
    else
      1
theorem in_X3_isGood {x : Int32} (h : ¬ f_X3_isGood x = 0) : vp_in x 6 := by
  unfold f_X3_isGood at h
  split at h
  · exact absurd rfl h
  split at h
  · exact absurd rfl h
  exact vin_nge (by assumption) (by assumption) rfl
theorem hd_X3_isGood : yX3_isGood.cls = RX3 ∧ yX3_isGood.cls ≠ "java/lang/invoke/MethodHandle" ∧ yX3_isGood.cls ≠ "java/lang/invoke/VarHandle" ∧ (parseMethodDescriptor yX3_isGood.desc).map (fun d => d.parameters.length) = some 1 := by decide +kernel
set_option maxHeartbeats 4000000 in
set_option maxRecDepth 100000 in
theorem c_X3_isGood (l : Launch) (D : va_G) (cI cZ cQ : ClassId) (x0 : Int32) : Ci l yX3_isGood wsX3_isGood { frames := 0, cells := 0, slots := 0, locals := 0 } D (tyL cI cZ cQ) [.int x0] ([]) (f_X3_isGood x0) ([]) := by
  refine ci_of (cc := cX3_isGood) (nL := 1) (ty := .boolean) (lv0 := [(0, .int x0)]) (by decide) rfl (Nat.le_of_ble_eq_true rfl) rfl ?_
  intro p e s m args below meth c A X hr
  refine ww_iload_n (pc := 0) X dX3_isGood_0 0 rfl rfl ?_
  refine ww_if_lt (pc := 1) (tgt := 14) X dX3_isGood_1 (by decide) (fun c1 => ?_) (fun c1 => ?_)
  · refine ww_iconst (pc := 14) (v := 0) X dX3_isGood_14 (by decide) ?_
    exact ww_iret X hr rfl (Eq.symm (by unfold f_X3_isGood; try rw [if_pos c1]; first | done | rfl)) rfl dX3_isGood_15
  · refine ww_iload_n (pc := 4) X dX3_isGood_4 0 rfl rfl ?_
    refine ww_bipush (pc := 5) (v := 6) X dX3_isGood_5 (by decide) ?_
    refine ww_icmp_ge (pc := 7) (tgt := 14) X dX3_isGood_7 (by decide) (fun c2 => ?_) (fun c2 => ?_)
    · refine ww_iconst (pc := 14) (v := 0) X dX3_isGood_14 (by decide) ?_
      exact ww_iret X hr rfl (Eq.symm (by unfold f_X3_isGood; try rw [if_neg c1, if_pos c2]; first | done | rfl)) rfl dX3_isGood_15
    · refine ww_iconst (pc := 10) (v := 1) X dX3_isGood_10 (by decide) ?_
      refine ww_goto (pc := 11) (tgt := 15) X dX3_isGood_11 (by decide) ?_
      exact ww_iret X hr rfl (Eq.symm (by unfold f_X3_isGood; try rw [if_neg c1, if_neg c2]; first | done | rfl)) rfl dX3_isGood_15
def f_X3_years (SF : St) : Int32 :=
  (SF.2 0) ((0 : Int32)).toNatClampNeg
theorem inX3_years_3 : ∀ w ∈ wsX30, w ∈ wsX3_years := by decide +kernel
theorem hd_X3_years : yX3_years.cls = RX3 ∧ yX3_years.cls ≠ "java/lang/invoke/MethodHandle" ∧ yX3_years.cls ≠ "java/lang/invoke/VarHandle" ∧ (parseMethodDescriptor yX3_years.desc).map (fun d => d.parameters.length) = some 0 := by decide +kernel
set_option maxHeartbeats 4000000 in
set_option maxRecDepth 100000 in
theorem c_X3_years (l : Launch) (D : va_G) (cI cZ cQ : ClassId) (rF : Nat → Nat) (SF : St) : Ci l yX3_years wsX3_years { frames := 0, cells := 0, slots := 0, locals := 0 } D (tyL cI cZ cQ) [.ref (rF 0)] (wX3 cI cZ cQ rF SF) (f_X3_years SF) (wX3 cI cZ cQ rF SF) := by
  refine ci_of (cc := cX3_years) (nL := 1) (ty := .int) (lv0 := [(0, .ref (rF 0))]) (by decide) rfl (Nat.le_of_ble_eq_true rfl) rfl ?_
  intro p e s m args below meth c A X hr
  refine ww_aload_n (pc := 0) X dX3_years_0 0 rfl rfl ?_
  refine ww_get (pc := 1) (ci := 3) (v := .ref (rF 1)) (C := RX3) (T := TX3) (N := 1) X inX3_years_3 0 rfl rfl 0 (by decide) (by decide +kernel) rfl dX3_years_1 ?_
  refine ww_iconst (pc := 4) (v := 0) X dX3_years_4 (by decide) ?_
  refine ww_iald (pc := 5) (f := SF.2 0) X 1 0 rfl rfl (vl_in (by decide)) dX3_years_5 ?_
  exact ww_iret X hr rfl (Eq.symm (by unfold f_X3_years; first | done | rfl)) rfl dX3_years_6
def f_X3_age (SF : St) (x1 : Int32) : Int32 :=
  if (f_X3_isPerson x1) = 0 then
    0
  else
    (SF.2 0) ((1 + x1 : Int32)).toNatClampNeg
theorem inX3_age_3 : ∀ w ∈ wsX30, w ∈ wsX3_age := by decide +kernel
theorem hd_X3_age : yX3_age.cls = RX3 ∧ yX3_age.cls ≠ "java/lang/invoke/MethodHandle" ∧ yX3_age.cls ≠ "java/lang/invoke/VarHandle" ∧ (parseMethodDescriptor yX3_age.desc).map (fun d => d.parameters.length) = some 1 := by decide +kernel
set_option maxHeartbeats 4000000 in
set_option maxRecDepth 100000 in
theorem c_X3_age (l : Launch) (D : va_G) (cI cZ cQ : ClassId) (rF : Nat → Nat) (SF : St) (x1 : Int32) : Ci l yX3_age wsX3_age { frames := 1, cells := 0, slots := 0, locals := 20 } D (tyL cI cZ cQ) [.ref (rF 0), .int x1] (wX3 cI cZ cQ rF SF) (f_X3_age SF x1) (wX3 cI cZ cQ rF SF) := by
  refine ci_of (cc := cX3_age) (nL := 2) (ty := .int) (lv0 := [(0, .ref (rF 0)), (1, .int x1)]) (by decide) rfl (Nat.le_of_ble_eq_true rfl) rfl ?_
  intro p e s m args below meth c A X hr
  refine ww_iload_n (pc := 0) X dX3_age_0 1 rfl rfl ?_
  refine ww_cSi (pc := 1) (rest := []) (wsN := wX3 cI cZ cQ rF SF) X (c_X3_isPerson l D cI cZ cQ x1) gX3_age_X3_isPerson rfl hd_X3_isPerson [] rfl (by decide) rfl rfl rfl ⟨rfl, rfl⟩ ⟨Nat.le_of_ble_eq_true rfl, Nat.le_of_ble_eq_true rfl⟩ (Nat.le_of_ble_eq_true rfl) ⟨Nat.zero_le _, Nat.zero_le _⟩ dX3_age_1 ?_
  refine ww_if_eq (pc := 4) (tgt := 18) X dX3_age_4 (by decide) (fun c1 => ?_) (fun c1 => ?_)
  · refine ww_iconst (pc := 18) (v := 0) X dX3_age_18 (by decide) ?_
    exact ww_iret X hr rfl (Eq.symm (by unfold f_X3_age; try rw [if_pos c1]; first | done | rfl)) rfl dX3_age_19
  · refine ww_aload_n (pc := 7) X dX3_age_7 0 rfl rfl ?_
    refine ww_get (pc := 8) (ci := 3) (v := .ref (rF 1)) (C := RX3) (T := TX3) (N := 1) X inX3_age_3 0 rfl rfl 0 (by decide) (by decide +kernel) rfl dX3_age_8 ?_
    refine ww_iconst (pc := 11) (v := 1) X dX3_age_11 (by decide) ?_
    refine ww_iload_n (pc := 12) X dX3_age_12 1 rfl rfl ?_
    refine ww_iadd (pc := 13) X dX3_age_13 ?_
    refine ww_iald (pc := 14) (f := SF.2 0) X 1 0 rfl rfl (vp_off (n := 7) (in_X3_isPerson c1) rfl (by decide) (by decide)) dX3_age_14 ?_
    refine ww_goto (pc := 15) (tgt := 19) X dX3_age_15 (by decide) ?_
    exact ww_iret X hr rfl (Eq.symm (by unfold f_X3_age; try rw [if_neg c1]; first | done | rfl)) rfl dX3_age_19
def f_X3_place (SF : St) (x1 : Int32) : Int32 :=
  if (f_X3_isPerson x1) = 0 then
    1
  else
    (SF.2 0) ((8 + x1 : Int32)).toNatClampNeg
theorem inX3_place_3 : ∀ w ∈ wsX30, w ∈ wsX3_place := by decide +kernel
theorem hd_X3_place : yX3_place.cls = RX3 ∧ yX3_place.cls ≠ "java/lang/invoke/MethodHandle" ∧ yX3_place.cls ≠ "java/lang/invoke/VarHandle" ∧ (parseMethodDescriptor yX3_place.desc).map (fun d => d.parameters.length) = some 1 := by decide +kernel
set_option maxHeartbeats 4000000 in
set_option maxRecDepth 100000 in
theorem c_X3_place (l : Launch) (D : va_G) (cI cZ cQ : ClassId) (rF : Nat → Nat) (SF : St) (x1 : Int32) : Ci l yX3_place wsX3_place { frames := 1, cells := 0, slots := 0, locals := 20 } D (tyL cI cZ cQ) [.ref (rF 0), .int x1] (wX3 cI cZ cQ rF SF) (f_X3_place SF x1) (wX3 cI cZ cQ rF SF) := by
  refine ci_of (cc := cX3_place) (nL := 2) (ty := .int) (lv0 := [(0, .ref (rF 0)), (1, .int x1)]) (by decide) rfl (Nat.le_of_ble_eq_true rfl) rfl ?_
  intro p e s m args below meth c A X hr
  refine ww_iload_n (pc := 0) X dX3_place_0 1 rfl rfl ?_
  refine ww_cSi (pc := 1) (rest := []) (wsN := wX3 cI cZ cQ rF SF) X (c_X3_isPerson l D cI cZ cQ x1) gX3_place_X3_isPerson rfl hd_X3_isPerson [] rfl (by decide) rfl rfl rfl ⟨rfl, rfl⟩ ⟨Nat.le_of_ble_eq_true rfl, Nat.le_of_ble_eq_true rfl⟩ (Nat.le_of_ble_eq_true rfl) ⟨Nat.zero_le _, Nat.zero_le _⟩ dX3_place_1 ?_
  refine ww_if_eq (pc := 4) (tgt := 19) X dX3_place_4 (by decide) (fun c1 => ?_) (fun c1 => ?_)
  · refine ww_iconst (pc := 19) (v := 1) X dX3_place_19 (by decide) ?_
    exact ww_iret X hr rfl (Eq.symm (by unfold f_X3_place; try rw [if_pos c1]; first | done | rfl)) rfl dX3_place_20
  · refine ww_aload_n (pc := 7) X dX3_place_7 0 rfl rfl ?_
    refine ww_get (pc := 8) (ci := 3) (v := .ref (rF 1)) (C := RX3) (T := TX3) (N := 1) X inX3_place_3 0 rfl rfl 0 (by decide) (by decide +kernel) rfl dX3_place_8 ?_
    refine ww_bipush (pc := 11) (v := 8) X dX3_place_11 (by decide) ?_
    refine ww_iload_n (pc := 13) X dX3_place_13 1 rfl rfl ?_
    refine ww_iadd (pc := 14) X dX3_place_14 ?_
    refine ww_iald (pc := 15) (f := SF.2 0) X 1 0 rfl rfl (vp_off (n := 7) (in_X3_isPerson c1) rfl (by decide) (by decide)) dX3_place_15 ?_
    refine ww_goto (pc := 16) (tgt := 20) X dX3_place_16 (by decide) ?_
    exact ww_iret X hr rfl (Eq.symm (by unfold f_X3_place; try rw [if_neg c1]; first | done | rfl)) rfl dX3_place_20
def f_X3_box (SF : St) (x1 : Int32) : Int32 :=
  if (f_X3_isPerson x1) = 0 then
    0
  else
    (SF.2 0) ((15 + x1 : Int32)).toNatClampNeg
theorem inX3_box_3 : ∀ w ∈ wsX30, w ∈ wsX3_box := by decide +kernel
theorem hd_X3_box : yX3_box.cls = RX3 ∧ yX3_box.cls ≠ "java/lang/invoke/MethodHandle" ∧ yX3_box.cls ≠ "java/lang/invoke/VarHandle" ∧ (parseMethodDescriptor yX3_box.desc).map (fun d => d.parameters.length) = some 1 := by decide +kernel
set_option maxHeartbeats 4000000 in
set_option maxRecDepth 100000 in
theorem c_X3_box (l : Launch) (D : va_G) (cI cZ cQ : ClassId) (rF : Nat → Nat) (SF : St) (x1 : Int32) : Ci l yX3_box wsX3_box { frames := 1, cells := 0, slots := 0, locals := 20 } D (tyL cI cZ cQ) [.ref (rF 0), .int x1] (wX3 cI cZ cQ rF SF) (f_X3_box SF x1) (wX3 cI cZ cQ rF SF) := by
  refine ci_of (cc := cX3_box) (nL := 2) (ty := .int) (lv0 := [(0, .ref (rF 0)), (1, .int x1)]) (by decide) rfl (Nat.le_of_ble_eq_true rfl) rfl ?_
  intro p e s m args below meth c A X hr
  refine ww_iload_n (pc := 0) X dX3_box_0 1 rfl rfl ?_
  refine ww_cSi (pc := 1) (rest := []) (wsN := wX3 cI cZ cQ rF SF) X (c_X3_isPerson l D cI cZ cQ x1) gX3_box_X3_isPerson rfl hd_X3_isPerson [] rfl (by decide) rfl rfl rfl ⟨rfl, rfl⟩ ⟨Nat.le_of_ble_eq_true rfl, Nat.le_of_ble_eq_true rfl⟩ (Nat.le_of_ble_eq_true rfl) ⟨Nat.zero_le _, Nat.zero_le _⟩ dX3_box_1 ?_
  refine ww_if_eq (pc := 4) (tgt := 19) X dX3_box_4 (by decide) (fun c1 => ?_) (fun c1 => ?_)
  · refine ww_iconst (pc := 19) (v := 0) X dX3_box_19 (by decide) ?_
    exact ww_iret X hr rfl (Eq.symm (by unfold f_X3_box; try rw [if_pos c1]; first | done | rfl)) rfl dX3_box_20
  · refine ww_aload_n (pc := 7) X dX3_box_7 0 rfl rfl ?_
    refine ww_get (pc := 8) (ci := 3) (v := .ref (rF 1)) (C := RX3) (T := TX3) (N := 1) X inX3_box_3 0 rfl rfl 0 (by decide) (by decide +kernel) rfl dX3_box_8 ?_
    refine ww_bipush (pc := 11) (v := 15) X dX3_box_11 (by decide) ?_
    refine ww_iload_n (pc := 13) X dX3_box_13 1 rfl rfl ?_
    refine ww_iadd (pc := 14) X dX3_box_14 ?_
    refine ww_iald (pc := 15) (f := SF.2 0) X 1 0 rfl rfl (vp_off (n := 7) (in_X3_isPerson c1) rfl (by decide) (by decide)) dX3_box_15 ?_
    refine ww_goto (pc := 16) (tgt := 20) X dX3_box_16 (by decide) ?_
    exact ww_iret X hr rfl (Eq.symm (by unfold f_X3_box; try rw [if_neg c1]; first | done | rfl)) rfl dX3_box_20
def f_X3_worth (SF : St) (x1 : Int32) : Int32 :=
  if (f_X3_isGood x1) = 0 then
    0
  else
    (SF.2 0) ((29 + x1 : Int32)).toNatClampNeg
theorem inX3_worth_3 : ∀ w ∈ wsX30, w ∈ wsX3_worth := by decide +kernel
theorem hd_X3_worth : yX3_worth.cls = RX3 ∧ yX3_worth.cls ≠ "java/lang/invoke/MethodHandle" ∧ yX3_worth.cls ≠ "java/lang/invoke/VarHandle" ∧ (parseMethodDescriptor yX3_worth.desc).map (fun d => d.parameters.length) = some 1 := by decide +kernel
set_option maxHeartbeats 4000000 in
set_option maxRecDepth 100000 in
theorem c_X3_worth (l : Launch) (D : va_G) (cI cZ cQ : ClassId) (rF : Nat → Nat) (SF : St) (x1 : Int32) : Ci l yX3_worth wsX3_worth { frames := 1, cells := 0, slots := 0, locals := 20 } D (tyL cI cZ cQ) [.ref (rF 0), .int x1] (wX3 cI cZ cQ rF SF) (f_X3_worth SF x1) (wX3 cI cZ cQ rF SF) := by
  refine ci_of (cc := cX3_worth) (nL := 2) (ty := .int) (lv0 := [(0, .ref (rF 0)), (1, .int x1)]) (by decide) rfl (Nat.le_of_ble_eq_true rfl) rfl ?_
  intro p e s m args below meth c A X hr
  refine ww_iload_n (pc := 0) X dX3_worth_0 1 rfl rfl ?_
  refine ww_cSi (pc := 1) (rest := []) (wsN := wX3 cI cZ cQ rF SF) X (c_X3_isGood l D cI cZ cQ x1) gX3_worth_X3_isGood rfl hd_X3_isGood [] rfl (by decide) rfl rfl rfl ⟨rfl, rfl⟩ ⟨Nat.le_of_ble_eq_true rfl, Nat.le_of_ble_eq_true rfl⟩ (Nat.le_of_ble_eq_true rfl) ⟨Nat.zero_le _, Nat.zero_le _⟩ dX3_worth_1 ?_
  refine ww_if_eq (pc := 4) (tgt := 19) X dX3_worth_4 (by decide) (fun c1 => ?_) (fun c1 => ?_)
  · refine ww_iconst (pc := 19) (v := 0) X dX3_worth_19 (by decide) ?_
    exact ww_iret X hr rfl (Eq.symm (by unfold f_X3_worth; try rw [if_pos c1]; first | done | rfl)) rfl dX3_worth_20
  · refine ww_aload_n (pc := 7) X dX3_worth_7 0 rfl rfl ?_
    refine ww_get (pc := 8) (ci := 3) (v := .ref (rF 1)) (C := RX3) (T := TX3) (N := 1) X inX3_worth_3 0 rfl rfl 0 (by decide) (by decide +kernel) rfl dX3_worth_8 ?_
    refine ww_bipush (pc := 11) (v := 29) X dX3_worth_11 (by decide) ?_
    refine ww_iload_n (pc := 13) X dX3_worth_13 1 rfl rfl ?_
    refine ww_iadd (pc := 14) X dX3_worth_14 ?_
    refine ww_iald (pc := 15) (f := SF.2 0) X 1 0 rfl rfl (vp_off (n := 6) (in_X3_isGood c1) rfl (by decide) (by decide)) dX3_worth_15 ?_
    refine ww_goto (pc := 16) (tgt := 20) X dX3_worth_16 (by decide) ?_
    exact ww_iret X hr rfl (Eq.symm (by unfold f_X3_worth; try rw [if_neg c1]; first | done | rfl)) rfl dX3_worth_20
def f_X3_isAbove (SF : St) (x1 : Int32) : Int32 :=
  if (f_X3_place SF x1) = 0 then
    1
  else
    0
theorem in_X3_isAbove {S : St} {x : Int32} (h : ¬ f_X3_isAbove S x = 0) : vp_in x 7 := by
  unfold f_X3_isAbove f_X3_place at h
  by_cases h1 : f_X3_isPerson x = 0
  · rw [if_pos h1] at h
    exact absurd (if_neg (by decide)) h
  · exact in_X3_isPerson h1
theorem hd_X3_isAbove : yX3_isAbove.cls = RX3 ∧ yX3_isAbove.cls ≠ "java/lang/invoke/MethodHandle" ∧ yX3_isAbove.cls ≠ "java/lang/invoke/VarHandle" ∧ (parseMethodDescriptor yX3_isAbove.desc).map (fun d => d.parameters.length) = some 1 := by decide +kernel
set_option maxHeartbeats 4000000 in
set_option maxRecDepth 100000 in
theorem c_X3_isAbove (l : Launch) (D : va_G) (cI cZ cQ : ClassId) (rF : Nat → Nat) (SF : St) (x1 : Int32) : Ci l yX3_isAbove wsX3_isAbove { frames := 2, cells := 0, slots := 0, locals := 41 } D (tyL cI cZ cQ) [.ref (rF 0), .int x1] (wX3 cI cZ cQ rF SF) (f_X3_isAbove SF x1) (wX3 cI cZ cQ rF SF) := by
  refine ci_of (cc := cX3_isAbove) (nL := 2) (ty := .boolean) (lv0 := [(0, .ref (rF 0)), (1, .int x1)]) (by decide) rfl (Nat.le_of_ble_eq_true rfl) rfl ?_
  intro p e s m args below meth c A X hr
  refine ww_aload_n (pc := 0) X dX3_isAbove_0 0 rfl rfl ?_
  refine ww_iload_n (pc := 1) X dX3_isAbove_1 1 rfl rfl ?_
  refine ww_cVi (pc := 2) (rest := []) (wsN := wX3 cI cZ cQ rF SF) (ci := 3) (q0 := 0) X (c_X3_place l D cI cZ cQ rF SF x1) gX3_isAbove_X3_place rfl hd_X3_place [0, 1] rfl (by decide) rfl rfl rfl rfl rfl rfl ⟨rfl, rfl⟩ ⟨Nat.le_of_ble_eq_true rfl, Nat.le_of_ble_eq_true rfl⟩ (Nat.le_of_ble_eq_true rfl) ⟨Nat.zero_le _, Nat.zero_le _⟩ dX3_isAbove_2 ?_
  refine ww_if_ne (pc := 5) (tgt := 12) X dX3_isAbove_5 (by decide) (fun c1 => ?_) (fun c1 => ?_)
  · refine ww_iconst (pc := 12) (v := 0) X dX3_isAbove_12 (by decide) ?_
    exact ww_iret X hr rfl (Eq.symm (by unfold f_X3_isAbove; try rw [if_neg c1]; first | done | rfl)) rfl dX3_isAbove_13
  · refine ww_iconst (pc := 8) (v := 1) X dX3_isAbove_8 (by decide) ?_
    refine ww_goto (pc := 9) (tgt := 13) X dX3_isAbove_9 (by decide) ?_
    exact ww_iret X hr rfl (Eq.symm (by unfold f_X3_isAbove; try rw [if_pos c1]; first | done | rfl)) rfl dX3_isAbove_13
def f_X3_isBelow (SF : St) (x1 : Int32) : Int32 :=
  if (f_X3_place SF x1) < 10 then
    0
  else
    1
theorem in_X3_isBelow {S : St} {x : Int32} (h : ¬ f_X3_isBelow S x = 0) : vp_in x 7 := by
  unfold f_X3_isBelow f_X3_place at h
  by_cases h1 : f_X3_isPerson x = 0
  · rw [if_pos h1] at h
    exact absurd (by decide) h
  · exact in_X3_isPerson h1
theorem hd_X3_isBelow : yX3_isBelow.cls = RX3 ∧ yX3_isBelow.cls ≠ "java/lang/invoke/MethodHandle" ∧ yX3_isBelow.cls ≠ "java/lang/invoke/VarHandle" ∧ (parseMethodDescriptor yX3_isBelow.desc).map (fun d => d.parameters.length) = some 1 := by decide +kernel
set_option maxHeartbeats 4000000 in
set_option maxRecDepth 100000 in
theorem c_X3_isBelow (l : Launch) (D : va_G) (cI cZ cQ : ClassId) (rF : Nat → Nat) (SF : St) (x1 : Int32) : Ci l yX3_isBelow wsX3_isBelow { frames := 2, cells := 0, slots := 0, locals := 41 } D (tyL cI cZ cQ) [.ref (rF 0), .int x1] (wX3 cI cZ cQ rF SF) (f_X3_isBelow SF x1) (wX3 cI cZ cQ rF SF) := by
  refine ci_of (cc := cX3_isBelow) (nL := 2) (ty := .boolean) (lv0 := [(0, .ref (rF 0)), (1, .int x1)]) (by decide) rfl (Nat.le_of_ble_eq_true rfl) rfl ?_
  intro p e s m args below meth c A X hr
  refine ww_aload_n (pc := 0) X dX3_isBelow_0 0 rfl rfl ?_
  refine ww_iload_n (pc := 1) X dX3_isBelow_1 1 rfl rfl ?_
  refine ww_cVi (pc := 2) (rest := []) (wsN := wX3 cI cZ cQ rF SF) (ci := 3) (q0 := 0) X (c_X3_place l D cI cZ cQ rF SF x1) gX3_isBelow_X3_place rfl hd_X3_place [0, 1] rfl (by decide) rfl rfl rfl rfl rfl rfl ⟨rfl, rfl⟩ ⟨Nat.le_of_ble_eq_true rfl, Nat.le_of_ble_eq_true rfl⟩ (Nat.le_of_ble_eq_true rfl) ⟨Nat.zero_le _, Nat.zero_le _⟩ dX3_isBelow_2 ?_
  refine ww_bipush (pc := 5) (v := 10) X dX3_isBelow_5 (by decide) ?_
  refine ww_icmp_lt (pc := 7) (tgt := 14) X dX3_isBelow_7 (by decide) (fun c1 => ?_) (fun c1 => ?_)
  · refine ww_iconst (pc := 14) (v := 0) X dX3_isBelow_14 (by decide) ?_
    exact ww_iret X hr rfl (Eq.symm (by unfold f_X3_isBelow; try rw [if_pos c1]; first | done | rfl)) rfl dX3_isBelow_15
  · refine ww_iconst (pc := 10) (v := 1) X dX3_isBelow_10 (by decide) ?_
    refine ww_goto (pc := 11) (tgt := 15) X dX3_isBelow_11 (by decide) ?_
    exact ww_iret X hr rfl (Eq.symm (by unfold f_X3_isBelow; try rw [if_neg c1]; first | done | rfl)) rfl dX3_isBelow_15
def f_X3_daysBelow (SL : St) (SF : St) (x2 : Int32) : Int32 :=
  if (f_X3_isBelow SF x2) = 0 then
    0
  else
    f_X5_daysIn SL ((f_X3_place SF x2) - 10) ((SF.2 0) ((22 + x2 : Int32)).toNatClampNeg)
theorem inX3_daysBelow_3 : ∀ w ∈ wsX30, w ∈ wsX3_daysBelow := by decide +kernel
theorem hd_X3_daysBelow : yX3_daysBelow.cls = RX3 ∧ yX3_daysBelow.cls ≠ "java/lang/invoke/MethodHandle" ∧ yX3_daysBelow.cls ≠ "java/lang/invoke/VarHandle" ∧ (parseMethodDescriptor yX3_daysBelow.desc).map (fun d => d.parameters.length) = some 2 := by decide +kernel
set_option maxHeartbeats 4000000 in
set_option maxRecDepth 100000 in
theorem c_X3_daysBelow (l : Launch) (D : va_G) (cI cZ cQ : ClassId) (rL : Nat → Nat) (rF : Nat → Nat) (SL : St) (SF : St) (x2 : Int32) : Ci l yX3_daysBelow wsX3_daysBelow { frames := 3, cells := 0, slots := 0, locals := 62 } D (tyL cI cZ cQ) [.ref (rF 0), .ref (rL 0), .int x2] (wX5 cI cZ cQ rL SL ++ wX3 cI cZ cQ rF SF) (f_X3_daysBelow SL SF x2) (wX5 cI cZ cQ rL SL ++ wX3 cI cZ cQ rF SF) := by
  refine ci_of (cc := cX3_daysBelow) (nL := 3) (ty := .int) (lv0 := [(0, .ref (rF 0)), (1, .ref (rL 0)), (2, .int x2)]) (by decide) rfl (Nat.le_of_ble_eq_true rfl) rfl ?_
  intro p e s m args below meth c A X hr
  refine ww_aload_n (pc := 0) X dX3_daysBelow_0 0 rfl rfl ?_
  refine ww_iload_n (pc := 1) X dX3_daysBelow_1 2 rfl rfl ?_
  refine ww_cVi (pc := 2) (rest := []) (wsN := wX5 cI cZ cQ rL SL ++ wX3 cI cZ cQ rF SF) (ci := 3) (q0 := 0) X (c_X3_isBelow l D cI cZ cQ rF SF x2) gX3_daysBelow_X3_isBelow rfl hd_X3_isBelow [7, 8] rfl (by decide) rfl rfl rfl rfl rfl rfl ⟨rfl, rfl⟩ ⟨Nat.le_of_ble_eq_true rfl, Nat.le_of_ble_eq_true rfl⟩ (Nat.le_of_ble_eq_true rfl) ⟨Nat.zero_le _, Nat.zero_le _⟩ dX3_daysBelow_2 ?_
  refine ww_if_eq (pc := 5) (tgt := 32) X dX3_daysBelow_5 (by decide) (fun c1 => ?_) (fun c1 => ?_)
  · refine ww_iconst (pc := 32) (v := 0) X dX3_daysBelow_32 (by decide) ?_
    exact ww_iret X hr rfl (Eq.symm (by unfold f_X3_daysBelow; try rw [if_pos c1]; first | done | rfl)) rfl dX3_daysBelow_33
  · refine ww_aload_n (pc := 8) X dX3_daysBelow_8 1 rfl rfl ?_
    refine ww_aload_n (pc := 9) X dX3_daysBelow_9 0 rfl rfl ?_
    refine ww_iload_n (pc := 10) X dX3_daysBelow_10 2 rfl rfl ?_
    refine ww_cVi (pc := 11) (rest := [.ref (rL 0)]) (wsN := wX5 cI cZ cQ rL SL ++ wX3 cI cZ cQ rF SF) (ci := 3) (q0 := 0) X (c_X3_place l D cI cZ cQ rF SF x2) gX3_daysBelow_X3_place rfl hd_X3_place [7, 8] rfl (by decide) rfl rfl rfl rfl rfl rfl ⟨rfl, rfl⟩ ⟨Nat.le_of_ble_eq_true rfl, Nat.le_of_ble_eq_true rfl⟩ (Nat.le_of_ble_eq_true rfl) ⟨Nat.zero_le _, Nat.zero_le _⟩ dX3_daysBelow_11 ?_
    refine ww_bipush (pc := 14) (v := 10) X dX3_daysBelow_14 (by decide) ?_
    refine ww_isub (pc := 16) X dX3_daysBelow_16 ?_
    refine ww_aload_n (pc := 17) X dX3_daysBelow_17 0 rfl rfl ?_
    refine ww_get (pc := 18) (ci := 3) (v := .ref (rF 1)) (C := RX3) (T := TX3) (N := 1) X inX3_daysBelow_3 7 rfl rfl 0 (by decide) (by decide +kernel) rfl dX3_daysBelow_18 ?_
    refine ww_bipush (pc := 21) (v := 22) X dX3_daysBelow_21 (by decide) ?_
    refine ww_iload_n (pc := 23) X dX3_daysBelow_23 2 rfl rfl ?_
    refine ww_iadd (pc := 24) X dX3_daysBelow_24 ?_
    refine ww_iald (pc := 25) (f := SF.2 0) X 8 0 rfl rfl (vp_off (n := 7) (in_X3_isBelow c1) rfl (by decide) (by decide)) dX3_daysBelow_25 ?_
    refine ww_cVi (pc := 26) (rest := []) (wsN := wX5 cI cZ cQ rL SL ++ wX3 cI cZ cQ rF SF) (ci := 5) (q0 := 0) X (c_X5_daysIn l D cI cZ cQ rL SL ((f_X3_place SF x2) - 10) ((SF.2 0) ((22 + x2 : Int32)).toNatClampNeg)) gX3_daysBelow_X5_daysIn rfl hd_X5_daysIn [0, 1, 2, 3, 4, 5, 6] rfl (by decide) rfl rfl rfl rfl rfl rfl ⟨rfl, rfl⟩ ⟨Nat.le_of_ble_eq_true rfl, Nat.le_of_ble_eq_true rfl⟩ (Nat.le_of_ble_eq_true rfl) ⟨Nat.zero_le _, Nat.zero_le _⟩ dX3_daysBelow_26 ?_
    refine ww_goto (pc := 29) (tgt := 33) X dX3_daysBelow_29 (by decide) ?_
    exact ww_iret X hr rfl (Eq.symm (by unfold f_X3_daysBelow; try rw [if_neg c1]; first | done | rfl)) rfl dX3_daysBelow_33
def f_X3_goDown (SF : St) (x1 : Int32) (x2 : Int32) : St :=
  if (f_X3_isPerson x1) = 0 then
    SF
  else
    (sA SF 0 (upd (upd (SF.2 0) ((8 + x1 : Int32)).toNatClampNeg (10 + x2)) ((22 + x1 : Int32)).toNatClampNeg 0))
theorem inX3_goDown_3 : ∀ w ∈ wsX30, w ∈ wsX3_goDown := by decide +kernel
theorem hd_X3_goDown : yX3_goDown.cls = RX3 ∧ yX3_goDown.cls ≠ "java/lang/invoke/MethodHandle" ∧ yX3_goDown.cls ≠ "java/lang/invoke/VarHandle" ∧ (parseMethodDescriptor yX3_goDown.desc).map (fun d => d.parameters.length) = some 2 := by decide +kernel
set_option maxHeartbeats 4000000 in
set_option maxRecDepth 100000 in
theorem c_X3_goDown (l : Launch) (D : va_G) (cI cZ cQ : ClassId) (rF : Nat → Nat) (SF : St) (x1 : Int32) (x2 : Int32) : Cv l yX3_goDown wsX3_goDown { frames := 1, cells := 0, slots := 0, locals := 20 } D (tyL cI cZ cQ) [.ref (rF 0), .int x1, .int x2] (wX3 cI cZ cQ rF SF) (wX3 cI cZ cQ rF (f_X3_goDown SF x1 x2)) := by
  refine cv_of (cc := cX3_goDown) (nL := 3) (lv0 := [(0, .ref (rF 0)), (1, .int x1), (2, .int x2)]) (by decide) rfl (Nat.le_of_ble_eq_true rfl) rfl ?_
  intro p e s m args below meth c A X hr
  refine ww_iload_n (pc := 0) X dX3_goDown_0 1 rfl rfl ?_
  refine ww_cSi (pc := 1) (rest := []) (wsN := wX3 cI cZ cQ rF SF) X (c_X3_isPerson l D cI cZ cQ x1) gX3_goDown_X3_isPerson rfl hd_X3_isPerson [] rfl (by decide) rfl rfl rfl ⟨rfl, rfl⟩ ⟨Nat.le_of_ble_eq_true rfl, Nat.le_of_ble_eq_true rfl⟩ (Nat.le_of_ble_eq_true rfl) ⟨Nat.zero_le _, Nat.zero_le _⟩ dX3_goDown_1 ?_
  refine ww_if_eq (pc := 4) (tgt := 30) X dX3_goDown_4 (by decide) (fun c1 => ?_) (fun c1 => ?_)
  · have h2 : f_X3_goDown SF x1 x2 = SF := by unfold f_X3_goDown; try rw [if_pos c1]; first | done | rfl
    exact ww_vret X hr (congrArg (fun u9 : St => wX3 cI cZ cQ rF u9) h2.symm) dX3_goDown_30
  · refine ww_aload_n (pc := 7) X dX3_goDown_7 0 rfl rfl ?_
    refine ww_get (pc := 8) (ci := 3) (v := .ref (rF 1)) (C := RX3) (T := TX3) (N := 1) X inX3_goDown_3 0 rfl rfl 0 (by decide) (by decide +kernel) rfl dX3_goDown_8 ?_
    refine ww_bipush (pc := 11) (v := 8) X dX3_goDown_11 (by decide) ?_
    refine ww_iload_n (pc := 13) X dX3_goDown_13 1 rfl rfl ?_
    refine ww_iadd (pc := 14) X dX3_goDown_14 ?_
    refine ww_bipush (pc := 15) (v := 10) X dX3_goDown_15 (by decide) ?_
    refine ww_iload_n (pc := 17) X dX3_goDown_17 2 rfl rfl ?_
    refine ww_iadd (pc := 18) X dX3_goDown_18 ?_
    refine ww_iast (pc := 19) (f := SF.2 0) (ws' := wX3 cI cZ cQ rF (sA SF 0 (upd (SF.2 0) ((8 + x1 : Int32)).toNatClampNeg (10 + x2)))) X 1 0 rfl rfl (vp_off (n := 7) (in_X3_isPerson c1) rfl (by decide) (by decide)) rfl dX3_goDown_19 ?_
    refine ww_aload_n (pc := 20) X dX3_goDown_20 0 rfl rfl ?_
    refine ww_get (pc := 21) (ci := 3) (v := .ref (rF 1)) (C := RX3) (T := TX3) (N := 1) X inX3_goDown_3 0 rfl rfl 0 (by decide) (by decide +kernel) rfl dX3_goDown_21 ?_
    refine ww_bipush (pc := 24) (v := 22) X dX3_goDown_24 (by decide) ?_
    refine ww_iload_n (pc := 26) X dX3_goDown_26 1 rfl rfl ?_
    refine ww_iadd (pc := 27) X dX3_goDown_27 ?_
    refine ww_iconst (pc := 28) (v := 0) X dX3_goDown_28 (by decide) ?_
    refine ww_iast (pc := 29) (f := upd (SF.2 0) ((8 + x1 : Int32)).toNatClampNeg (10 + x2)) (ws' := wX3 cI cZ cQ rF (sA SF 0 (upd (upd (SF.2 0) ((8 + x1 : Int32)).toNatClampNeg (10 + x2)) ((22 + x1 : Int32)).toNatClampNeg 0))) X 1 0 rfl rfl (vp_off (n := 7) (in_X3_isPerson c1) rfl (by decide) (by decide)) rfl dX3_goDown_29 ?_
    have h3 : f_X3_goDown SF x1 x2 = (sA SF 0 (upd (upd (SF.2 0) ((8 + x1 : Int32)).toNatClampNeg (10 + x2)) ((22 + x1 : Int32)).toNatClampNeg 0)) := by unfold f_X3_goDown; try rw [if_neg c1]; first | done | rfl
    exact ww_vret X hr (congrArg (fun u9 : St => wX3 cI cZ cQ rF u9) h3.symm) dX3_goDown_30
def f_X3_comeUp (SF : St) (x1 : Int32) : St :=
  if (f_X3_isPerson x1) = 0 then
    SF
  else
    (sA SF 0 (upd (SF.2 0) ((8 + x1 : Int32)).toNatClampNeg 0))
theorem inX3_comeUp_3 : ∀ w ∈ wsX30, w ∈ wsX3_comeUp := by decide +kernel
theorem hd_X3_comeUp : yX3_comeUp.cls = RX3 ∧ yX3_comeUp.cls ≠ "java/lang/invoke/MethodHandle" ∧ yX3_comeUp.cls ≠ "java/lang/invoke/VarHandle" ∧ (parseMethodDescriptor yX3_comeUp.desc).map (fun d => d.parameters.length) = some 1 := by decide +kernel
set_option maxHeartbeats 4000000 in
set_option maxRecDepth 100000 in
theorem c_X3_comeUp (l : Launch) (D : va_G) (cI cZ cQ : ClassId) (rF : Nat → Nat) (SF : St) (x1 : Int32) : Cv l yX3_comeUp wsX3_comeUp { frames := 1, cells := 0, slots := 0, locals := 20 } D (tyL cI cZ cQ) [.ref (rF 0), .int x1] (wX3 cI cZ cQ rF SF) (wX3 cI cZ cQ rF (f_X3_comeUp SF x1)) := by
  refine cv_of (cc := cX3_comeUp) (nL := 2) (lv0 := [(0, .ref (rF 0)), (1, .int x1)]) (by decide) rfl (Nat.le_of_ble_eq_true rfl) rfl ?_
  intro p e s m args below meth c A X hr
  refine ww_iload_n (pc := 0) X dX3_comeUp_0 1 rfl rfl ?_
  refine ww_cSi (pc := 1) (rest := []) (wsN := wX3 cI cZ cQ rF SF) X (c_X3_isPerson l D cI cZ cQ x1) gX3_comeUp_X3_isPerson rfl hd_X3_isPerson [] rfl (by decide) rfl rfl rfl ⟨rfl, rfl⟩ ⟨Nat.le_of_ble_eq_true rfl, Nat.le_of_ble_eq_true rfl⟩ (Nat.le_of_ble_eq_true rfl) ⟨Nat.zero_le _, Nat.zero_le _⟩ dX3_comeUp_1 ?_
  refine ww_if_eq (pc := 4) (tgt := 17) X dX3_comeUp_4 (by decide) (fun c1 => ?_) (fun c1 => ?_)
  · have h2 : f_X3_comeUp SF x1 = SF := by unfold f_X3_comeUp; try rw [if_pos c1]; first | done | rfl
    exact ww_vret X hr (congrArg (fun u9 : St => wX3 cI cZ cQ rF u9) h2.symm) dX3_comeUp_17
  · refine ww_aload_n (pc := 7) X dX3_comeUp_7 0 rfl rfl ?_
    refine ww_get (pc := 8) (ci := 3) (v := .ref (rF 1)) (C := RX3) (T := TX3) (N := 1) X inX3_comeUp_3 0 rfl rfl 0 (by decide) (by decide +kernel) rfl dX3_comeUp_8 ?_
    refine ww_bipush (pc := 11) (v := 8) X dX3_comeUp_11 (by decide) ?_
    refine ww_iload_n (pc := 13) X dX3_comeUp_13 1 rfl rfl ?_
    refine ww_iadd (pc := 14) X dX3_comeUp_14 ?_
    refine ww_iconst (pc := 15) (v := 0) X dX3_comeUp_15 (by decide) ?_
    refine ww_iast (pc := 16) (f := SF.2 0) (ws' := wX3 cI cZ cQ rF (sA SF 0 (upd (SF.2 0) ((8 + x1 : Int32)).toNatClampNeg 0))) X 1 0 rfl rfl (vp_off (n := 7) (in_X3_isPerson c1) rfl (by decide) (by decide)) rfl dX3_comeUp_16 ?_
    have h3 : f_X3_comeUp SF x1 = (sA SF 0 (upd (SF.2 0) ((8 + x1 : Int32)).toNatClampNeg 0)) := by unfold f_X3_comeUp; try rw [if_neg c1]; first | done | rfl
    exact ww_vret X hr (congrArg (fun u9 : St => wX3 cI cZ cQ rF u9) h3.symm) dX3_comeUp_17
def f_X3_buryIfOld (SL : St) (SF : St) (x2 : Int32) : St :=
  if ((SF.2 0) ((1 + x2 : Int32)).toNatClampNeg) < ((SL.2 2) ((x2 : Int32)).toNatClampNeg) then
    SF
  else
    (sA SF 0 (upd (SF.2 0) ((8 + x2 : Int32)).toNatClampNeg 1))
theorem inX3_buryIfOld_3 : ∀ w ∈ wsX30, w ∈ wsX3_buryIfOld := by decide +kernel
theorem inX3_buryIfOld_5 : ∀ w ∈ wsX50, w ∈ wsX3_buryIfOld := by decide +kernel
theorem hd_X3_buryIfOld : yX3_buryIfOld.cls = RX3 ∧ yX3_buryIfOld.cls ≠ "java/lang/invoke/MethodHandle" ∧ yX3_buryIfOld.cls ≠ "java/lang/invoke/VarHandle" ∧ (parseMethodDescriptor yX3_buryIfOld.desc).map (fun d => d.parameters.length) = some 2 := by decide +kernel
set_option maxHeartbeats 4000000 in
set_option maxRecDepth 100000 in
theorem c_X3_buryIfOld (l : Launch) (D : va_G) (cI cZ cQ : ClassId) (rL : Nat → Nat) (rF : Nat → Nat) (SL : St) (SF : St) (x2 : Int32) (hx : vp_in x2 7) : Cv l yX3_buryIfOld wsX3_buryIfOld { frames := 0, cells := 0, slots := 0, locals := 0 } D (tyL cI cZ cQ) [.ref (rF 0), .ref (rL 0), .int x2] (wX5 cI cZ cQ rL SL ++ wX3 cI cZ cQ rF SF) (wX5 cI cZ cQ rL SL ++ wX3 cI cZ cQ rF (f_X3_buryIfOld SL SF x2)) := by
  refine cv_of (cc := cX3_buryIfOld) (nL := 3) (lv0 := [(0, .ref (rF 0)), (1, .ref (rL 0)), (2, .int x2)]) (by decide) rfl (Nat.le_of_ble_eq_true rfl) rfl ?_
  intro p e s m args below meth c A X hr
  refine ww_aload_n (pc := 0) X dX3_buryIfOld_0 0 rfl rfl ?_
  refine ww_get (pc := 1) (ci := 3) (v := .ref (rF 1)) (C := RX3) (T := TX3) (N := 1) X inX3_buryIfOld_3 7 rfl rfl 0 (by decide) (by decide +kernel) rfl dX3_buryIfOld_1 ?_
  refine ww_iconst (pc := 4) (v := 1) X dX3_buryIfOld_4 (by decide) ?_
  refine ww_iload_n (pc := 5) X dX3_buryIfOld_5 2 rfl rfl ?_
  refine ww_iadd (pc := 6) X dX3_buryIfOld_6 ?_
  refine ww_iald (pc := 7) (f := SF.2 0) X 8 0 rfl rfl (vp_off (n := 7) hx rfl (by decide) (by decide)) dX3_buryIfOld_7 ?_
  refine ww_aload_n (pc := 8) X dX3_buryIfOld_8 1 rfl rfl ?_
  refine ww_get (pc := 9) (ci := 5) (v := .ref (rL 3)) (C := RX5) (T := TX5) (N := 11) X inX3_buryIfOld_5 0 rfl rfl 7 (by decide) (by decide +kernel) rfl dX3_buryIfOld_9 ?_
  refine ww_iload_n (pc := 12) X dX3_buryIfOld_12 2 rfl rfl ?_
  refine ww_iald (pc := 13) (f := SL.2 2) X 3 0 rfl rfl hx dX3_buryIfOld_13 ?_
  refine ww_icmp_lt (pc := 14) (tgt := 27) X dX3_buryIfOld_14 (by decide) (fun c1 => ?_) (fun c1 => ?_)
  · have h2 : f_X3_buryIfOld SL SF x2 = SF := by unfold f_X3_buryIfOld; try rw [if_pos c1]; first | done | rfl
    exact ww_vret X hr (congrArg (fun u9 : St => wX5 cI cZ cQ rL SL ++ wX3 cI cZ cQ rF u9) h2.symm) dX3_buryIfOld_27
  · refine ww_aload_n (pc := 17) X dX3_buryIfOld_17 0 rfl rfl ?_
    refine ww_get (pc := 18) (ci := 3) (v := .ref (rF 1)) (C := RX3) (T := TX3) (N := 1) X inX3_buryIfOld_3 7 rfl rfl 0 (by decide) (by decide +kernel) rfl dX3_buryIfOld_18 ?_
    refine ww_bipush (pc := 21) (v := 8) X dX3_buryIfOld_21 (by decide) ?_
    refine ww_iload_n (pc := 23) X dX3_buryIfOld_23 2 rfl rfl ?_
    refine ww_iadd (pc := 24) X dX3_buryIfOld_24 ?_
    refine ww_iconst (pc := 25) (v := 1) X dX3_buryIfOld_25 (by decide) ?_
    refine ww_iast (pc := 26) (f := SF.2 0) (ws' := wX5 cI cZ cQ rL SL ++ wX3 cI cZ cQ rF (sA SF 0 (upd (SF.2 0) ((8 + x2 : Int32)).toNatClampNeg 1))) X 8 0 rfl rfl (vp_off (n := 7) hx rfl (by decide) (by decide)) rfl dX3_buryIfOld_26 ?_
    have h3 : f_X3_buryIfOld SL SF x2 = (sA SF 0 (upd (SF.2 0) ((8 + x2 : Int32)).toNatClampNeg 1)) := by unfold f_X3_buryIfOld; try rw [if_neg c1]; first | done | rfl
    exact ww_vret X hr (congrArg (fun u9 : St => wX5 cI cZ cQ rL SL ++ wX3 cI cZ cQ rF u9) h3.symm) dX3_buryIfOld_27
def f_X3_openBox_k1 (SL : St) (SF : St) (x2 : Int32) (z3 : St) : St :=
  z3
def f_X3_openBox (SL : St) (SF : St) (x2 : Int32) : St :=
  if (f_X3_isPerson x2) = 0 then
    SF
  else
    f_X3_openBox_k1 SL SF x2 (f_X3_buryIfOld SL (sA SF 0 (upd (upd (SF.2 0) ((1 + x2 : Int32)).toNatClampNeg (((SF.2 0) ((1 + x2 : Int32)).toNatClampNeg) + ((SF.2 0) ((15 + x2 : Int32)).toNatClampNeg))) ((15 + x2 : Int32)).toNatClampNeg 0)) x2)
theorem inX3_openBox_3 : ∀ w ∈ wsX30, w ∈ wsX3_openBox := by decide +kernel
theorem hd_X3_openBox : yX3_openBox.cls = RX3 ∧ yX3_openBox.cls ≠ "java/lang/invoke/MethodHandle" ∧ yX3_openBox.cls ≠ "java/lang/invoke/VarHandle" ∧ (parseMethodDescriptor yX3_openBox.desc).map (fun d => d.parameters.length) = some 2 := by decide +kernel
set_option maxHeartbeats 4000000 in
set_option maxRecDepth 100000 in
theorem c_X3_openBox (l : Launch) (D : va_G) (cI cZ cQ : ClassId) (rL : Nat → Nat) (rF : Nat → Nat) (SL : St) (SF : St) (x2 : Int32) : Cv l yX3_openBox wsX3_openBox { frames := 1, cells := 0, slots := 0, locals := 22 } D (tyL cI cZ cQ) [.ref (rF 0), .ref (rL 0), .int x2] (wX5 cI cZ cQ rL SL ++ wX3 cI cZ cQ rF SF) (wX5 cI cZ cQ rL SL ++ wX3 cI cZ cQ rF (f_X3_openBox SL SF x2)) := by
  refine cv_of (cc := cX3_openBox) (nL := 3) (lv0 := [(0, .ref (rF 0)), (1, .ref (rL 0)), (2, .int x2)]) (by decide) rfl (Nat.le_of_ble_eq_true rfl) rfl ?_
  intro p e s m args below meth c A X hr
  refine ww_iload_n (pc := 0) X dX3_openBox_0 2 rfl rfl ?_
  refine ww_cSi (pc := 1) (rest := []) (wsN := wX5 cI cZ cQ rL SL ++ wX3 cI cZ cQ rF SF) X (c_X3_isPerson l D cI cZ cQ x2) gX3_openBox_X3_isPerson rfl hd_X3_isPerson [] rfl (by decide) rfl rfl rfl ⟨rfl, rfl⟩ ⟨Nat.le_of_ble_eq_true rfl, Nat.le_of_ble_eq_true rfl⟩ (Nat.le_of_ble_eq_true rfl) ⟨Nat.zero_le _, Nat.zero_le _⟩ dX3_openBox_1 ?_
  refine ww_if_eq (pc := 4) (tgt := 43) X dX3_openBox_4 (by decide) (fun c1 => ?_) (fun c1 => ?_)
  · have h2 : f_X3_openBox SL SF x2 = SF := by unfold f_X3_openBox; try rw [if_pos c1]; first | done | rfl
    exact ww_vret X hr (congrArg (fun u9 : St => wX5 cI cZ cQ rL SL ++ wX3 cI cZ cQ rF u9) h2.symm) dX3_openBox_43
  · refine ww_aload_n (pc := 7) X dX3_openBox_7 0 rfl rfl ?_
    refine ww_get (pc := 8) (ci := 3) (v := .ref (rF 1)) (C := RX3) (T := TX3) (N := 1) X inX3_openBox_3 7 rfl rfl 0 (by decide) (by decide +kernel) rfl dX3_openBox_8 ?_
    refine ww_iconst (pc := 11) (v := 1) X dX3_openBox_11 (by decide) ?_
    refine ww_iload_n (pc := 12) X dX3_openBox_12 2 rfl rfl ?_
    refine ww_iadd (pc := 13) X dX3_openBox_13 ?_
    refine ww_dup2_11 (pc := 14) X dX3_openBox_14 rfl rfl ?_
    refine ww_iald (pc := 15) (f := SF.2 0) X 8 0 rfl rfl (vp_off (n := 7) (in_X3_isPerson c1) rfl (by decide) (by decide)) dX3_openBox_15 ?_
    refine ww_aload_n (pc := 16) X dX3_openBox_16 0 rfl rfl ?_
    refine ww_get (pc := 17) (ci := 3) (v := .ref (rF 1)) (C := RX3) (T := TX3) (N := 1) X inX3_openBox_3 7 rfl rfl 0 (by decide) (by decide +kernel) rfl dX3_openBox_17 ?_
    refine ww_bipush (pc := 20) (v := 15) X dX3_openBox_20 (by decide) ?_
    refine ww_iload_n (pc := 22) X dX3_openBox_22 2 rfl rfl ?_
    refine ww_iadd (pc := 23) X dX3_openBox_23 ?_
    refine ww_iald (pc := 24) (f := SF.2 0) X 8 0 rfl rfl (vp_off (n := 7) (in_X3_isPerson c1) rfl (by decide) (by decide)) dX3_openBox_24 ?_
    refine ww_iadd (pc := 25) X dX3_openBox_25 ?_
    refine ww_iast (pc := 26) (f := SF.2 0) (ws' := wX5 cI cZ cQ rL SL ++ wX3 cI cZ cQ rF (sA SF 0 (upd (SF.2 0) ((1 + x2 : Int32)).toNatClampNeg (((SF.2 0) ((1 + x2 : Int32)).toNatClampNeg) + ((SF.2 0) ((15 + x2 : Int32)).toNatClampNeg))))) X 8 0 rfl rfl (vp_off (n := 7) (in_X3_isPerson c1) rfl (by decide) (by decide)) rfl dX3_openBox_26 ?_
    refine ww_aload_n (pc := 27) X dX3_openBox_27 0 rfl rfl ?_
    refine ww_get (pc := 28) (ci := 3) (v := .ref (rF 1)) (C := RX3) (T := TX3) (N := 1) X inX3_openBox_3 7 rfl rfl 0 (by decide) (by decide +kernel) rfl dX3_openBox_28 ?_
    refine ww_bipush (pc := 31) (v := 15) X dX3_openBox_31 (by decide) ?_
    refine ww_iload_n (pc := 33) X dX3_openBox_33 2 rfl rfl ?_
    refine ww_iadd (pc := 34) X dX3_openBox_34 ?_
    refine ww_iconst (pc := 35) (v := 0) X dX3_openBox_35 (by decide) ?_
    refine ww_iast (pc := 36) (f := upd (SF.2 0) ((1 + x2 : Int32)).toNatClampNeg (((SF.2 0) ((1 + x2 : Int32)).toNatClampNeg) + ((SF.2 0) ((15 + x2 : Int32)).toNatClampNeg))) (ws' := wX5 cI cZ cQ rL SL ++ wX3 cI cZ cQ rF (sA SF 0 (upd (upd (SF.2 0) ((1 + x2 : Int32)).toNatClampNeg (((SF.2 0) ((1 + x2 : Int32)).toNatClampNeg) + ((SF.2 0) ((15 + x2 : Int32)).toNatClampNeg))) ((15 + x2 : Int32)).toNatClampNeg 0))) X 8 0 rfl rfl (vp_off (n := 7) (in_X3_isPerson c1) rfl (by decide) (by decide)) rfl dX3_openBox_36 ?_
    refine ww_aload_n (pc := 37) X dX3_openBox_37 0 rfl rfl ?_
    refine ww_aload_n (pc := 38) X dX3_openBox_38 1 rfl rfl ?_
    refine ww_iload_n (pc := 39) X dX3_openBox_39 2 rfl rfl ?_
    refine ww_cVv (pc := 40) (rest := []) (wsN := wX5 cI cZ cQ rL SL ++ wX3 cI cZ cQ rF (f_X3_buryIfOld SL (sA SF 0 (upd (upd (SF.2 0) ((1 + x2 : Int32)).toNatClampNeg (((SF.2 0) ((1 + x2 : Int32)).toNatClampNeg) + ((SF.2 0) ((15 + x2 : Int32)).toNatClampNeg))) ((15 + x2 : Int32)).toNatClampNeg 0)) x2)) (ci := 3) (q0 := 7) X (c_X3_buryIfOld l D cI cZ cQ rL rF SL (sA SF 0 (upd (upd (SF.2 0) ((1 + x2 : Int32)).toNatClampNeg (((SF.2 0) ((1 + x2 : Int32)).toNatClampNeg) + ((SF.2 0) ((15 + x2 : Int32)).toNatClampNeg))) ((15 + x2 : Int32)).toNatClampNeg 0)) x2 (in_X3_isPerson c1)) gX3_openBox_X3_buryIfOld rfl hd_X3_buryIfOld [0, 1, 2, 3, 4, 5, 6, 7, 8] rfl (by decide) rfl rfl rfl rfl rfl rfl ⟨rfl, rfl⟩ ⟨Nat.le_of_ble_eq_true rfl, Nat.le_of_ble_eq_true rfl⟩ (Nat.le_of_ble_eq_true rfl) ⟨Nat.zero_le _, Nat.zero_le _⟩ dX3_openBox_40 ?_
    generalize hz3 : (f_X3_buryIfOld SL (sA SF 0 (upd (upd (SF.2 0) ((1 + x2 : Int32)).toNatClampNeg (((SF.2 0) ((1 + x2 : Int32)).toNatClampNeg) + ((SF.2 0) ((15 + x2 : Int32)).toNatClampNeg))) ((15 + x2 : Int32)).toNatClampNeg 0)) x2) = z3
    have h4 : f_X3_openBox SL SF x2 = z3 := by unfold f_X3_openBox; try rw [if_neg c1, hz3]; try unfold f_X3_openBox_k1; first | done | rfl
    exact ww_vret X hr (congrArg (fun u9 : St => wX5 cI cZ cQ rL SL ++ wX3 cI cZ cQ rF u9) h4.symm) dX3_openBox_43
def f_X3_takeGood (SF : St) (x1 : Int32) : St :=
  if (f_X3_isGood x1) = 0 then
    SF
  else
    (sA SF 0 (upd (SF.2 0) ((29 + x1 : Int32)).toNatClampNeg 0))
theorem inX3_takeGood_3 : ∀ w ∈ wsX30, w ∈ wsX3_takeGood := by decide +kernel
theorem hd_X3_takeGood : yX3_takeGood.cls = RX3 ∧ yX3_takeGood.cls ≠ "java/lang/invoke/MethodHandle" ∧ yX3_takeGood.cls ≠ "java/lang/invoke/VarHandle" ∧ (parseMethodDescriptor yX3_takeGood.desc).map (fun d => d.parameters.length) = some 1 := by decide +kernel
set_option maxHeartbeats 4000000 in
set_option maxRecDepth 100000 in
theorem c_X3_takeGood (l : Launch) (D : va_G) (cI cZ cQ : ClassId) (rF : Nat → Nat) (SF : St) (x1 : Int32) : Cv l yX3_takeGood wsX3_takeGood { frames := 1, cells := 0, slots := 0, locals := 20 } D (tyL cI cZ cQ) [.ref (rF 0), .int x1] (wX3 cI cZ cQ rF SF) (wX3 cI cZ cQ rF (f_X3_takeGood SF x1)) := by
  refine cv_of (cc := cX3_takeGood) (nL := 2) (lv0 := [(0, .ref (rF 0)), (1, .int x1)]) (by decide) rfl (Nat.le_of_ble_eq_true rfl) rfl ?_
  intro p e s m args below meth c A X hr
  refine ww_iload_n (pc := 0) X dX3_takeGood_0 1 rfl rfl ?_
  refine ww_cSi (pc := 1) (rest := []) (wsN := wX3 cI cZ cQ rF SF) X (c_X3_isGood l D cI cZ cQ x1) gX3_takeGood_X3_isGood rfl hd_X3_isGood [] rfl (by decide) rfl rfl rfl ⟨rfl, rfl⟩ ⟨Nat.le_of_ble_eq_true rfl, Nat.le_of_ble_eq_true rfl⟩ (Nat.le_of_ble_eq_true rfl) ⟨Nat.zero_le _, Nat.zero_le _⟩ dX3_takeGood_1 ?_
  refine ww_if_eq (pc := 4) (tgt := 17) X dX3_takeGood_4 (by decide) (fun c1 => ?_) (fun c1 => ?_)
  · have h2 : f_X3_takeGood SF x1 = SF := by unfold f_X3_takeGood; try rw [if_pos c1]; first | done | rfl
    exact ww_vret X hr (congrArg (fun u9 : St => wX3 cI cZ cQ rF u9) h2.symm) dX3_takeGood_17
  · refine ww_aload_n (pc := 7) X dX3_takeGood_7 0 rfl rfl ?_
    refine ww_get (pc := 8) (ci := 3) (v := .ref (rF 1)) (C := RX3) (T := TX3) (N := 1) X inX3_takeGood_3 0 rfl rfl 0 (by decide) (by decide +kernel) rfl dX3_takeGood_8 ?_
    refine ww_bipush (pc := 11) (v := 29) X dX3_takeGood_11 (by decide) ?_
    refine ww_iload_n (pc := 13) X dX3_takeGood_13 1 rfl rfl ?_
    refine ww_iadd (pc := 14) X dX3_takeGood_14 ?_
    refine ww_iconst (pc := 15) (v := 0) X dX3_takeGood_15 (by decide) ?_
    refine ww_iast (pc := 16) (f := SF.2 0) (ws' := wX3 cI cZ cQ rF (sA SF 0 (upd (SF.2 0) ((29 + x1 : Int32)).toNatClampNeg 0))) X 1 0 rfl rfl (vp_off (n := 6) (in_X3_isGood c1) rfl (by decide) (by decide)) rfl dX3_takeGood_16 ?_
    have h3 : f_X3_takeGood SF x1 = (sA SF 0 (upd (SF.2 0) ((29 + x1 : Int32)).toNatClampNeg 0)) := by unfold f_X3_takeGood; try rw [if_neg c1]; first | done | rfl
    exact ww_vret X hr (congrArg (fun u9 : St => wX3 cI cZ cQ rF u9) h3.symm) dX3_takeGood_17
def bd_X3_begin_2 (SL : St) (j : Nat) (u : St) : St :=
  (sA u 0 (upd (u.2 0) (((nI j) : Int32)).toNatClampNeg 0))
def it_X3_begin_2 (SL : St) (u : St) : Nat → St
  | 0 => u
  | j + 1 => bd_X3_begin_2 SL j (it_X3_begin_2 SL u j)
def bd_X3_begin_23_k1 (SL : St) (j : Nat) (u : St) (z3 : St) : St :=
  z3
def bd_X3_begin_23 (SL : St) (j : Nat) (u : St) : St :=
  bd_X3_begin_23_k1 SL j u (f_X3_buryIfOld SL (sA u 0 (upd (u.2 0) ((1 + (nI j) : Int32)).toNatClampNeg ((SL.2 1) (((nI j) : Int32)).toNatClampNeg))) (nI j))
def it_X3_begin_23 (SL : St) (u : St) : Nat → St
  | 0 => u
  | j + 1 => bd_X3_begin_23 SL j (it_X3_begin_23 SL u j)
def bd_X3_begin_59 (SL : St) (j : Nat) (u : St) : St :=
  (sA u 0 (upd (u.2 0) ((29 + (nI j) : Int32)).toNatClampNeg ((SL.2 3) (((nI j) : Int32)).toNatClampNeg)))
def it_X3_begin_59 (SL : St) (u : St) : Nat → St
  | 0 => u
  | j + 1 => bd_X3_begin_59 SL j (it_X3_begin_59 SL u j)
def f_X3_begin_k3 (SL : St) (SF : St) (z2 : St) (z6 : St) (z8 : St) : St :=
  z8
def f_X3_begin_k2 (SL : St) (SF : St) (z2 : St) (z6 : St) : St :=
  f_X3_begin_k3 SL SF z2 z6 (it_X3_begin_59 SL z6 ((SL.1 4).toNatClampNeg))
def f_X3_begin_k1 (SL : St) (SF : St) (z2 : St) : St :=
  f_X3_begin_k2 SL SF z2 (it_X3_begin_23 SL z2 ((SL.1 3).toNatClampNeg))
def f_X3_begin (SL : St) (SF : St) : St :=
  f_X3_begin_k1 SL SF (it_X3_begin_2 SL SF 35)
theorem inX3_begin_3 : ∀ w ∈ wsX30, w ∈ wsX3_begin := by decide +kernel
theorem inX3_begin_5 : ∀ w ∈ wsX50, w ∈ wsX3_begin := by decide +kernel
theorem hd_X3_begin : yX3_begin.cls = RX3 ∧ yX3_begin.cls ≠ "java/lang/invoke/MethodHandle" ∧ yX3_begin.cls ≠ "java/lang/invoke/VarHandle" ∧ (parseMethodDescriptor yX3_begin.desc).map (fun d => d.parameters.length) = some 1 := by decide +kernel
set_option maxHeartbeats 4000000 in
set_option maxRecDepth 100000 in
theorem c_X3_begin (l : Launch) (D : va_G) (cI cZ cQ : ClassId) (rL : Nat → Nat) (rF : Nat → Nat) (SL : St) (SF : St) (okL : okS SL) : Cv l yX3_begin wsX3_begin { frames := 1, cells := 0, slots := 0, locals := 22 } D (tyL cI cZ cQ) [.ref (rF 0), .ref (rL 0)] (wX5 cI cZ cQ rL SL ++ wX3 cI cZ cQ rF SF) (wX5 cI cZ cQ rL SL ++ wX3 cI cZ cQ rF (f_X3_begin SL SF)) := by
  refine cv_of (cc := cX3_begin) (nL := 3) (lv0 := [(0, .ref (rF 0)), (1, .ref (rL 0))]) (by decide) rfl (Nat.le_of_ble_eq_true rfl) rfl ?_
  intro p e s m args below meth c A X hr
  refine ww_iconst (pc := 0) (v := 0) X dX3_begin_0 (by decide) ?_
  refine ww_istore_n (pc := 1) (lv' := [(2, .int 0), (0, .ref (rF 0)), (1, .ref (rL 0))]) X dX3_begin_1 rfl (by decide) rfl ?_
  have L2 : ∀ (k_2 j_2 : Nat), j_2 + k_2 = 35 → WW p l e (headSpec wsX3_begin { frames := 1, cells := 0, slots := 0, locals := 22 }).room s m args below meth c 3 D A 0 0 (RQv below args s D A (wX5 cI cZ cQ rL SL ++ wX3 cI cZ cQ rF (f_X3_begin SL SF))) (wX5 cI cZ cQ rL SL ++ wX3 cI cZ cQ rF (it_X3_begin_2 SL SF 35)) [(0, .ref (rF 0)), (1, .ref (rL 0)), (2, .int (nI 35))] 21 [] → WW p l e (headSpec wsX3_begin { frames := 1, cells := 0, slots := 0, locals := 22 }).room s m args below meth c 3 D A 0 0 (RQv below args s D A (wX5 cI cZ cQ rL SL ++ wX3 cI cZ cQ rF (f_X3_begin SL SF))) (wX5 cI cZ cQ rL SL ++ wX3 cI cZ cQ rF (it_X3_begin_2 SL SF j_2)) [(0, .ref (rF 0)), (1, .ref (rL 0)), (2, .int (nI j_2))] 2 [] := by
    intro k_2
    induction k_2 with
    | zero =>
      intro j_2 hj K
      have hjB : j_2 = 35 := by omega
      subst hjB
      refine ww_iload_n (pc := 2) X dX3_begin_2 2 rfl rfl ?_
      refine ww_bipush (pc := 3) (v := 35) X dX3_begin_3 (by decide) ?_
      exact ww_icmp_ge (pc := 5) (tgt := 21) X dX3_begin_5 (by decide) (fun _ => K) (fun c9 => absurd (lp_ge0 rfl (Nat.le_refl _) (by decide)) c9)
    | succ k_2 ih =>
      intro j_2 hj K
      have hjB : j_2 < 35 := by omega
      refine ww_iload_n (pc := 2) X dX3_begin_2 2 rfl rfl ?_
      refine ww_bipush (pc := 3) (v := 35) X dX3_begin_3 (by decide) ?_
      refine ww_icmp_ge (pc := 5) (tgt := 21) X dX3_begin_5 (by decide) (fun c9 => absurd c9 (lp_ge1 rfl hjB (by decide))) (fun _ => ?_)
      refine ww_aload_n (pc := 8) X dX3_begin_8 0 rfl rfl ?_
      refine ww_get (pc := 9) (ci := 3) (v := .ref (rF 1)) (C := RX3) (T := TX3) (N := 1) X inX3_begin_3 7 rfl rfl 0 (by decide) (by decide +kernel) rfl dX3_begin_9 ?_
      refine ww_iload_n (pc := 12) X dX3_begin_12 2 rfl rfl ?_
      refine ww_iconst (pc := 13) (v := 0) X dX3_begin_13 (by decide) ?_
      refine ww_iast (pc := 14) (f := (it_X3_begin_2 SL SF j_2).2 0) (ws' := wX5 cI cZ cQ rL SL ++ wX3 cI cZ cQ rF (sA (it_X3_begin_2 SL SF j_2) 0 (upd ((it_X3_begin_2 SL SF j_2).2 0) (((nI j_2) : Int32)).toNatClampNeg 0))) X 8 0 rfl rfl (vn (m := j_2) rfl (by omega) (by decide)) rfl dX3_begin_14 ?_
      refine ww_iinc (pc := 15) (v := (nI j_2) + 1) (lv' := [(2, .int ((nI j_2) + 1)), (0, .ref (rF 0)), (1, .ref (rL 0))]) X dX3_begin_15 2 rfl rfl (by decide) rfl ?_
      refine ww_goto (pc := 18) (tgt := 2) X dX3_begin_18 (by decide) ?_
      have h1 : (it_X3_begin_2 SL SF (j_2 + 1)) = (sA (it_X3_begin_2 SL SF j_2) 0 (upd ((it_X3_begin_2 SL SF j_2).2 0) (((nI j_2) : Int32)).toNatClampNeg 0)) := by
        show bd_X3_begin_2 SL j_2 (it_X3_begin_2 SL SF j_2) = _; unfold bd_X3_begin_2; first | done | rfl
      refine ww_lsub [1, 2, 0] rfl ?_
      exact ww_castI (fun u9 : St => wX5 cI cZ cQ rL SL ++ wX3 cI cZ cQ rF u9) (fun (u9 : St) (i9 : Int32) => ([(0, .ref (rF 0)), (1, .ref (rL 0)), (2, .int i9)] : List (Nat × Value))) h1 (ih (j_2 + 1) (by omega) K)
  refine ww_lsub [1, 2, 0] rfl ?_
  refine L2 35 0 (by omega) ?_
  generalize hz2 : ((it_X3_begin_2 SL SF 35)) = z2
  refine ww_iconst (pc := 21) (v := 0) X dX3_begin_21 (by decide) ?_
  refine ww_istore_n (pc := 22) (lv' := [(2, .int 0), (0, .ref (rF 0)), (1, .ref (rL 0))]) X dX3_begin_22 rfl (by decide) rfl ?_
  have L23 : ∀ (k_23 j_23 : Nat), j_23 + k_23 = (SL.1 3).toNatClampNeg → WW p l e (headSpec wsX3_begin { frames := 1, cells := 0, slots := 0, locals := 22 }).room s m args below meth c 3 D A 0 0 (RQv below args s D A (wX5 cI cZ cQ rL SL ++ wX3 cI cZ cQ rF (f_X3_begin SL SF))) (wX5 cI cZ cQ rL SL ++ wX3 cI cZ cQ rF (it_X3_begin_23 SL z2 ((SL.1 3).toNatClampNeg))) [(0, .ref (rF 0)), (1, .ref (rL 0)), (2, .int (nI ((SL.1 3).toNatClampNeg)))] 57 [] → WW p l e (headSpec wsX3_begin { frames := 1, cells := 0, slots := 0, locals := 22 }).room s m args below meth c 3 D A 0 0 (RQv below args s D A (wX5 cI cZ cQ rL SL ++ wX3 cI cZ cQ rF (f_X3_begin SL SF))) (wX5 cI cZ cQ rL SL ++ wX3 cI cZ cQ rF (it_X3_begin_23 SL z2 j_23)) [(0, .ref (rF 0)), (1, .ref (rL 0)), (2, .int (nI j_23))] 23 [] := by
    intro k_23
    induction k_23 with
    | zero =>
      intro j_23 hj K
      have hjB : j_23 = (SL.1 3).toNatClampNeg := by omega
      subst hjB
      refine ww_iload_n (pc := 23) X dX3_begin_23 2 rfl rfl ?_
      refine ww_aload_n (pc := 24) X dX3_begin_24 1 rfl rfl ?_
      refine ww_get (pc := 25) (ci := 5) (v := .int (SL.1 3)) (C := RX5) (T := TX5) (N := 11) X inX3_begin_5 0 rfl rfl 3 (by decide) (by decide +kernel) rfl dX3_begin_25 ?_
      exact ww_icmp_ge (pc := 28) (tgt := 57) X dX3_begin_28 (by decide) (fun _ => K) (fun c9 => absurd (lp_ge0c (Nat.le_refl _) (cl_lt _)) c9)
    | succ k_23 ih =>
      intro j_23 hj K
      have hjB : j_23 < (SL.1 3).toNatClampNeg := by omega
      have h7_23 := okS_p okL
      refine ww_iload_n (pc := 23) X dX3_begin_23 2 rfl rfl ?_
      refine ww_aload_n (pc := 24) X dX3_begin_24 1 rfl rfl ?_
      refine ww_get (pc := 25) (ci := 5) (v := .int (SL.1 3)) (C := RX5) (T := TX5) (N := 11) X inX3_begin_5 0 rfl rfl 3 (by decide) (by decide +kernel) rfl dX3_begin_25 ?_
      refine ww_icmp_ge (pc := 28) (tgt := 57) X dX3_begin_28 (by decide) (fun c9 => absurd c9 (lp_ge1c hjB)) (fun _ => ?_)
      refine ww_aload_n (pc := 31) X dX3_begin_31 0 rfl rfl ?_
      refine ww_get (pc := 32) (ci := 3) (v := .ref (rF 1)) (C := RX3) (T := TX3) (N := 1) X inX3_begin_3 7 rfl rfl 0 (by decide) (by decide +kernel) rfl dX3_begin_32 ?_
      refine ww_iconst (pc := 35) (v := 1) X dX3_begin_35 (by decide) ?_
      refine ww_iload_n (pc := 36) X dX3_begin_36 2 rfl rfl ?_
      refine ww_iadd (pc := 37) X dX3_begin_37 ?_
      refine ww_aload_n (pc := 38) X dX3_begin_38 1 rfl rfl ?_
      refine ww_get (pc := 39) (ci := 5) (v := .ref (rL 2)) (C := RX5) (T := TX5) (N := 11) X inX3_begin_5 0 rfl rfl 6 (by decide) (by decide +kernel) rfl dX3_begin_39 ?_
      refine ww_iload_n (pc := 42) X dX3_begin_42 2 rfl rfl ?_
      refine ww_iald (pc := 43) (f := SL.2 1) X 2 0 rfl rfl (vn (m := j_23) rfl (by omega) (by decide)) dX3_begin_43 ?_
      refine ww_iast (pc := 44) (f := (it_X3_begin_23 SL z2 j_23).2 0) (ws' := wX5 cI cZ cQ rL SL ++ wX3 cI cZ cQ rF (sA (it_X3_begin_23 SL z2 j_23) 0 (upd ((it_X3_begin_23 SL z2 j_23).2 0) ((1 + (nI j_23) : Int32)).toNatClampNeg ((SL.2 1) (((nI j_23) : Int32)).toNatClampNeg)))) X 8 0 rfl rfl (vn (m := 1 + j_23) (nat_iadd (a := 1) (b := j_23) rfl rfl) (by omega) (by decide)) rfl dX3_begin_44 ?_
      refine ww_aload_n (pc := 45) X dX3_begin_45 0 rfl rfl ?_
      refine ww_aload_n (pc := 46) X dX3_begin_46 1 rfl rfl ?_
      refine ww_iload_n (pc := 47) X dX3_begin_47 2 rfl rfl ?_
      refine ww_cVv (pc := 48) (rest := []) (wsN := wX5 cI cZ cQ rL SL ++ wX3 cI cZ cQ rF (f_X3_buryIfOld SL (sA (it_X3_begin_23 SL z2 j_23) 0 (upd ((it_X3_begin_23 SL z2 j_23).2 0) ((1 + (nI j_23) : Int32)).toNatClampNeg ((SL.2 1) (((nI j_23) : Int32)).toNatClampNeg))) (nI j_23))) (ci := 3) (q0 := 7) X (c_X3_buryIfOld l D cI cZ cQ rL rF SL (sA (it_X3_begin_23 SL z2 j_23) 0 (upd ((it_X3_begin_23 SL z2 j_23).2 0) ((1 + (nI j_23) : Int32)).toNatClampNeg ((SL.2 1) (((nI j_23) : Int32)).toNatClampNeg))) (nI j_23) (vn (m := j_23) rfl (by omega) (by decide))) gX3_begin_X3_buryIfOld rfl hd_X3_buryIfOld [0, 1, 2, 3, 4, 5, 6, 7, 8] rfl (by decide) rfl rfl rfl rfl rfl rfl ⟨rfl, rfl⟩ ⟨Nat.le_of_ble_eq_true rfl, Nat.le_of_ble_eq_true rfl⟩ (Nat.le_of_ble_eq_true rfl) ⟨Nat.zero_le _, Nat.zero_le _⟩ dX3_begin_48 ?_
      generalize hz4 : (f_X3_buryIfOld SL (sA (it_X3_begin_23 SL z2 j_23) 0 (upd ((it_X3_begin_23 SL z2 j_23).2 0) ((1 + (nI j_23) : Int32)).toNatClampNeg ((SL.2 1) (((nI j_23) : Int32)).toNatClampNeg))) (nI j_23)) = z4
      refine ww_iinc (pc := 51) (v := (nI j_23) + 1) (lv' := [(2, .int ((nI j_23) + 1)), (0, .ref (rF 0)), (1, .ref (rL 0))]) X dX3_begin_51 2 rfl rfl (by decide) rfl ?_
      refine ww_goto (pc := 54) (tgt := 23) X dX3_begin_54 (by decide) ?_
      have h5 : (it_X3_begin_23 SL z2 (j_23 + 1)) = z4 := by
        show bd_X3_begin_23 SL j_23 (it_X3_begin_23 SL z2 j_23) = _; unfold bd_X3_begin_23; try rw [hz4]; try unfold bd_X3_begin_23_k1; first | done | rfl
      refine ww_lsub [1, 2, 0] rfl ?_
      exact ww_castI (fun u9 : St => wX5 cI cZ cQ rL SL ++ wX3 cI cZ cQ rF u9) (fun (u9 : St) (i9 : Int32) => ([(0, .ref (rF 0)), (1, .ref (rL 0)), (2, .int i9)] : List (Nat × Value))) h5 (ih (j_23 + 1) (by omega) K)
  refine ww_lsub [1, 2, 0] rfl ?_
  refine L23 ((SL.1 3).toNatClampNeg) 0 (by omega) ?_
  generalize hz6 : ((it_X3_begin_23 SL z2 ((SL.1 3).toNatClampNeg))) = z6
  refine ww_iconst (pc := 57) (v := 0) X dX3_begin_57 (by decide) ?_
  refine ww_istore_n (pc := 58) (lv' := [(2, .int 0), (0, .ref (rF 0)), (1, .ref (rL 0))]) X dX3_begin_58 rfl (by decide) rfl ?_
  have L59 : ∀ (k_59 j_59 : Nat), j_59 + k_59 = (SL.1 4).toNatClampNeg → WW p l e (headSpec wsX3_begin { frames := 1, cells := 0, slots := 0, locals := 22 }).room s m args below meth c 3 D A 0 0 (RQv below args s D A (wX5 cI cZ cQ rL SL ++ wX3 cI cZ cQ rF (f_X3_begin SL SF))) (wX5 cI cZ cQ rL SL ++ wX3 cI cZ cQ rF (it_X3_begin_59 SL z6 ((SL.1 4).toNatClampNeg))) [(0, .ref (rF 0)), (1, .ref (rL 0)), (2, .int (nI ((SL.1 4).toNatClampNeg)))] 88 [] → WW p l e (headSpec wsX3_begin { frames := 1, cells := 0, slots := 0, locals := 22 }).room s m args below meth c 3 D A 0 0 (RQv below args s D A (wX5 cI cZ cQ rL SL ++ wX3 cI cZ cQ rF (f_X3_begin SL SF))) (wX5 cI cZ cQ rL SL ++ wX3 cI cZ cQ rF (it_X3_begin_59 SL z6 j_59)) [(0, .ref (rF 0)), (1, .ref (rL 0)), (2, .int (nI j_59))] 59 [] := by
    intro k_59
    induction k_59 with
    | zero =>
      intro j_59 hj K
      have hjB : j_59 = (SL.1 4).toNatClampNeg := by omega
      subst hjB
      refine ww_iload_n (pc := 59) X dX3_begin_59 2 rfl rfl ?_
      refine ww_aload_n (pc := 60) X dX3_begin_60 1 rfl rfl ?_
      refine ww_get (pc := 61) (ci := 5) (v := .int (SL.1 4)) (C := RX5) (T := TX5) (N := 11) X inX3_begin_5 0 rfl rfl 4 (by decide) (by decide +kernel) rfl dX3_begin_61 ?_
      exact ww_icmp_ge (pc := 64) (tgt := 88) X dX3_begin_64 (by decide) (fun _ => K) (fun c9 => absurd (lp_ge0c (Nat.le_refl _) (cl_lt _)) c9)
    | succ k_59 ih =>
      intro j_59 hj K
      have hjB : j_59 < (SL.1 4).toNatClampNeg := by omega
      have h6_59 := okS_g okL
      refine ww_iload_n (pc := 59) X dX3_begin_59 2 rfl rfl ?_
      refine ww_aload_n (pc := 60) X dX3_begin_60 1 rfl rfl ?_
      refine ww_get (pc := 61) (ci := 5) (v := .int (SL.1 4)) (C := RX5) (T := TX5) (N := 11) X inX3_begin_5 0 rfl rfl 4 (by decide) (by decide +kernel) rfl dX3_begin_61 ?_
      refine ww_icmp_ge (pc := 64) (tgt := 88) X dX3_begin_64 (by decide) (fun c9 => absurd c9 (lp_ge1c hjB)) (fun _ => ?_)
      refine ww_aload_n (pc := 67) X dX3_begin_67 0 rfl rfl ?_
      refine ww_get (pc := 68) (ci := 3) (v := .ref (rF 1)) (C := RX3) (T := TX3) (N := 1) X inX3_begin_3 7 rfl rfl 0 (by decide) (by decide +kernel) rfl dX3_begin_68 ?_
      refine ww_bipush (pc := 71) (v := 29) X dX3_begin_71 (by decide) ?_
      refine ww_iload_n (pc := 73) X dX3_begin_73 2 rfl rfl ?_
      refine ww_iadd (pc := 74) X dX3_begin_74 ?_
      refine ww_aload_n (pc := 75) X dX3_begin_75 1 rfl rfl ?_
      refine ww_get (pc := 76) (ci := 5) (v := .ref (rL 4)) (C := RX5) (T := TX5) (N := 11) X inX3_begin_5 0 rfl rfl 8 (by decide) (by decide +kernel) rfl dX3_begin_76 ?_
      refine ww_iload_n (pc := 79) X dX3_begin_79 2 rfl rfl ?_
      refine ww_iald (pc := 80) (f := SL.2 3) X 4 0 rfl rfl (vn (m := j_59) rfl (by omega) (by decide)) dX3_begin_80 ?_
      refine ww_iast (pc := 81) (f := (it_X3_begin_59 SL z6 j_59).2 0) (ws' := wX5 cI cZ cQ rL SL ++ wX3 cI cZ cQ rF (sA (it_X3_begin_59 SL z6 j_59) 0 (upd ((it_X3_begin_59 SL z6 j_59).2 0) ((29 + (nI j_59) : Int32)).toNatClampNeg ((SL.2 3) (((nI j_59) : Int32)).toNatClampNeg)))) X 8 0 rfl rfl (vn (m := 29 + j_59) (nat_iadd (a := 29) (b := j_59) rfl rfl) (by omega) (by decide)) rfl dX3_begin_81 ?_
      refine ww_iinc (pc := 82) (v := (nI j_59) + 1) (lv' := [(2, .int ((nI j_59) + 1)), (0, .ref (rF 0)), (1, .ref (rL 0))]) X dX3_begin_82 2 rfl rfl (by decide) rfl ?_
      refine ww_goto (pc := 85) (tgt := 59) X dX3_begin_85 (by decide) ?_
      have h7 : (it_X3_begin_59 SL z6 (j_59 + 1)) = (sA (it_X3_begin_59 SL z6 j_59) 0 (upd ((it_X3_begin_59 SL z6 j_59).2 0) ((29 + (nI j_59) : Int32)).toNatClampNeg ((SL.2 3) (((nI j_59) : Int32)).toNatClampNeg))) := by
        show bd_X3_begin_59 SL j_59 (it_X3_begin_59 SL z6 j_59) = _; unfold bd_X3_begin_59; first | done | rfl
      refine ww_lsub [1, 2, 0] rfl ?_
      exact ww_castI (fun u9 : St => wX5 cI cZ cQ rL SL ++ wX3 cI cZ cQ rF u9) (fun (u9 : St) (i9 : Int32) => ([(0, .ref (rF 0)), (1, .ref (rL 0)), (2, .int i9)] : List (Nat × Value))) h7 (ih (j_59 + 1) (by omega) K)
  refine ww_lsub [1, 2, 0] rfl ?_
  refine L59 ((SL.1 4).toNatClampNeg) 0 (by omega) ?_
  generalize hz8 : ((it_X3_begin_59 SL z6 ((SL.1 4).toNatClampNeg))) = z8
  have h9 : f_X3_begin SL SF = z8 := by unfold f_X3_begin; try rw [hz2]; try unfold f_X3_begin_k1; try rw [hz6]; try unfold f_X3_begin_k2; try rw [hz8]; try unfold f_X3_begin_k3; first | done | rfl
  exact ww_vret X hr (congrArg (fun u9 : St => wX5 cI cZ cQ rL SL ++ wX3 cI cZ cQ rF u9) h9.symm) dX3_begin_88
def bd_X3_deadOnes_4 (SL : St) (SF : St) (j : Nat) (u : Int32) : Int32 :=
  if (f_X3_place SF (nI j)) = 1 then
    u ||| (1 <<< ((nI j) &&& 31))
  else
    u
def it_X3_deadOnes_4 (SL : St) (SF : St) (u : Int32) : Nat → Int32
  | 0 => u
  | j + 1 => bd_X3_deadOnes_4 SL SF j (it_X3_deadOnes_4 SL SF u j)
def f_X3_deadOnes_k1 (SL : St) (SF : St) (z6 : Int32) : Int32 :=
  z6
def f_X3_deadOnes (SL : St) (SF : St) : Int32 :=
  f_X3_deadOnes_k1 SL SF (it_X3_deadOnes_4 SL SF (0 : Int32) ((SL.1 3).toNatClampNeg))
theorem inX3_deadOnes_5 : ∀ w ∈ wsX50, w ∈ wsX3_deadOnes := by decide +kernel
theorem hd_X3_deadOnes : yX3_deadOnes.cls = RX3 ∧ yX3_deadOnes.cls ≠ "java/lang/invoke/MethodHandle" ∧ yX3_deadOnes.cls ≠ "java/lang/invoke/VarHandle" ∧ (parseMethodDescriptor yX3_deadOnes.desc).map (fun d => d.parameters.length) = some 1 := by decide +kernel
set_option maxHeartbeats 4000000 in
set_option maxRecDepth 100000 in
theorem c_X3_deadOnes (l : Launch) (D : va_G) (cI cZ cQ : ClassId) (rL : Nat → Nat) (rF : Nat → Nat) (SL : St) (SF : St) (okL : okS SL) : Ci l yX3_deadOnes wsX3_deadOnes { frames := 2, cells := 0, slots := 0, locals := 41 } D (tyL cI cZ cQ) [.ref (rF 0), .ref (rL 0)] (wX5 cI cZ cQ rL SL ++ wX3 cI cZ cQ rF SF) (f_X3_deadOnes SL SF) (wX5 cI cZ cQ rL SL ++ wX3 cI cZ cQ rF SF) := by
  refine ci_of (cc := cX3_deadOnes) (nL := 4) (ty := .int) (lv0 := [(0, .ref (rF 0)), (1, .ref (rL 0))]) (by decide) rfl (Nat.le_of_ble_eq_true rfl) rfl ?_
  intro p e s m args below meth c A X hr
  refine ww_iconst (pc := 0) (v := 0) X dX3_deadOnes_0 (by decide) ?_
  refine ww_istore_n (pc := 1) (lv' := [(2, .int 0), (0, .ref (rF 0)), (1, .ref (rL 0))]) X dX3_deadOnes_1 rfl (by decide) rfl ?_
  refine ww_iconst (pc := 2) (v := 0) X dX3_deadOnes_2 (by decide) ?_
  refine ww_istore_n (pc := 3) (lv' := [(3, .int 0), (2, .int 0), (0, .ref (rF 0)), (1, .ref (rL 0))]) X dX3_deadOnes_3 rfl (by decide) rfl ?_
  have L4 : ∀ (k_4 j_4 : Nat), j_4 + k_4 = (SL.1 3).toNatClampNeg → WW p l e (headSpec wsX3_deadOnes { frames := 2, cells := 0, slots := 0, locals := 41 }).room s m args below meth c 4 D A 0 0 (RQi below args s D A (f_X3_deadOnes SL SF) (wX5 cI cZ cQ rL SL ++ wX3 cI cZ cQ rF SF)) (wX5 cI cZ cQ rL SL ++ wX3 cI cZ cQ rF SF) [(0, .ref (rF 0)), (1, .ref (rL 0)), (2, .int (it_X3_deadOnes_4 SL SF (0 : Int32) ((SL.1 3).toNatClampNeg))), (3, .int (nI ((SL.1 3).toNatClampNeg)))] 33 [] → WW p l e (headSpec wsX3_deadOnes { frames := 2, cells := 0, slots := 0, locals := 41 }).room s m args below meth c 4 D A 0 0 (RQi below args s D A (f_X3_deadOnes SL SF) (wX5 cI cZ cQ rL SL ++ wX3 cI cZ cQ rF SF)) (wX5 cI cZ cQ rL SL ++ wX3 cI cZ cQ rF SF) [(0, .ref (rF 0)), (1, .ref (rL 0)), (2, .int (it_X3_deadOnes_4 SL SF (0 : Int32) j_4)), (3, .int (nI j_4))] 4 [] := by
    intro k_4
    induction k_4 with
    | zero =>
      intro j_4 hj K
      have hjB : j_4 = (SL.1 3).toNatClampNeg := by omega
      subst hjB
      refine ww_iload_n (pc := 4) X dX3_deadOnes_4 3 rfl rfl ?_
      refine ww_aload_n (pc := 5) X dX3_deadOnes_5 1 rfl rfl ?_
      refine ww_get (pc := 6) (ci := 5) (v := .int (SL.1 3)) (C := RX5) (T := TX5) (N := 11) X inX3_deadOnes_5 0 rfl rfl 3 (by decide) (by decide +kernel) rfl dX3_deadOnes_6 ?_
      exact ww_icmp_ge (pc := 9) (tgt := 33) X dX3_deadOnes_9 (by decide) (fun _ => K) (fun c9 => absurd (lp_ge0c (Nat.le_refl _) (cl_lt _)) c9)
    | succ k_4 ih =>
      intro j_4 hj K
      have hjB : j_4 < (SL.1 3).toNatClampNeg := by omega
      have h7_4 := okS_p okL
      refine ww_iload_n (pc := 4) X dX3_deadOnes_4 3 rfl rfl ?_
      refine ww_aload_n (pc := 5) X dX3_deadOnes_5 1 rfl rfl ?_
      refine ww_get (pc := 6) (ci := 5) (v := .int (SL.1 3)) (C := RX5) (T := TX5) (N := 11) X inX3_deadOnes_5 0 rfl rfl 3 (by decide) (by decide +kernel) rfl dX3_deadOnes_6 ?_
      refine ww_icmp_ge (pc := 9) (tgt := 33) X dX3_deadOnes_9 (by decide) (fun c9 => absurd c9 (lp_ge1c hjB)) (fun _ => ?_)
      refine ww_aload_n (pc := 12) X dX3_deadOnes_12 0 rfl rfl ?_
      refine ww_iload_n (pc := 13) X dX3_deadOnes_13 3 rfl rfl ?_
      refine ww_cVi (pc := 14) (rest := []) (wsN := wX5 cI cZ cQ rL SL ++ wX3 cI cZ cQ rF SF) (ci := 3) (q0 := 0) X (c_X3_place l D cI cZ cQ rF SF (nI j_4)) gX3_deadOnes_X3_place rfl hd_X3_place [7, 8] rfl (by decide) rfl rfl rfl rfl rfl rfl ⟨rfl, rfl⟩ ⟨Nat.le_of_ble_eq_true rfl, Nat.le_of_ble_eq_true rfl⟩ (Nat.le_of_ble_eq_true rfl) ⟨Nat.zero_le _, Nat.zero_le _⟩ dX3_deadOnes_14 ?_
      refine ww_iconst (pc := 17) (v := 1) X dX3_deadOnes_17 (by decide) ?_
      refine ww_icmp_ne (pc := 18) (tgt := 27) X dX3_deadOnes_18 (by decide) (fun c2 => ?_) (fun c2 => ?_)
      · refine ww_iinc (pc := 27) (v := (nI j_4) + 1) (lv' := [(3, .int ((nI j_4) + 1)), (0, .ref (rF 0)), (1, .ref (rL 0)), (2, .int (it_X3_deadOnes_4 SL SF (0 : Int32) j_4))]) X dX3_deadOnes_27 3 rfl rfl (by decide) rfl ?_
        refine ww_goto (pc := 30) (tgt := 4) X dX3_deadOnes_30 (by decide) ?_
        have h3 : (it_X3_deadOnes_4 SL SF (0 : Int32) (j_4 + 1)) = (it_X3_deadOnes_4 SL SF (0 : Int32) j_4) := by
          show bd_X3_deadOnes_4 SL SF j_4 (it_X3_deadOnes_4 SL SF (0 : Int32) j_4) = _; unfold bd_X3_deadOnes_4; try rw [if_neg c2]; first | done | rfl
        refine ww_lsub [1, 2, 3, 0] rfl ?_
        exact ww_castI (fun u9 : Int32 => wX5 cI cZ cQ rL SL ++ wX3 cI cZ cQ rF SF) (fun (u9 : Int32) (i9 : Int32) => ([(0, .ref (rF 0)), (1, .ref (rL 0)), (2, .int u9), (3, .int i9)] : List (Nat × Value))) h3 (ih (j_4 + 1) (by omega) K)
      · refine ww_iload_n (pc := 21) X dX3_deadOnes_21 2 rfl rfl ?_
        refine ww_iconst (pc := 22) (v := 1) X dX3_deadOnes_22 (by decide) ?_
        refine ww_iload_n (pc := 23) X dX3_deadOnes_23 3 rfl rfl ?_
        refine ww_ishl (pc := 24) X dX3_deadOnes_24 ?_
        refine ww_ior (pc := 25) X dX3_deadOnes_25 ?_
        generalize hz4 : ((it_X3_deadOnes_4 SL SF (0 : Int32) j_4) ||| (1 <<< ((nI j_4) &&& 31))) = z4
        refine ww_istore_n (pc := 26) (lv' := [(2, .int z4), (0, .ref (rF 0)), (1, .ref (rL 0)), (3, .int (nI j_4))]) X dX3_deadOnes_26 rfl (by decide) rfl ?_
        refine ww_iinc (pc := 27) (v := (nI j_4) + 1) (lv' := [(3, .int ((nI j_4) + 1)), (2, .int z4), (0, .ref (rF 0)), (1, .ref (rL 0))]) X dX3_deadOnes_27 3 rfl rfl (by decide) rfl ?_
        refine ww_goto (pc := 30) (tgt := 4) X dX3_deadOnes_30 (by decide) ?_
        have h5 : (it_X3_deadOnes_4 SL SF (0 : Int32) (j_4 + 1)) = z4 := by
          show bd_X3_deadOnes_4 SL SF j_4 (it_X3_deadOnes_4 SL SF (0 : Int32) j_4) = _; unfold bd_X3_deadOnes_4; try rw [if_pos c2, hz4]; try unfold bd_X3_deadOnes_4_k1; first | done | rfl
        refine ww_lsub [2, 3, 1, 0] rfl ?_
        exact ww_castI (fun u9 : Int32 => wX5 cI cZ cQ rL SL ++ wX3 cI cZ cQ rF SF) (fun (u9 : Int32) (i9 : Int32) => ([(0, .ref (rF 0)), (1, .ref (rL 0)), (2, .int u9), (3, .int i9)] : List (Nat × Value))) h5 (ih (j_4 + 1) (by omega) K)
  refine ww_lsub [2, 3, 1, 0] rfl ?_
  refine L4 ((SL.1 3).toNatClampNeg) 0 (by omega) ?_
  generalize hz6 : ((it_X3_deadOnes_4 SL SF (0 : Int32) ((SL.1 3).toNatClampNeg))) = z6
  refine ww_iload_n (pc := 33) X dX3_deadOnes_33 2 rfl rfl ?_
  exact ww_iret X hr rfl (Eq.symm (by unfold f_X3_deadOnes; try rw [hz6]; try unfold f_X3_deadOnes_k1; first | done | rfl)) rfl dX3_deadOnes_34
def bd_X3_stayersOf_5 (SL : St) (SF : St) (x2 : Int32) (j : Nat) (u : Int32) : Int32 :=
  if (f_X3_isBelow SF (nI j)) = 0 then
    u
  else
    if ((SF.2 0) ((22 + (nI j) : Int32)).toNatClampNeg) < x2 then
      u
    else
      u ||| (1 <<< ((nI j) &&& 31))
def it_X3_stayersOf_5 (SL : St) (SF : St) (x2 : Int32) (u : Int32) : Nat → Int32
  | 0 => u
  | j + 1 => bd_X3_stayersOf_5 SL SF x2 j (it_X3_stayersOf_5 SL SF x2 u j)
def f_X3_stayersOf_k1 (SL : St) (SF : St) (x2 : Int32) (z9 : Int32) : Int32 :=
  z9
def f_X3_stayersOf (SL : St) (SF : St) (x2 : Int32) : Int32 :=
  f_X3_stayersOf_k1 SL SF x2 (it_X3_stayersOf_5 SL SF x2 (0 : Int32) ((SL.1 3).toNatClampNeg))
theorem inX3_stayersOf_3 : ∀ w ∈ wsX30, w ∈ wsX3_stayersOf := by decide +kernel
theorem inX3_stayersOf_5 : ∀ w ∈ wsX50, w ∈ wsX3_stayersOf := by decide +kernel
theorem hd_X3_stayersOf : yX3_stayersOf.cls = RX3 ∧ yX3_stayersOf.cls ≠ "java/lang/invoke/MethodHandle" ∧ yX3_stayersOf.cls ≠ "java/lang/invoke/VarHandle" ∧ (parseMethodDescriptor yX3_stayersOf.desc).map (fun d => d.parameters.length) = some 2 := by decide +kernel
set_option maxHeartbeats 4000000 in
set_option maxRecDepth 100000 in
theorem c_X3_stayersOf (l : Launch) (D : va_G) (cI cZ cQ : ClassId) (rL : Nat → Nat) (rF : Nat → Nat) (SL : St) (SF : St) (x2 : Int32) (okL : okS SL) : Ci l yX3_stayersOf wsX3_stayersOf { frames := 3, cells := 0, slots := 0, locals := 62 } D (tyL cI cZ cQ) [.ref (rF 0), .ref (rL 0), .int x2] (wX5 cI cZ cQ rL SL ++ wX3 cI cZ cQ rF SF) (f_X3_stayersOf SL SF x2) (wX5 cI cZ cQ rL SL ++ wX3 cI cZ cQ rF SF) := by
  refine ci_of (cc := cX3_stayersOf) (nL := 5) (ty := .int) (lv0 := [(0, .ref (rF 0)), (1, .ref (rL 0)), (2, .int x2)]) (by decide) rfl (Nat.le_of_ble_eq_true rfl) rfl ?_
  intro p e s m args below meth c A X hr
  refine ww_iconst (pc := 0) (v := 0) X dX3_stayersOf_0 (by decide) ?_
  refine ww_istore_n (pc := 1) (lv' := [(3, .int 0), (0, .ref (rF 0)), (1, .ref (rL 0)), (2, .int x2)]) X dX3_stayersOf_1 rfl (by decide) rfl ?_
  refine ww_iconst (pc := 2) (v := 0) X dX3_stayersOf_2 (by decide) ?_
  refine ww_istore (pc := 3) (lv' := [(4, .int 0), (3, .int 0), (0, .ref (rF 0)), (1, .ref (rL 0)), (2, .int x2)]) X dX3_stayersOf_3 (by decide) rfl ?_
  have L5 : ∀ (k_5 j_5 : Nat), j_5 + k_5 = (SL.1 3).toNatClampNeg → WW p l e (headSpec wsX3_stayersOf { frames := 3, cells := 0, slots := 0, locals := 62 }).room s m args below meth c 5 D A 0 0 (RQi below args s D A (f_X3_stayersOf SL SF x2) (wX5 cI cZ cQ rL SL ++ wX3 cI cZ cQ rF SF)) (wX5 cI cZ cQ rL SL ++ wX3 cI cZ cQ rF SF) [(0, .ref (rF 0)), (1, .ref (rL 0)), (2, .int x2), (3, .int (it_X3_stayersOf_5 SL SF x2 (0 : Int32) ((SL.1 3).toNatClampNeg))), (4, .int (nI ((SL.1 3).toNatClampNeg)))] 50 [] → WW p l e (headSpec wsX3_stayersOf { frames := 3, cells := 0, slots := 0, locals := 62 }).room s m args below meth c 5 D A 0 0 (RQi below args s D A (f_X3_stayersOf SL SF x2) (wX5 cI cZ cQ rL SL ++ wX3 cI cZ cQ rF SF)) (wX5 cI cZ cQ rL SL ++ wX3 cI cZ cQ rF SF) [(0, .ref (rF 0)), (1, .ref (rL 0)), (2, .int x2), (3, .int (it_X3_stayersOf_5 SL SF x2 (0 : Int32) j_5)), (4, .int (nI j_5))] 5 [] := by
    intro k_5
    induction k_5 with
    | zero =>
      intro j_5 hj K
      have hjB : j_5 = (SL.1 3).toNatClampNeg := by omega
      subst hjB
      refine ww_iload (pc := 5) X dX3_stayersOf_5 4 rfl ?_
      refine ww_aload_n (pc := 7) X dX3_stayersOf_7 1 rfl rfl ?_
      refine ww_get (pc := 8) (ci := 5) (v := .int (SL.1 3)) (C := RX5) (T := TX5) (N := 11) X inX3_stayersOf_5 0 rfl rfl 3 (by decide) (by decide +kernel) rfl dX3_stayersOf_8 ?_
      exact ww_icmp_ge (pc := 11) (tgt := 50) X dX3_stayersOf_11 (by decide) (fun _ => K) (fun c9 => absurd (lp_ge0c (Nat.le_refl _) (cl_lt _)) c9)
    | succ k_5 ih =>
      intro j_5 hj K
      have hjB : j_5 < (SL.1 3).toNatClampNeg := by omega
      have h7_5 := okS_p okL
      refine ww_iload (pc := 5) X dX3_stayersOf_5 4 rfl ?_
      refine ww_aload_n (pc := 7) X dX3_stayersOf_7 1 rfl rfl ?_
      refine ww_get (pc := 8) (ci := 5) (v := .int (SL.1 3)) (C := RX5) (T := TX5) (N := 11) X inX3_stayersOf_5 0 rfl rfl 3 (by decide) (by decide +kernel) rfl dX3_stayersOf_8 ?_
      refine ww_icmp_ge (pc := 11) (tgt := 50) X dX3_stayersOf_11 (by decide) (fun c9 => absurd c9 (lp_ge1c hjB)) (fun _ => ?_)
      refine ww_aload_n (pc := 14) X dX3_stayersOf_14 0 rfl rfl ?_
      refine ww_iload (pc := 15) X dX3_stayersOf_15 4 rfl ?_
      refine ww_cVi (pc := 17) (rest := []) (wsN := wX5 cI cZ cQ rL SL ++ wX3 cI cZ cQ rF SF) (ci := 3) (q0 := 0) X (c_X3_isBelow l D cI cZ cQ rF SF (nI j_5)) gX3_stayersOf_X3_isBelow rfl hd_X3_isBelow [7, 8] rfl (by decide) rfl rfl rfl rfl rfl rfl ⟨rfl, rfl⟩ ⟨Nat.le_of_ble_eq_true rfl, Nat.le_of_ble_eq_true rfl⟩ (Nat.le_of_ble_eq_true rfl) ⟨Nat.zero_le _, Nat.zero_le _⟩ dX3_stayersOf_17 ?_
      refine ww_if_eq (pc := 20) (tgt := 44) X dX3_stayersOf_20 (by decide) (fun c3 => ?_) (fun c3 => ?_)
      · refine ww_iinc (pc := 44) (v := (nI j_5) + 1) (lv' := [(4, .int ((nI j_5) + 1)), (0, .ref (rF 0)), (1, .ref (rL 0)), (2, .int x2), (3, .int (it_X3_stayersOf_5 SL SF x2 (0 : Int32) j_5))]) X dX3_stayersOf_44 4 rfl rfl (by decide) rfl ?_
        refine ww_goto (pc := 47) (tgt := 5) X dX3_stayersOf_47 (by decide) ?_
        have h4 : (it_X3_stayersOf_5 SL SF x2 (0 : Int32) (j_5 + 1)) = (it_X3_stayersOf_5 SL SF x2 (0 : Int32) j_5) := by
          show bd_X3_stayersOf_5 SL SF x2 j_5 (it_X3_stayersOf_5 SL SF x2 (0 : Int32) j_5) = _; unfold bd_X3_stayersOf_5; try rw [if_pos c3]; first | done | rfl
        refine ww_lsub [1, 2, 3, 4, 0] rfl ?_
        exact ww_castI (fun u9 : Int32 => wX5 cI cZ cQ rL SL ++ wX3 cI cZ cQ rF SF) (fun (u9 : Int32) (i9 : Int32) => ([(0, .ref (rF 0)), (1, .ref (rL 0)), (2, .int x2), (3, .int u9), (4, .int i9)] : List (Nat × Value))) h4 (ih (j_5 + 1) (by omega) K)
      · refine ww_aload_n (pc := 23) X dX3_stayersOf_23 0 rfl rfl ?_
        refine ww_get (pc := 24) (ci := 3) (v := .ref (rF 1)) (C := RX3) (T := TX3) (N := 1) X inX3_stayersOf_3 7 rfl rfl 0 (by decide) (by decide +kernel) rfl dX3_stayersOf_24 ?_
        refine ww_bipush (pc := 27) (v := 22) X dX3_stayersOf_27 (by decide) ?_
        refine ww_iload (pc := 29) X dX3_stayersOf_29 4 rfl ?_
        refine ww_iadd (pc := 31) X dX3_stayersOf_31 ?_
        refine ww_iald (pc := 32) (f := SF.2 0) X 8 0 rfl rfl (vn (m := 22 + j_5) (nat_iadd (a := 22) (b := j_5) rfl rfl) (by omega) (by decide)) dX3_stayersOf_32 ?_
        refine ww_iload_n (pc := 33) X dX3_stayersOf_33 2 rfl rfl ?_
        refine ww_icmp_lt (pc := 34) (tgt := 44) X dX3_stayersOf_34 (by decide) (fun c5 => ?_) (fun c5 => ?_)
        · refine ww_iinc (pc := 44) (v := (nI j_5) + 1) (lv' := [(4, .int ((nI j_5) + 1)), (0, .ref (rF 0)), (1, .ref (rL 0)), (2, .int x2), (3, .int (it_X3_stayersOf_5 SL SF x2 (0 : Int32) j_5))]) X dX3_stayersOf_44 4 rfl rfl (by decide) rfl ?_
          refine ww_goto (pc := 47) (tgt := 5) X dX3_stayersOf_47 (by decide) ?_
          have h6 : (it_X3_stayersOf_5 SL SF x2 (0 : Int32) (j_5 + 1)) = (it_X3_stayersOf_5 SL SF x2 (0 : Int32) j_5) := by
            show bd_X3_stayersOf_5 SL SF x2 j_5 (it_X3_stayersOf_5 SL SF x2 (0 : Int32) j_5) = _; unfold bd_X3_stayersOf_5; try rw [if_neg c3, if_pos c5]; first | done | rfl
          refine ww_lsub [1, 2, 3, 4, 0] rfl ?_
          exact ww_castI (fun u9 : Int32 => wX5 cI cZ cQ rL SL ++ wX3 cI cZ cQ rF SF) (fun (u9 : Int32) (i9 : Int32) => ([(0, .ref (rF 0)), (1, .ref (rL 0)), (2, .int x2), (3, .int u9), (4, .int i9)] : List (Nat × Value))) h6 (ih (j_5 + 1) (by omega) K)
        · refine ww_iload_n (pc := 37) X dX3_stayersOf_37 3 rfl rfl ?_
          refine ww_iconst (pc := 38) (v := 1) X dX3_stayersOf_38 (by decide) ?_
          refine ww_iload (pc := 39) X dX3_stayersOf_39 4 rfl ?_
          refine ww_ishl (pc := 41) X dX3_stayersOf_41 ?_
          refine ww_ior (pc := 42) X dX3_stayersOf_42 ?_
          generalize hz7 : ((it_X3_stayersOf_5 SL SF x2 (0 : Int32) j_5) ||| (1 <<< ((nI j_5) &&& 31))) = z7
          refine ww_istore_n (pc := 43) (lv' := [(3, .int z7), (0, .ref (rF 0)), (1, .ref (rL 0)), (2, .int x2), (4, .int (nI j_5))]) X dX3_stayersOf_43 rfl (by decide) rfl ?_
          refine ww_iinc (pc := 44) (v := (nI j_5) + 1) (lv' := [(4, .int ((nI j_5) + 1)), (3, .int z7), (0, .ref (rF 0)), (1, .ref (rL 0)), (2, .int x2)]) X dX3_stayersOf_44 4 rfl rfl (by decide) rfl ?_
          refine ww_goto (pc := 47) (tgt := 5) X dX3_stayersOf_47 (by decide) ?_
          have h8 : (it_X3_stayersOf_5 SL SF x2 (0 : Int32) (j_5 + 1)) = z7 := by
            show bd_X3_stayersOf_5 SL SF x2 j_5 (it_X3_stayersOf_5 SL SF x2 (0 : Int32) j_5) = _; unfold bd_X3_stayersOf_5; try rw [if_neg c3, if_neg c5, hz7]; try unfold bd_X3_stayersOf_5_k1; first | done | rfl
          refine ww_lsub [2, 3, 4, 1, 0] rfl ?_
          exact ww_castI (fun u9 : Int32 => wX5 cI cZ cQ rL SL ++ wX3 cI cZ cQ rF SF) (fun (u9 : Int32) (i9 : Int32) => ([(0, .ref (rF 0)), (1, .ref (rL 0)), (2, .int x2), (3, .int u9), (4, .int i9)] : List (Nat × Value))) h8 (ih (j_5 + 1) (by omega) K)
  refine ww_lsub [2, 3, 4, 1, 0] rfl ?_
  refine L5 ((SL.1 3).toNatClampNeg) 0 (by omega) ?_
  generalize hz9 : ((it_X3_stayersOf_5 SL SF x2 (0 : Int32) ((SL.1 3).toNatClampNeg))) = z9
  refine ww_iload_n (pc := 50) X dX3_stayersOf_50 3 rfl rfl ?_
  exact ww_iret X hr rfl (Eq.symm (by unfold f_X3_stayersOf; try rw [hz9]; try unfold f_X3_stayersOf_k1; first | done | rfl)) rfl dX3_stayersOf_51
def bd_X3_passYears_12_k1 (SL : St) (x2 : Int32) (j : Nat) (u : St) (z3 : St) : St :=
  z3
def bd_X3_passYears_12 (SL : St) (x2 : Int32) (j : Nat) (u : St) : St :=
  if (f_X3_isAbove u (nI j)) = 0 then
    if (f_X3_isBelow u (nI j)) = 0 then
      u
    else
      (sA u 0 (upd (upd (u.2 0) ((15 + (nI j) : Int32)).toNatClampNeg (((u.2 0) ((15 + (nI j) : Int32)).toNatClampNeg) + x2)) ((22 + (nI j) : Int32)).toNatClampNeg (((upd (u.2 0) ((15 + (nI j) : Int32)).toNatClampNeg (((u.2 0) ((15 + (nI j) : Int32)).toNatClampNeg) + x2)) ((22 + (nI j) : Int32)).toNatClampNeg) + x2)))
  else
    bd_X3_passYears_12_k1 SL x2 j u (f_X3_buryIfOld SL (sA u 0 (upd (u.2 0) ((1 + (nI j) : Int32)).toNatClampNeg (((u.2 0) ((1 + (nI j) : Int32)).toNatClampNeg) + (if (((SL.2 2) (((nI j) : Int32)).toNatClampNeg) - ((u.2 0) ((1 + (nI j) : Int32)).toNatClampNeg)) < x2 then (((SL.2 2) (((nI j) : Int32)).toNatClampNeg) - ((u.2 0) ((1 + (nI j) : Int32)).toNatClampNeg)) else x2)))) (nI j))
def it_X3_passYears_12 (SL : St) (x2 : Int32) (u : St) : Nat → St
  | 0 => u
  | j + 1 => bd_X3_passYears_12 SL x2 j (it_X3_passYears_12 SL x2 u j)
def bd_X3_passYears_109 (SL : St) (x2 : Int32) (j : Nat) (u : St) : St :=
  (sA u 0 (upd (u.2 0) ((29 + (nI j) : Int32)).toNatClampNeg (f_X5_worthBehind SL (nI j) ((u.2 0) ((29 + (nI j) : Int32)).toNatClampNeg) x2)))
def it_X3_passYears_109 (SL : St) (x2 : Int32) (u : St) : Nat → St
  | 0 => u
  | j + 1 => bd_X3_passYears_109 SL x2 j (it_X3_passYears_109 SL x2 u j)
def f_X3_passYears_k2 (SL : St) (SF : St) (x2 : Int32) (z10 : St) (z12 : St) : St :=
  z12
def f_X3_passYears_k1 (SL : St) (SF : St) (x2 : Int32) (z10 : St) : St :=
  f_X3_passYears_k2 SL SF x2 z10 (it_X3_passYears_109 SL x2 z10 ((SL.1 4).toNatClampNeg))
def f_X3_passYears (SL : St) (SF : St) (x2 : Int32) : St :=
  f_X3_passYears_k1 SL SF x2 (it_X3_passYears_12 SL x2 (sA SF 0 (upd (SF.2 0) ((0 : Int32)).toNatClampNeg (((SF.2 0) ((0 : Int32)).toNatClampNeg) + x2))) ((SL.1 3).toNatClampNeg))
theorem inX3_passYears_3 : ∀ w ∈ wsX30, w ∈ wsX3_passYears := by decide +kernel
theorem inX3_passYears_5 : ∀ w ∈ wsX50, w ∈ wsX3_passYears := by decide +kernel
theorem hd_X3_passYears : yX3_passYears.cls = RX3 ∧ yX3_passYears.cls ≠ "java/lang/invoke/MethodHandle" ∧ yX3_passYears.cls ≠ "java/lang/invoke/VarHandle" ∧ (parseMethodDescriptor yX3_passYears.desc).map (fun d => d.parameters.length) = some 2 := by decide +kernel
set_option maxHeartbeats 4000000 in
set_option maxRecDepth 100000 in
theorem c_X3_passYears (l : Launch) (D : va_G) (cI cZ cQ : ClassId) (rL : Nat → Nat) (rF : Nat → Nat) (SL : St) (SF : St) (x2 : Int32) (okL : okS SL) : Cv l yX3_passYears wsX3_passYears { frames := 3, cells := 0, slots := 0, locals := 70 } D (tyL cI cZ cQ) [.ref (rF 0), .ref (rL 0), .int x2] (wX5 cI cZ cQ rL SL ++ wX3 cI cZ cQ rF SF) (wX5 cI cZ cQ rL SL ++ wX3 cI cZ cQ rF (f_X3_passYears SL SF x2)) := by
  refine cv_of (cc := cX3_passYears) (nL := 4) (lv0 := [(0, .ref (rF 0)), (1, .ref (rL 0)), (2, .int x2)]) (by decide) rfl (Nat.le_of_ble_eq_true rfl) rfl ?_
  intro p e s m args below meth c A X hr
  refine ww_aload_n (pc := 0) X dX3_passYears_0 0 rfl rfl ?_
  refine ww_get (pc := 1) (ci := 3) (v := .ref (rF 1)) (C := RX3) (T := TX3) (N := 1) X inX3_passYears_3 7 rfl rfl 0 (by decide) (by decide +kernel) rfl dX3_passYears_1 ?_
  refine ww_iconst (pc := 4) (v := 0) X dX3_passYears_4 (by decide) ?_
  refine ww_dup2_11 (pc := 5) X dX3_passYears_5 rfl rfl ?_
  refine ww_iald (pc := 6) (f := SF.2 0) X 8 0 rfl rfl (vl_in (by decide)) dX3_passYears_6 ?_
  refine ww_iload_n (pc := 7) X dX3_passYears_7 2 rfl rfl ?_
  refine ww_iadd (pc := 8) X dX3_passYears_8 ?_
  refine ww_iast (pc := 9) (f := SF.2 0) (ws' := wX5 cI cZ cQ rL SL ++ wX3 cI cZ cQ rF (sA SF 0 (upd (SF.2 0) ((0 : Int32)).toNatClampNeg (((SF.2 0) ((0 : Int32)).toNatClampNeg) + x2)))) X 8 0 rfl rfl (vl_in (by decide)) rfl dX3_passYears_9 ?_
  refine ww_iconst (pc := 10) (v := 0) X dX3_passYears_10 (by decide) ?_
  refine ww_istore_n (pc := 11) (lv' := [(3, .int 0), (0, .ref (rF 0)), (1, .ref (rL 0)), (2, .int x2)]) X dX3_passYears_11 rfl (by decide) rfl ?_
  have L12 : ∀ (k_12 j_12 : Nat), j_12 + k_12 = (SL.1 3).toNatClampNeg → WW p l e (headSpec wsX3_passYears { frames := 3, cells := 0, slots := 0, locals := 70 }).room s m args below meth c 4 D A 0 0 (RQv below args s D A (wX5 cI cZ cQ rL SL ++ wX3 cI cZ cQ rF (f_X3_passYears SL SF x2))) (wX5 cI cZ cQ rL SL ++ wX3 cI cZ cQ rF (it_X3_passYears_12 SL x2 (sA SF 0 (upd (SF.2 0) ((0 : Int32)).toNatClampNeg (((SF.2 0) ((0 : Int32)).toNatClampNeg) + x2))) ((SL.1 3).toNatClampNeg))) [(0, .ref (rF 0)), (1, .ref (rL 0)), (2, .int x2), (3, .int (nI ((SL.1 3).toNatClampNeg)))] 107 [] → WW p l e (headSpec wsX3_passYears { frames := 3, cells := 0, slots := 0, locals := 70 }).room s m args below meth c 4 D A 0 0 (RQv below args s D A (wX5 cI cZ cQ rL SL ++ wX3 cI cZ cQ rF (f_X3_passYears SL SF x2))) (wX5 cI cZ cQ rL SL ++ wX3 cI cZ cQ rF (it_X3_passYears_12 SL x2 (sA SF 0 (upd (SF.2 0) ((0 : Int32)).toNatClampNeg (((SF.2 0) ((0 : Int32)).toNatClampNeg) + x2))) j_12)) [(0, .ref (rF 0)), (1, .ref (rL 0)), (2, .int x2), (3, .int (nI j_12))] 12 [] := by
    intro k_12
    induction k_12 with
    | zero =>
      intro j_12 hj K
      have hjB : j_12 = (SL.1 3).toNatClampNeg := by omega
      subst hjB
      refine ww_iload_n (pc := 12) X dX3_passYears_12 3 rfl rfl ?_
      refine ww_aload_n (pc := 13) X dX3_passYears_13 1 rfl rfl ?_
      refine ww_get (pc := 14) (ci := 5) (v := .int (SL.1 3)) (C := RX5) (T := TX5) (N := 11) X inX3_passYears_5 0 rfl rfl 3 (by decide) (by decide +kernel) rfl dX3_passYears_14 ?_
      exact ww_icmp_ge (pc := 17) (tgt := 107) X dX3_passYears_17 (by decide) (fun _ => K) (fun c9 => absurd (lp_ge0c (Nat.le_refl _) (cl_lt _)) c9)
    | succ k_12 ih =>
      intro j_12 hj K
      have hjB : j_12 < (SL.1 3).toNatClampNeg := by omega
      have h7_12 := okS_p okL
      refine ww_iload_n (pc := 12) X dX3_passYears_12 3 rfl rfl ?_
      refine ww_aload_n (pc := 13) X dX3_passYears_13 1 rfl rfl ?_
      refine ww_get (pc := 14) (ci := 5) (v := .int (SL.1 3)) (C := RX5) (T := TX5) (N := 11) X inX3_passYears_5 0 rfl rfl 3 (by decide) (by decide +kernel) rfl dX3_passYears_14 ?_
      refine ww_icmp_ge (pc := 17) (tgt := 107) X dX3_passYears_17 (by decide) (fun c9 => absurd c9 (lp_ge1c hjB)) (fun _ => ?_)
      refine ww_aload_n (pc := 20) X dX3_passYears_20 0 rfl rfl ?_
      refine ww_iload_n (pc := 21) X dX3_passYears_21 3 rfl rfl ?_
      refine ww_cVi (pc := 22) (rest := []) (wsN := wX5 cI cZ cQ rL SL ++ wX3 cI cZ cQ rF (it_X3_passYears_12 SL x2 (sA SF 0 (upd (SF.2 0) ((0 : Int32)).toNatClampNeg (((SF.2 0) ((0 : Int32)).toNatClampNeg) + x2))) j_12)) (ci := 3) (q0 := 0) X (c_X3_isAbove l D cI cZ cQ rF (it_X3_passYears_12 SL x2 (sA SF 0 (upd (SF.2 0) ((0 : Int32)).toNatClampNeg (((SF.2 0) ((0 : Int32)).toNatClampNeg) + x2))) j_12) (nI j_12)) gX3_passYears_X3_isAbove rfl hd_X3_isAbove [7, 8] rfl (by decide) rfl rfl rfl rfl rfl rfl ⟨rfl, rfl⟩ ⟨Nat.le_of_ble_eq_true rfl, Nat.le_of_ble_eq_true rfl⟩ (Nat.le_of_ble_eq_true rfl) ⟨Nat.zero_le _, Nat.zero_le _⟩ dX3_passYears_22 ?_
      refine ww_if_eq (pc := 25) (tgt := 67) X dX3_passYears_25 (by decide) (fun c4 => ?_) (fun c4 => ?_)
      · refine ww_aload_n (pc := 67) X dX3_passYears_67 0 rfl rfl ?_
        refine ww_iload_n (pc := 68) X dX3_passYears_68 3 rfl rfl ?_
        refine ww_cVi (pc := 69) (rest := []) (wsN := wX5 cI cZ cQ rL SL ++ wX3 cI cZ cQ rF (it_X3_passYears_12 SL x2 (sA SF 0 (upd (SF.2 0) ((0 : Int32)).toNatClampNeg (((SF.2 0) ((0 : Int32)).toNatClampNeg) + x2))) j_12)) (ci := 3) (q0 := 0) X (c_X3_isBelow l D cI cZ cQ rF (it_X3_passYears_12 SL x2 (sA SF 0 (upd (SF.2 0) ((0 : Int32)).toNatClampNeg (((SF.2 0) ((0 : Int32)).toNatClampNeg) + x2))) j_12) (nI j_12)) gX3_passYears_X3_isBelow rfl hd_X3_isBelow [7, 8] rfl (by decide) rfl rfl rfl rfl rfl rfl ⟨rfl, rfl⟩ ⟨Nat.le_of_ble_eq_true rfl, Nat.le_of_ble_eq_true rfl⟩ (Nat.le_of_ble_eq_true rfl) ⟨Nat.zero_le _, Nat.zero_le _⟩ dX3_passYears_69 ?_
        refine ww_if_eq (pc := 72) (tgt := 101) X dX3_passYears_72 (by decide) (fun c5 => ?_) (fun c5 => ?_)
        · refine ww_iinc (pc := 101) (v := (nI j_12) + 1) (lv' := [(3, .int ((nI j_12) + 1)), (0, .ref (rF 0)), (1, .ref (rL 0)), (2, .int x2)]) X dX3_passYears_101 3 rfl rfl (by decide) rfl ?_
          refine ww_goto (pc := 104) (tgt := 12) X dX3_passYears_104 (by decide) ?_
          have h6 : (it_X3_passYears_12 SL x2 (sA SF 0 (upd (SF.2 0) ((0 : Int32)).toNatClampNeg (((SF.2 0) ((0 : Int32)).toNatClampNeg) + x2))) (j_12 + 1)) = (it_X3_passYears_12 SL x2 (sA SF 0 (upd (SF.2 0) ((0 : Int32)).toNatClampNeg (((SF.2 0) ((0 : Int32)).toNatClampNeg) + x2))) j_12) := by
            show bd_X3_passYears_12 SL x2 j_12 (it_X3_passYears_12 SL x2 (sA SF 0 (upd (SF.2 0) ((0 : Int32)).toNatClampNeg (((SF.2 0) ((0 : Int32)).toNatClampNeg) + x2))) j_12) = _; unfold bd_X3_passYears_12; try rw [if_pos c4, if_pos c5]; first | done | rfl
          refine ww_lsub [1, 2, 3, 0] rfl ?_
          exact ww_castI (fun u9 : St => wX5 cI cZ cQ rL SL ++ wX3 cI cZ cQ rF u9) (fun (u9 : St) (i9 : Int32) => ([(0, .ref (rF 0)), (1, .ref (rL 0)), (2, .int x2), (3, .int i9)] : List (Nat × Value))) h6 (ih (j_12 + 1) (by omega) K)
        · refine ww_aload_n (pc := 75) X dX3_passYears_75 0 rfl rfl ?_
          refine ww_get (pc := 76) (ci := 3) (v := .ref (rF 1)) (C := RX3) (T := TX3) (N := 1) X inX3_passYears_3 7 rfl rfl 0 (by decide) (by decide +kernel) rfl dX3_passYears_76 ?_
          refine ww_bipush (pc := 79) (v := 15) X dX3_passYears_79 (by decide) ?_
          refine ww_iload_n (pc := 81) X dX3_passYears_81 3 rfl rfl ?_
          refine ww_iadd (pc := 82) X dX3_passYears_82 ?_
          refine ww_dup2_11 (pc := 83) X dX3_passYears_83 rfl rfl ?_
          refine ww_iald (pc := 84) (f := (it_X3_passYears_12 SL x2 (sA SF 0 (upd (SF.2 0) ((0 : Int32)).toNatClampNeg (((SF.2 0) ((0 : Int32)).toNatClampNeg) + x2))) j_12).2 0) X 8 0 rfl rfl (vn (m := 15 + j_12) (nat_iadd (a := 15) (b := j_12) rfl rfl) (by omega) (by decide)) dX3_passYears_84 ?_
          refine ww_iload_n (pc := 85) X dX3_passYears_85 2 rfl rfl ?_
          refine ww_iadd (pc := 86) X dX3_passYears_86 ?_
          refine ww_iast (pc := 87) (f := (it_X3_passYears_12 SL x2 (sA SF 0 (upd (SF.2 0) ((0 : Int32)).toNatClampNeg (((SF.2 0) ((0 : Int32)).toNatClampNeg) + x2))) j_12).2 0) (ws' := wX5 cI cZ cQ rL SL ++ wX3 cI cZ cQ rF (sA (it_X3_passYears_12 SL x2 (sA SF 0 (upd (SF.2 0) ((0 : Int32)).toNatClampNeg (((SF.2 0) ((0 : Int32)).toNatClampNeg) + x2))) j_12) 0 (upd ((it_X3_passYears_12 SL x2 (sA SF 0 (upd (SF.2 0) ((0 : Int32)).toNatClampNeg (((SF.2 0) ((0 : Int32)).toNatClampNeg) + x2))) j_12).2 0) ((15 + (nI j_12) : Int32)).toNatClampNeg ((((it_X3_passYears_12 SL x2 (sA SF 0 (upd (SF.2 0) ((0 : Int32)).toNatClampNeg (((SF.2 0) ((0 : Int32)).toNatClampNeg) + x2))) j_12).2 0) ((15 + (nI j_12) : Int32)).toNatClampNeg) + x2)))) X 8 0 rfl rfl (vn (m := 15 + j_12) (nat_iadd (a := 15) (b := j_12) rfl rfl) (by omega) (by decide)) rfl dX3_passYears_87 ?_
          refine ww_aload_n (pc := 88) X dX3_passYears_88 0 rfl rfl ?_
          refine ww_get (pc := 89) (ci := 3) (v := .ref (rF 1)) (C := RX3) (T := TX3) (N := 1) X inX3_passYears_3 7 rfl rfl 0 (by decide) (by decide +kernel) rfl dX3_passYears_89 ?_
          refine ww_bipush (pc := 92) (v := 22) X dX3_passYears_92 (by decide) ?_
          refine ww_iload_n (pc := 94) X dX3_passYears_94 3 rfl rfl ?_
          refine ww_iadd (pc := 95) X dX3_passYears_95 ?_
          refine ww_dup2_11 (pc := 96) X dX3_passYears_96 rfl rfl ?_
          refine ww_iald (pc := 97) (f := upd ((it_X3_passYears_12 SL x2 (sA SF 0 (upd (SF.2 0) ((0 : Int32)).toNatClampNeg (((SF.2 0) ((0 : Int32)).toNatClampNeg) + x2))) j_12).2 0) ((15 + (nI j_12) : Int32)).toNatClampNeg ((((it_X3_passYears_12 SL x2 (sA SF 0 (upd (SF.2 0) ((0 : Int32)).toNatClampNeg (((SF.2 0) ((0 : Int32)).toNatClampNeg) + x2))) j_12).2 0) ((15 + (nI j_12) : Int32)).toNatClampNeg) + x2)) X 8 0 rfl rfl (vn (m := 22 + j_12) (nat_iadd (a := 22) (b := j_12) rfl rfl) (by omega) (by decide)) dX3_passYears_97 ?_
          refine ww_iload_n (pc := 98) X dX3_passYears_98 2 rfl rfl ?_
          refine ww_iadd (pc := 99) X dX3_passYears_99 ?_
          refine ww_iast (pc := 100) (f := upd ((it_X3_passYears_12 SL x2 (sA SF 0 (upd (SF.2 0) ((0 : Int32)).toNatClampNeg (((SF.2 0) ((0 : Int32)).toNatClampNeg) + x2))) j_12).2 0) ((15 + (nI j_12) : Int32)).toNatClampNeg ((((it_X3_passYears_12 SL x2 (sA SF 0 (upd (SF.2 0) ((0 : Int32)).toNatClampNeg (((SF.2 0) ((0 : Int32)).toNatClampNeg) + x2))) j_12).2 0) ((15 + (nI j_12) : Int32)).toNatClampNeg) + x2)) (ws' := wX5 cI cZ cQ rL SL ++ wX3 cI cZ cQ rF (sA (it_X3_passYears_12 SL x2 (sA SF 0 (upd (SF.2 0) ((0 : Int32)).toNatClampNeg (((SF.2 0) ((0 : Int32)).toNatClampNeg) + x2))) j_12) 0 (upd (upd ((it_X3_passYears_12 SL x2 (sA SF 0 (upd (SF.2 0) ((0 : Int32)).toNatClampNeg (((SF.2 0) ((0 : Int32)).toNatClampNeg) + x2))) j_12).2 0) ((15 + (nI j_12) : Int32)).toNatClampNeg ((((it_X3_passYears_12 SL x2 (sA SF 0 (upd (SF.2 0) ((0 : Int32)).toNatClampNeg (((SF.2 0) ((0 : Int32)).toNatClampNeg) + x2))) j_12).2 0) ((15 + (nI j_12) : Int32)).toNatClampNeg) + x2)) ((22 + (nI j_12) : Int32)).toNatClampNeg (((upd ((it_X3_passYears_12 SL x2 (sA SF 0 (upd (SF.2 0) ((0 : Int32)).toNatClampNeg (((SF.2 0) ((0 : Int32)).toNatClampNeg) + x2))) j_12).2 0) ((15 + (nI j_12) : Int32)).toNatClampNeg ((((it_X3_passYears_12 SL x2 (sA SF 0 (upd (SF.2 0) ((0 : Int32)).toNatClampNeg (((SF.2 0) ((0 : Int32)).toNatClampNeg) + x2))) j_12).2 0) ((15 + (nI j_12) : Int32)).toNatClampNeg) + x2)) ((22 + (nI j_12) : Int32)).toNatClampNeg) + x2)))) X 8 0 rfl rfl (vn (m := 22 + j_12) (nat_iadd (a := 22) (b := j_12) rfl rfl) (by omega) (by decide)) rfl dX3_passYears_100 ?_
          refine ww_iinc (pc := 101) (v := (nI j_12) + 1) (lv' := [(3, .int ((nI j_12) + 1)), (0, .ref (rF 0)), (1, .ref (rL 0)), (2, .int x2)]) X dX3_passYears_101 3 rfl rfl (by decide) rfl ?_
          refine ww_goto (pc := 104) (tgt := 12) X dX3_passYears_104 (by decide) ?_
          have h7 : (it_X3_passYears_12 SL x2 (sA SF 0 (upd (SF.2 0) ((0 : Int32)).toNatClampNeg (((SF.2 0) ((0 : Int32)).toNatClampNeg) + x2))) (j_12 + 1)) = (sA (it_X3_passYears_12 SL x2 (sA SF 0 (upd (SF.2 0) ((0 : Int32)).toNatClampNeg (((SF.2 0) ((0 : Int32)).toNatClampNeg) + x2))) j_12) 0 (upd (upd ((it_X3_passYears_12 SL x2 (sA SF 0 (upd (SF.2 0) ((0 : Int32)).toNatClampNeg (((SF.2 0) ((0 : Int32)).toNatClampNeg) + x2))) j_12).2 0) ((15 + (nI j_12) : Int32)).toNatClampNeg ((((it_X3_passYears_12 SL x2 (sA SF 0 (upd (SF.2 0) ((0 : Int32)).toNatClampNeg (((SF.2 0) ((0 : Int32)).toNatClampNeg) + x2))) j_12).2 0) ((15 + (nI j_12) : Int32)).toNatClampNeg) + x2)) ((22 + (nI j_12) : Int32)).toNatClampNeg (((upd ((it_X3_passYears_12 SL x2 (sA SF 0 (upd (SF.2 0) ((0 : Int32)).toNatClampNeg (((SF.2 0) ((0 : Int32)).toNatClampNeg) + x2))) j_12).2 0) ((15 + (nI j_12) : Int32)).toNatClampNeg ((((it_X3_passYears_12 SL x2 (sA SF 0 (upd (SF.2 0) ((0 : Int32)).toNatClampNeg (((SF.2 0) ((0 : Int32)).toNatClampNeg) + x2))) j_12).2 0) ((15 + (nI j_12) : Int32)).toNatClampNeg) + x2)) ((22 + (nI j_12) : Int32)).toNatClampNeg) + x2))) := by
            show bd_X3_passYears_12 SL x2 j_12 (it_X3_passYears_12 SL x2 (sA SF 0 (upd (SF.2 0) ((0 : Int32)).toNatClampNeg (((SF.2 0) ((0 : Int32)).toNatClampNeg) + x2))) j_12) = _; unfold bd_X3_passYears_12; try rw [if_pos c4, if_neg c5]; first | done | rfl
          refine ww_lsub [1, 2, 3, 0] rfl ?_
          exact ww_castI (fun u9 : St => wX5 cI cZ cQ rL SL ++ wX3 cI cZ cQ rF u9) (fun (u9 : St) (i9 : Int32) => ([(0, .ref (rF 0)), (1, .ref (rL 0)), (2, .int x2), (3, .int i9)] : List (Nat × Value))) h7 (ih (j_12 + 1) (by omega) K)
      · refine ww_aload_n (pc := 28) X dX3_passYears_28 0 rfl rfl ?_
        refine ww_get (pc := 29) (ci := 3) (v := .ref (rF 1)) (C := RX3) (T := TX3) (N := 1) X inX3_passYears_3 7 rfl rfl 0 (by decide) (by decide +kernel) rfl dX3_passYears_29 ?_
        refine ww_iconst (pc := 32) (v := 1) X dX3_passYears_32 (by decide) ?_
        refine ww_iload_n (pc := 33) X dX3_passYears_33 3 rfl rfl ?_
        refine ww_iadd (pc := 34) X dX3_passYears_34 ?_
        refine ww_dup2_11 (pc := 35) X dX3_passYears_35 rfl rfl ?_
        refine ww_iald (pc := 36) (f := (it_X3_passYears_12 SL x2 (sA SF 0 (upd (SF.2 0) ((0 : Int32)).toNatClampNeg (((SF.2 0) ((0 : Int32)).toNatClampNeg) + x2))) j_12).2 0) X 8 0 rfl rfl (vn (m := 1 + j_12) (nat_iadd (a := 1) (b := j_12) rfl rfl) (by omega) (by decide)) dX3_passYears_36 ?_
        refine ww_iload_n (pc := 37) X dX3_passYears_37 2 rfl rfl ?_
        refine ww_aload_n (pc := 38) X dX3_passYears_38 1 rfl rfl ?_
        refine ww_get (pc := 39) (ci := 5) (v := .ref (rL 3)) (C := RX5) (T := TX5) (N := 11) X inX3_passYears_5 0 rfl rfl 7 (by decide) (by decide +kernel) rfl dX3_passYears_39 ?_
        refine ww_iload_n (pc := 42) X dX3_passYears_42 3 rfl rfl ?_
        refine ww_iald (pc := 43) (f := SL.2 2) X 3 0 rfl rfl (vn (m := j_12) rfl (by omega) (by decide)) dX3_passYears_43 ?_
        refine ww_aload_n (pc := 44) X dX3_passYears_44 0 rfl rfl ?_
        refine ww_get (pc := 45) (ci := 3) (v := .ref (rF 1)) (C := RX3) (T := TX3) (N := 1) X inX3_passYears_3 7 rfl rfl 0 (by decide) (by decide +kernel) rfl dX3_passYears_45 ?_
        refine ww_iconst (pc := 48) (v := 1) X dX3_passYears_48 (by decide) ?_
        refine ww_iload_n (pc := 49) X dX3_passYears_49 3 rfl rfl ?_
        refine ww_iadd (pc := 50) X dX3_passYears_50 ?_
        refine ww_iald (pc := 51) (f := (it_X3_passYears_12 SL x2 (sA SF 0 (upd (SF.2 0) ((0 : Int32)).toNatClampNeg (((SF.2 0) ((0 : Int32)).toNatClampNeg) + x2))) j_12).2 0) X 8 0 rfl rfl (vn (m := 1 + j_12) (nat_iadd (a := 1) (b := j_12) rfl rfl) (by omega) (by decide)) dX3_passYears_51 ?_
        refine ww_isub (pc := 52) X dX3_passYears_52 ?_
        refine ww_mmin (pc := 53) X (by decide +kernel) (by decide +kernel) (by decide +kernel) (by decide +kernel) (Nat.le_of_ble_eq_true rfl) (Nat.le_of_ble_eq_true rfl) (Nat.zero_le _) (Nat.zero_le _) dX3_passYears_53 ?_
        refine ww_iadd (pc := 56) X dX3_passYears_56 ?_
        refine ww_iast (pc := 57) (f := (it_X3_passYears_12 SL x2 (sA SF 0 (upd (SF.2 0) ((0 : Int32)).toNatClampNeg (((SF.2 0) ((0 : Int32)).toNatClampNeg) + x2))) j_12).2 0) (ws' := wX5 cI cZ cQ rL SL ++ wX3 cI cZ cQ rF (sA (it_X3_passYears_12 SL x2 (sA SF 0 (upd (SF.2 0) ((0 : Int32)).toNatClampNeg (((SF.2 0) ((0 : Int32)).toNatClampNeg) + x2))) j_12) 0 (upd ((it_X3_passYears_12 SL x2 (sA SF 0 (upd (SF.2 0) ((0 : Int32)).toNatClampNeg (((SF.2 0) ((0 : Int32)).toNatClampNeg) + x2))) j_12).2 0) ((1 + (nI j_12) : Int32)).toNatClampNeg ((((it_X3_passYears_12 SL x2 (sA SF 0 (upd (SF.2 0) ((0 : Int32)).toNatClampNeg (((SF.2 0) ((0 : Int32)).toNatClampNeg) + x2))) j_12).2 0) ((1 + (nI j_12) : Int32)).toNatClampNeg) + (if (((SL.2 2) (((nI j_12) : Int32)).toNatClampNeg) - (((it_X3_passYears_12 SL x2 (sA SF 0 (upd (SF.2 0) ((0 : Int32)).toNatClampNeg (((SF.2 0) ((0 : Int32)).toNatClampNeg) + x2))) j_12).2 0) ((1 + (nI j_12) : Int32)).toNatClampNeg)) < x2 then (((SL.2 2) (((nI j_12) : Int32)).toNatClampNeg) - (((it_X3_passYears_12 SL x2 (sA SF 0 (upd (SF.2 0) ((0 : Int32)).toNatClampNeg (((SF.2 0) ((0 : Int32)).toNatClampNeg) + x2))) j_12).2 0) ((1 + (nI j_12) : Int32)).toNatClampNeg)) else x2))))) X 8 0 rfl rfl (vn (m := 1 + j_12) (nat_iadd (a := 1) (b := j_12) rfl rfl) (by omega) (by decide)) rfl dX3_passYears_57 ?_
        refine ww_aload_n (pc := 58) X dX3_passYears_58 0 rfl rfl ?_
        refine ww_aload_n (pc := 59) X dX3_passYears_59 1 rfl rfl ?_
        refine ww_iload_n (pc := 60) X dX3_passYears_60 3 rfl rfl ?_
        refine ww_cVv (pc := 61) (rest := []) (wsN := wX5 cI cZ cQ rL SL ++ wX3 cI cZ cQ rF (f_X3_buryIfOld SL (sA (it_X3_passYears_12 SL x2 (sA SF 0 (upd (SF.2 0) ((0 : Int32)).toNatClampNeg (((SF.2 0) ((0 : Int32)).toNatClampNeg) + x2))) j_12) 0 (upd ((it_X3_passYears_12 SL x2 (sA SF 0 (upd (SF.2 0) ((0 : Int32)).toNatClampNeg (((SF.2 0) ((0 : Int32)).toNatClampNeg) + x2))) j_12).2 0) ((1 + (nI j_12) : Int32)).toNatClampNeg ((((it_X3_passYears_12 SL x2 (sA SF 0 (upd (SF.2 0) ((0 : Int32)).toNatClampNeg (((SF.2 0) ((0 : Int32)).toNatClampNeg) + x2))) j_12).2 0) ((1 + (nI j_12) : Int32)).toNatClampNeg) + (if (((SL.2 2) (((nI j_12) : Int32)).toNatClampNeg) - (((it_X3_passYears_12 SL x2 (sA SF 0 (upd (SF.2 0) ((0 : Int32)).toNatClampNeg (((SF.2 0) ((0 : Int32)).toNatClampNeg) + x2))) j_12).2 0) ((1 + (nI j_12) : Int32)).toNatClampNeg)) < x2 then (((SL.2 2) (((nI j_12) : Int32)).toNatClampNeg) - (((it_X3_passYears_12 SL x2 (sA SF 0 (upd (SF.2 0) ((0 : Int32)).toNatClampNeg (((SF.2 0) ((0 : Int32)).toNatClampNeg) + x2))) j_12).2 0) ((1 + (nI j_12) : Int32)).toNatClampNeg)) else x2)))) (nI j_12))) (ci := 3) (q0 := 7) X (c_X3_buryIfOld l D cI cZ cQ rL rF SL (sA (it_X3_passYears_12 SL x2 (sA SF 0 (upd (SF.2 0) ((0 : Int32)).toNatClampNeg (((SF.2 0) ((0 : Int32)).toNatClampNeg) + x2))) j_12) 0 (upd ((it_X3_passYears_12 SL x2 (sA SF 0 (upd (SF.2 0) ((0 : Int32)).toNatClampNeg (((SF.2 0) ((0 : Int32)).toNatClampNeg) + x2))) j_12).2 0) ((1 + (nI j_12) : Int32)).toNatClampNeg ((((it_X3_passYears_12 SL x2 (sA SF 0 (upd (SF.2 0) ((0 : Int32)).toNatClampNeg (((SF.2 0) ((0 : Int32)).toNatClampNeg) + x2))) j_12).2 0) ((1 + (nI j_12) : Int32)).toNatClampNeg) + (if (((SL.2 2) (((nI j_12) : Int32)).toNatClampNeg) - (((it_X3_passYears_12 SL x2 (sA SF 0 (upd (SF.2 0) ((0 : Int32)).toNatClampNeg (((SF.2 0) ((0 : Int32)).toNatClampNeg) + x2))) j_12).2 0) ((1 + (nI j_12) : Int32)).toNatClampNeg)) < x2 then (((SL.2 2) (((nI j_12) : Int32)).toNatClampNeg) - (((it_X3_passYears_12 SL x2 (sA SF 0 (upd (SF.2 0) ((0 : Int32)).toNatClampNeg (((SF.2 0) ((0 : Int32)).toNatClampNeg) + x2))) j_12).2 0) ((1 + (nI j_12) : Int32)).toNatClampNeg)) else x2)))) (nI j_12) (vn (m := j_12) rfl (by omega) (by decide))) gX3_passYears_X3_buryIfOld rfl hd_X3_buryIfOld [0, 1, 2, 3, 4, 5, 6, 7, 8] rfl (by decide) rfl rfl rfl rfl rfl rfl ⟨rfl, rfl⟩ ⟨Nat.le_of_ble_eq_true rfl, Nat.le_of_ble_eq_true rfl⟩ (Nat.le_of_ble_eq_true rfl) ⟨Nat.zero_le _, Nat.zero_le _⟩ dX3_passYears_61 ?_
        generalize hz8 : (f_X3_buryIfOld SL (sA (it_X3_passYears_12 SL x2 (sA SF 0 (upd (SF.2 0) ((0 : Int32)).toNatClampNeg (((SF.2 0) ((0 : Int32)).toNatClampNeg) + x2))) j_12) 0 (upd ((it_X3_passYears_12 SL x2 (sA SF 0 (upd (SF.2 0) ((0 : Int32)).toNatClampNeg (((SF.2 0) ((0 : Int32)).toNatClampNeg) + x2))) j_12).2 0) ((1 + (nI j_12) : Int32)).toNatClampNeg ((((it_X3_passYears_12 SL x2 (sA SF 0 (upd (SF.2 0) ((0 : Int32)).toNatClampNeg (((SF.2 0) ((0 : Int32)).toNatClampNeg) + x2))) j_12).2 0) ((1 + (nI j_12) : Int32)).toNatClampNeg) + (if (((SL.2 2) (((nI j_12) : Int32)).toNatClampNeg) - (((it_X3_passYears_12 SL x2 (sA SF 0 (upd (SF.2 0) ((0 : Int32)).toNatClampNeg (((SF.2 0) ((0 : Int32)).toNatClampNeg) + x2))) j_12).2 0) ((1 + (nI j_12) : Int32)).toNatClampNeg)) < x2 then (((SL.2 2) (((nI j_12) : Int32)).toNatClampNeg) - (((it_X3_passYears_12 SL x2 (sA SF 0 (upd (SF.2 0) ((0 : Int32)).toNatClampNeg (((SF.2 0) ((0 : Int32)).toNatClampNeg) + x2))) j_12).2 0) ((1 + (nI j_12) : Int32)).toNatClampNeg)) else x2)))) (nI j_12)) = z8
        refine ww_goto (pc := 64) (tgt := 101) X dX3_passYears_64 (by decide) ?_
        refine ww_iinc (pc := 101) (v := (nI j_12) + 1) (lv' := [(3, .int ((nI j_12) + 1)), (0, .ref (rF 0)), (1, .ref (rL 0)), (2, .int x2)]) X dX3_passYears_101 3 rfl rfl (by decide) rfl ?_
        refine ww_goto (pc := 104) (tgt := 12) X dX3_passYears_104 (by decide) ?_
        have h9 : (it_X3_passYears_12 SL x2 (sA SF 0 (upd (SF.2 0) ((0 : Int32)).toNatClampNeg (((SF.2 0) ((0 : Int32)).toNatClampNeg) + x2))) (j_12 + 1)) = z8 := by
          show bd_X3_passYears_12 SL x2 j_12 (it_X3_passYears_12 SL x2 (sA SF 0 (upd (SF.2 0) ((0 : Int32)).toNatClampNeg (((SF.2 0) ((0 : Int32)).toNatClampNeg) + x2))) j_12) = _; unfold bd_X3_passYears_12; try rw [if_neg c4, hz8]; try unfold bd_X3_passYears_12_k1; first | done | rfl
        refine ww_lsub [1, 2, 3, 0] rfl ?_
        exact ww_castI (fun u9 : St => wX5 cI cZ cQ rL SL ++ wX3 cI cZ cQ rF u9) (fun (u9 : St) (i9 : Int32) => ([(0, .ref (rF 0)), (1, .ref (rL 0)), (2, .int x2), (3, .int i9)] : List (Nat × Value))) h9 (ih (j_12 + 1) (by omega) K)
  refine ww_lsub [1, 2, 3, 0] rfl ?_
  refine L12 ((SL.1 3).toNatClampNeg) 0 (by omega) ?_
  generalize hz10 : ((it_X3_passYears_12 SL x2 (sA SF 0 (upd (SF.2 0) ((0 : Int32)).toNatClampNeg (((SF.2 0) ((0 : Int32)).toNatClampNeg) + x2))) ((SL.1 3).toNatClampNeg))) = z10
  refine ww_iconst (pc := 107) (v := 0) X dX3_passYears_107 (by decide) ?_
  refine ww_istore_n (pc := 108) (lv' := [(3, .int 0), (0, .ref (rF 0)), (1, .ref (rL 0)), (2, .int x2)]) X dX3_passYears_108 rfl (by decide) rfl ?_
  have L109 : ∀ (k_109 j_109 : Nat), j_109 + k_109 = (SL.1 4).toNatClampNeg → WW p l e (headSpec wsX3_passYears { frames := 3, cells := 0, slots := 0, locals := 70 }).room s m args below meth c 4 D A 0 0 (RQv below args s D A (wX5 cI cZ cQ rL SL ++ wX3 cI cZ cQ rF (f_X3_passYears SL SF x2))) (wX5 cI cZ cQ rL SL ++ wX3 cI cZ cQ rF (it_X3_passYears_109 SL x2 z10 ((SL.1 4).toNatClampNeg))) [(0, .ref (rF 0)), (1, .ref (rL 0)), (2, .int x2), (3, .int (nI ((SL.1 4).toNatClampNeg)))] 147 [] → WW p l e (headSpec wsX3_passYears { frames := 3, cells := 0, slots := 0, locals := 70 }).room s m args below meth c 4 D A 0 0 (RQv below args s D A (wX5 cI cZ cQ rL SL ++ wX3 cI cZ cQ rF (f_X3_passYears SL SF x2))) (wX5 cI cZ cQ rL SL ++ wX3 cI cZ cQ rF (it_X3_passYears_109 SL x2 z10 j_109)) [(0, .ref (rF 0)), (1, .ref (rL 0)), (2, .int x2), (3, .int (nI j_109))] 109 [] := by
    intro k_109
    induction k_109 with
    | zero =>
      intro j_109 hj K
      have hjB : j_109 = (SL.1 4).toNatClampNeg := by omega
      subst hjB
      refine ww_iload_n (pc := 109) X dX3_passYears_109 3 rfl rfl ?_
      refine ww_aload_n (pc := 110) X dX3_passYears_110 1 rfl rfl ?_
      refine ww_get (pc := 111) (ci := 5) (v := .int (SL.1 4)) (C := RX5) (T := TX5) (N := 11) X inX3_passYears_5 0 rfl rfl 4 (by decide) (by decide +kernel) rfl dX3_passYears_111 ?_
      exact ww_icmp_ge (pc := 114) (tgt := 147) X dX3_passYears_114 (by decide) (fun _ => K) (fun c9 => absurd (lp_ge0c (Nat.le_refl _) (cl_lt _)) c9)
    | succ k_109 ih =>
      intro j_109 hj K
      have hjB : j_109 < (SL.1 4).toNatClampNeg := by omega
      have h6_109 := okS_g okL
      refine ww_iload_n (pc := 109) X dX3_passYears_109 3 rfl rfl ?_
      refine ww_aload_n (pc := 110) X dX3_passYears_110 1 rfl rfl ?_
      refine ww_get (pc := 111) (ci := 5) (v := .int (SL.1 4)) (C := RX5) (T := TX5) (N := 11) X inX3_passYears_5 0 rfl rfl 4 (by decide) (by decide +kernel) rfl dX3_passYears_111 ?_
      refine ww_icmp_ge (pc := 114) (tgt := 147) X dX3_passYears_114 (by decide) (fun c9 => absurd c9 (lp_ge1c hjB)) (fun _ => ?_)
      refine ww_aload_n (pc := 117) X dX3_passYears_117 0 rfl rfl ?_
      refine ww_get (pc := 118) (ci := 3) (v := .ref (rF 1)) (C := RX3) (T := TX3) (N := 1) X inX3_passYears_3 7 rfl rfl 0 (by decide) (by decide +kernel) rfl dX3_passYears_118 ?_
      refine ww_bipush (pc := 121) (v := 29) X dX3_passYears_121 (by decide) ?_
      refine ww_iload_n (pc := 123) X dX3_passYears_123 3 rfl rfl ?_
      refine ww_iadd (pc := 124) X dX3_passYears_124 ?_
      refine ww_aload_n (pc := 125) X dX3_passYears_125 1 rfl rfl ?_
      refine ww_iload_n (pc := 126) X dX3_passYears_126 3 rfl rfl ?_
      refine ww_aload_n (pc := 127) X dX3_passYears_127 0 rfl rfl ?_
      refine ww_get (pc := 128) (ci := 3) (v := .ref (rF 1)) (C := RX3) (T := TX3) (N := 1) X inX3_passYears_3 7 rfl rfl 0 (by decide) (by decide +kernel) rfl dX3_passYears_128 ?_
      refine ww_bipush (pc := 131) (v := 29) X dX3_passYears_131 (by decide) ?_
      refine ww_iload_n (pc := 133) X dX3_passYears_133 3 rfl rfl ?_
      refine ww_iadd (pc := 134) X dX3_passYears_134 ?_
      refine ww_iald (pc := 135) (f := (it_X3_passYears_109 SL x2 z10 j_109).2 0) X 8 0 rfl rfl (vn (m := 29 + j_109) (nat_iadd (a := 29) (b := j_109) rfl rfl) (by omega) (by decide)) dX3_passYears_135 ?_
      refine ww_iload_n (pc := 136) X dX3_passYears_136 2 rfl rfl ?_
      refine ww_cVi (pc := 137) (rest := [.int (29 + (nI j_109)), .ref (rF 1)]) (wsN := wX5 cI cZ cQ rL SL ++ wX3 cI cZ cQ rF (it_X3_passYears_109 SL x2 z10 j_109)) (ci := 5) (q0 := 0) X (c_X5_worthBehind l D cI cZ cQ rL SL (nI j_109) (((it_X3_passYears_109 SL x2 z10 j_109).2 0) ((29 + (nI j_109) : Int32)).toNatClampNeg) x2) gX3_passYears_X5_worthBehind rfl hd_X5_worthBehind [0, 1, 2, 3, 4, 5, 6] rfl (by decide) rfl rfl rfl rfl rfl rfl ⟨rfl, rfl⟩ ⟨Nat.le_of_ble_eq_true rfl, Nat.le_of_ble_eq_true rfl⟩ (Nat.le_of_ble_eq_true rfl) ⟨Nat.zero_le _, Nat.zero_le _⟩ dX3_passYears_137 ?_
      refine ww_iast (pc := 140) (f := (it_X3_passYears_109 SL x2 z10 j_109).2 0) (ws' := wX5 cI cZ cQ rL SL ++ wX3 cI cZ cQ rF (sA (it_X3_passYears_109 SL x2 z10 j_109) 0 (upd ((it_X3_passYears_109 SL x2 z10 j_109).2 0) ((29 + (nI j_109) : Int32)).toNatClampNeg (f_X5_worthBehind SL (nI j_109) (((it_X3_passYears_109 SL x2 z10 j_109).2 0) ((29 + (nI j_109) : Int32)).toNatClampNeg) x2)))) X 8 0 rfl rfl (vn (m := 29 + j_109) (nat_iadd (a := 29) (b := j_109) rfl rfl) (by omega) (by decide)) rfl dX3_passYears_140 ?_
      refine ww_iinc (pc := 141) (v := (nI j_109) + 1) (lv' := [(3, .int ((nI j_109) + 1)), (0, .ref (rF 0)), (1, .ref (rL 0)), (2, .int x2)]) X dX3_passYears_141 3 rfl rfl (by decide) rfl ?_
      refine ww_goto (pc := 144) (tgt := 109) X dX3_passYears_144 (by decide) ?_
      have h11 : (it_X3_passYears_109 SL x2 z10 (j_109 + 1)) = (sA (it_X3_passYears_109 SL x2 z10 j_109) 0 (upd ((it_X3_passYears_109 SL x2 z10 j_109).2 0) ((29 + (nI j_109) : Int32)).toNatClampNeg (f_X5_worthBehind SL (nI j_109) (((it_X3_passYears_109 SL x2 z10 j_109).2 0) ((29 + (nI j_109) : Int32)).toNatClampNeg) x2))) := by
        show bd_X3_passYears_109 SL x2 j_109 (it_X3_passYears_109 SL x2 z10 j_109) = _; unfold bd_X3_passYears_109; first | done | rfl
      refine ww_lsub [1, 2, 3, 0] rfl ?_
      exact ww_castI (fun u9 : St => wX5 cI cZ cQ rL SL ++ wX3 cI cZ cQ rF u9) (fun (u9 : St) (i9 : Int32) => ([(0, .ref (rF 0)), (1, .ref (rL 0)), (2, .int x2), (3, .int i9)] : List (Nat × Value))) h11 (ih (j_109 + 1) (by omega) K)
  refine ww_lsub [1, 2, 3, 0] rfl ?_
  refine L109 ((SL.1 4).toNatClampNeg) 0 (by omega) ?_
  generalize hz12 : ((it_X3_passYears_109 SL x2 z10 ((SL.1 4).toNatClampNeg))) = z12
  have h13 : f_X3_passYears SL SF x2 = z12 := by unfold f_X3_passYears; try rw [hz10]; try unfold f_X3_passYears_k1; try rw [hz12]; try unfold f_X3_passYears_k2; first | done | rfl
  exact ww_vret X hr (congrArg (fun u9 : St => wX5 cI cZ cQ rL SL ++ wX3 cI cZ cQ rF u9) h13.symm) dX3_passYears_147
end
section
def f_X0_empty (SB : St) : St :=
  (sI SB 0 0)
theorem inX0_empty_0 : ∀ w ∈ wsX00, w ∈ wsX0_empty := by decide +kernel
theorem hd_X0_empty : yX0_empty.cls = RX0 ∧ yX0_empty.cls ≠ "java/lang/invoke/MethodHandle" ∧ yX0_empty.cls ≠ "java/lang/invoke/VarHandle" ∧ (parseMethodDescriptor yX0_empty.desc).map (fun d => d.parameters.length) = some 0 := by decide +kernel
set_option maxHeartbeats 4000000 in
set_option maxRecDepth 100000 in
theorem c_X0_empty (l : Launch) (D : va_G) (cI cZ cQ : ClassId) (rB : Nat → Nat) (SB : St) : Cv l yX0_empty wsX0_empty { frames := 0, cells := 0, slots := 0, locals := 0 } D (tyL cI cZ cQ) [.ref (rB 0)] (wX0 cI cZ cQ rB SB) (wX0 cI cZ cQ rB (f_X0_empty SB)) := by
  refine cv_of (cc := cX0_empty) (nL := 1) (lv0 := [(0, .ref (rB 0))]) (by decide) rfl (Nat.le_of_ble_eq_true rfl) rfl ?_
  intro p e s m args below meth c A X hr
  refine ww_aload_n (pc := 0) X dX0_empty_0 0 rfl rfl ?_
  refine ww_iconst (pc := 1) (v := 0) X dX0_empty_1 (by decide) ?_
  refine ww_put (pc := 2) (ci := 0) (v := .int 0) (C := RX0) (T := TX0) (N := 3) (ws' := wX0 cI cZ cQ rB (sI SB 0 0)) X inX0_empty_0 tyX0 tyX0_ok nmX0 0 rfl rfl 2 (by decide) (by decide +kernel) rfl rfl rfl (Nat.le_of_ble_eq_true rfl) rfl dX0_empty_2 ?_
  have h1 : f_X0_empty SB = (sI SB 0 0) := by unfold f_X0_empty; first | done | rfl
  exact ww_vret X hr (congrArg (fun u9 : St => wX0 cI cZ cQ rB u9) h1.symm) dX0_empty_5
def f_X0_add (SB : St) (x1 : Int32) (x2 : Int32) : St :=
  if 15 ≤ (SB.1 0) then
    SB
  else
    (sA (sA (sI SB 0 ((SB.1 0) + 1)) 0 (upd (SB.2 0) ((SB.1 0 : Int32)).toNatClampNeg x1)) 1 (upd (SB.2 1) ((SB.1 0 : Int32)).toNatClampNeg x2))
theorem inX0_add_0 : ∀ w ∈ wsX00, w ∈ wsX0_add := by decide +kernel
theorem hd_X0_add : yX0_add.cls = RX0 ∧ yX0_add.cls ≠ "java/lang/invoke/MethodHandle" ∧ yX0_add.cls ≠ "java/lang/invoke/VarHandle" ∧ (parseMethodDescriptor yX0_add.desc).map (fun d => d.parameters.length) = some 2 := by decide +kernel
set_option maxHeartbeats 4000000 in
set_option maxRecDepth 100000 in
theorem c_X0_add (l : Launch) (D : va_G) (cI cZ cQ : ClassId) (rB : Nat → Nat) (SB : St) (x1 : Int32) (x2 : Int32) (ok0 : ¬ (SB.1 0) < 0) : Cv l yX0_add wsX0_add { frames := 0, cells := 0, slots := 0, locals := 0 } D (tyL cI cZ cQ) [.ref (rB 0), .int x1, .int x2] (wX0 cI cZ cQ rB SB) (wX0 cI cZ cQ rB (f_X0_add SB x1 x2)) := by
  refine cv_of (cc := cX0_add) (nL := 3) (lv0 := [(0, .ref (rB 0)), (1, .int x1), (2, .int x2)]) (by decide) rfl (Nat.le_of_ble_eq_true rfl) rfl ?_
  intro p e s m args below meth c A X hr
  refine ww_aload_n (pc := 0) X dX0_add_0 0 rfl rfl ?_
  refine ww_get (pc := 1) (ci := 0) (v := .int (SB.1 0)) (C := RX0) (T := TX0) (N := 3) X inX0_add_0 0 rfl rfl 2 (by decide) (by decide +kernel) rfl dX0_add_1 ?_
  refine ww_bipush (pc := 4) (v := 15) X dX0_add_4 (by decide) ?_
  refine ww_icmp_ge (pc := 6) (tgt := 39) X dX0_add_6 (by decide) (fun c1 => ?_) (fun c1 => ?_)
  · have h2 : f_X0_add SB x1 x2 = SB := by unfold f_X0_add; try rw [if_pos c1]; first | done | rfl
    exact ww_vret X hr (congrArg (fun u9 : St => wX0 cI cZ cQ rB u9) h2.symm) dX0_add_39
  · refine ww_aload_n (pc := 9) X dX0_add_9 0 rfl rfl ?_
    refine ww_get (pc := 10) (ci := 0) (v := .ref (rB 1)) (C := RX0) (T := TX0) (N := 3) X inX0_add_0 0 rfl rfl 0 (by decide) (by decide +kernel) rfl dX0_add_10 ?_
    refine ww_aload_n (pc := 13) X dX0_add_13 0 rfl rfl ?_
    refine ww_get (pc := 14) (ci := 0) (v := .int (SB.1 0)) (C := RX0) (T := TX0) (N := 3) X inX0_add_0 0 rfl rfl 2 (by decide) (by decide +kernel) rfl dX0_add_14 ?_
    refine ww_iload_n (pc := 17) X dX0_add_17 1 rfl rfl ?_
    refine ww_iast (pc := 18) (f := SB.2 0) (ws' := wX0 cI cZ cQ rB (sA SB 0 (upd (SB.2 0) ((SB.1 0 : Int32)).toNatClampNeg x1))) X 1 0 rfl rfl (vin_nge ok0 c1 rfl) rfl dX0_add_18 ?_
    refine ww_aload_n (pc := 19) X dX0_add_19 0 rfl rfl ?_
    refine ww_get (pc := 20) (ci := 0) (v := .ref (rB 2)) (C := RX0) (T := TX0) (N := 3) X inX0_add_0 0 rfl rfl 1 (by decide) (by decide +kernel) rfl dX0_add_20 ?_
    refine ww_aload_n (pc := 23) X dX0_add_23 0 rfl rfl ?_
    refine ww_get (pc := 24) (ci := 0) (v := .int (SB.1 0)) (C := RX0) (T := TX0) (N := 3) X inX0_add_0 0 rfl rfl 2 (by decide) (by decide +kernel) rfl dX0_add_24 ?_
    refine ww_iload_n (pc := 27) X dX0_add_27 2 rfl rfl ?_
    refine ww_iast (pc := 28) (f := SB.2 1) (ws' := wX0 cI cZ cQ rB (sA (sA SB 0 (upd (SB.2 0) ((SB.1 0 : Int32)).toNatClampNeg x1)) 1 (upd (SB.2 1) ((SB.1 0 : Int32)).toNatClampNeg x2))) X 2 0 rfl rfl (vin_nge ok0 c1 rfl) rfl dX0_add_28 ?_
    refine ww_aload_n (pc := 29) X dX0_add_29 0 rfl rfl ?_
    refine ww_dup (pc := 30) X dX0_add_30 rfl ?_
    refine ww_get (pc := 31) (ci := 0) (v := .int (SB.1 0)) (C := RX0) (T := TX0) (N := 3) X inX0_add_0 0 rfl rfl 2 (by decide) (by decide +kernel) rfl dX0_add_31 ?_
    refine ww_iconst (pc := 34) (v := 1) X dX0_add_34 (by decide) ?_
    refine ww_iadd (pc := 35) X dX0_add_35 ?_
    refine ww_put (pc := 36) (ci := 0) (v := .int ((SB.1 0) + 1)) (C := RX0) (T := TX0) (N := 3) (ws' := wX0 cI cZ cQ rB (sA (sA (sI SB 0 ((SB.1 0) + 1)) 0 (upd (SB.2 0) ((SB.1 0 : Int32)).toNatClampNeg x1)) 1 (upd (SB.2 1) ((SB.1 0 : Int32)).toNatClampNeg x2))) X inX0_add_0 tyX0 tyX0_ok nmX0 0 rfl rfl 2 (by decide) (by decide +kernel) rfl rfl rfl (Nat.le_of_ble_eq_true rfl) rfl dX0_add_36 ?_
    have h3 : f_X0_add SB x1 x2 = (sA (sA (sI SB 0 ((SB.1 0) + 1)) 0 (upd (SB.2 0) ((SB.1 0 : Int32)).toNatClampNeg x1)) 1 (upd (SB.2 1) ((SB.1 0 : Int32)).toNatClampNeg x2)) := by unfold f_X0_add; try rw [if_neg c1]; first | done | rfl
    exact ww_vret X hr (congrArg (fun u9 : St => wX0 cI cZ cQ rB u9) h3.symm) dX0_add_39
def l0_X0_firstWrong_2 (SF : St) (SB : St) (j : Nat) (u : Unit) : Int32 :=
  (-1)
def lb_X0_firstWrong_2 (SF : St) (SB : St) (rec : Nat → (Unit) → Int32) (j : Nat) (u : Unit) : Int32 :=
  if 15 ≤ (nI j) then
    (-1)
  else
    if (f_X3_age SF ((SB.2 0) (((nI j) : Int32)).toNatClampNeg)) = ((SB.2 1) (((nI j) : Int32)).toNatClampNeg) then
      rec (j + 1) ()
    else
      (nI j)
def lp_X0_firstWrong_2 (SF : St) (SB : St) : Nat → Nat → (Unit) → Int32
  | 0, j, u => l0_X0_firstWrong_2 SF SB j u
  | k + 1, j, u => lb_X0_firstWrong_2 SF SB (lp_X0_firstWrong_2 SF SB k) j u
def f_X0_firstWrong (SF : St) (SB : St) : Int32 :=
  lp_X0_firstWrong_2 SF SB ((SB.1 0).toNatClampNeg) 0 ()
theorem inX0_firstWrong_0 : ∀ w ∈ wsX00, w ∈ wsX0_firstWrong := by decide +kernel
theorem hd_X0_firstWrong : yX0_firstWrong.cls = RX0 ∧ yX0_firstWrong.cls ≠ "java/lang/invoke/MethodHandle" ∧ yX0_firstWrong.cls ≠ "java/lang/invoke/VarHandle" ∧ (parseMethodDescriptor yX0_firstWrong.desc).map (fun d => d.parameters.length) = some 1 := by decide +kernel
set_option maxHeartbeats 4000000 in
set_option maxRecDepth 100000 in
theorem c_X0_firstWrong (l : Launch) (D : va_G) (cI cZ cQ : ClassId) (rF : Nat → Nat) (rB : Nat → Nat) (SF : St) (SB : St) (okB : SB.1 0 ≤ 15) : Ci l yX0_firstWrong wsX0_firstWrong { frames := 2, cells := 0, slots := 0, locals := 41 } D (tyL cI cZ cQ) [.ref (rB 0), .ref (rF 0)] (wX3 cI cZ cQ rF SF ++ wX0 cI cZ cQ rB SB) (f_X0_firstWrong SF SB) (wX3 cI cZ cQ rF SF ++ wX0 cI cZ cQ rB SB) := by
  refine ci_of (cc := cX0_firstWrong) (nL := 3) (ty := .int) (lv0 := [(0, .ref (rB 0)), (1, .ref (rF 0))]) (by decide) rfl (Nat.le_of_ble_eq_true rfl) rfl ?_
  intro p e s m args below meth c A X hr
  refine ww_iconst (pc := 0) (v := 0) X dX0_firstWrong_0 (by decide) ?_
  refine ww_istore_n (pc := 1) (lv' := [(2, .int 0), (0, .ref (rB 0)), (1, .ref (rF 0))]) X dX0_firstWrong_1 rfl (by decide) rfl ?_
  have L2 : ∀ (k_2 j_2 : Nat) (u_2 : Unit), j_2 + k_2 = (SB.1 0).toNatClampNeg → True → f_X0_firstWrong SF SB = lp_X0_firstWrong_2 SF SB k_2 j_2 u_2 → WW p l e (headSpec wsX0_firstWrong { frames := 2, cells := 0, slots := 0, locals := 41 }).room s m args below meth c 3 D A 0 0 (RQi below args s D A (f_X0_firstWrong SF SB) (wX3 cI cZ cQ rF SF ++ wX0 cI cZ cQ rB SB)) (wX3 cI cZ cQ rF SF ++ wX0 cI cZ cQ rB SB) [(0, .ref (rB 0)), (1, .ref (rF 0)), (2, .int (nI j_2))] 2 [] := by
    intro k_2
    induction k_2 with
    | zero =>
      intro j_2 u_2 hj hi hf
      have hjB : j_2 = (SB.1 0).toNatClampNeg := by omega
      subst hjB
      refine ww_iload_n (pc := 2) X dX0_firstWrong_2 2 rfl rfl ?_
      refine ww_aload_n (pc := 3) X dX0_firstWrong_3 0 rfl rfl ?_
      refine ww_get (pc := 4) (ci := 0) (v := .int (SB.1 0)) (C := RX0) (T := TX0) (N := 3) X inX0_firstWrong_0 2 rfl rfl 2 (by decide) (by decide +kernel) rfl dX0_firstWrong_4 ?_
      refine ww_icmp_ge (pc := 7) (tgt := 43) X dX0_firstWrong_7 (by decide) (fun _ => ?_) (fun c9 => absurd (lp_ge0c (Nat.le_refl _) (cl_lt _)) c9)
      refine ww_iconst (pc := 43) (v := (-1)) X dX0_firstWrong_43 (by decide) ?_
      exact ww_iret X hr rfl (Eq.symm (by rw [hf]; show l0_X0_firstWrong_2 SF SB ((SB.1 0).toNatClampNeg) u_2 = _; unfold l0_X0_firstWrong_2; first | done | rfl)) rfl dX0_firstWrong_44
    | succ k_2 ih =>
      intro j_2 u_2 hj hi hf
      have hjB : j_2 < (SB.1 0).toNatClampNeg := by omega
      have hN_2 := cl_le okB (n := 15) rfl (by decide)
      refine ww_iload_n (pc := 2) X dX0_firstWrong_2 2 rfl rfl ?_
      refine ww_aload_n (pc := 3) X dX0_firstWrong_3 0 rfl rfl ?_
      refine ww_get (pc := 4) (ci := 0) (v := .int (SB.1 0)) (C := RX0) (T := TX0) (N := 3) X inX0_firstWrong_0 2 rfl rfl 2 (by decide) (by decide +kernel) rfl dX0_firstWrong_4 ?_
      refine ww_icmp_ge (pc := 7) (tgt := 43) X dX0_firstWrong_7 (by decide) (fun c9 => absurd c9 (lp_ge1c hjB)) (fun _ => ?_)
      refine ww_iload_n (pc := 10) X dX0_firstWrong_10 2 rfl rfl ?_
      refine ww_bipush (pc := 11) (v := 15) X dX0_firstWrong_11 (by decide) ?_
      refine ww_icmp_ge (pc := 13) (tgt := 43) X dX0_firstWrong_13 (by decide) (fun c3 => ?_) (fun c3 => ?_)
      · refine ww_iconst (pc := 43) (v := (-1)) X dX0_firstWrong_43 (by decide) ?_
        exact ww_iret X hr rfl (Eq.symm (by rw [hf]; show lb_X0_firstWrong_2 SF SB (lp_X0_firstWrong_2 SF SB k_2) j_2 u_2 = _; unfold lb_X0_firstWrong_2; try rw [if_pos c3]; first | done | rfl)) rfl dX0_firstWrong_44
      · refine ww_aload_n (pc := 16) X dX0_firstWrong_16 1 rfl rfl ?_
        refine ww_aload_n (pc := 17) X dX0_firstWrong_17 0 rfl rfl ?_
        refine ww_get (pc := 18) (ci := 0) (v := .ref (rB 1)) (C := RX0) (T := TX0) (N := 3) X inX0_firstWrong_0 2 rfl rfl 0 (by decide) (by decide +kernel) rfl dX0_firstWrong_18 ?_
        refine ww_iload_n (pc := 21) X dX0_firstWrong_21 2 rfl rfl ?_
        refine ww_iald (pc := 22) (f := SB.2 0) X 3 0 rfl rfl (vn (m := j_2) rfl (by omega) (by decide)) dX0_firstWrong_22 ?_
        refine ww_cVi (pc := 23) (rest := []) (wsN := wX3 cI cZ cQ rF SF ++ wX0 cI cZ cQ rB SB) (ci := 3) (q0 := 0) X (c_X3_age l D cI cZ cQ rF SF ((SB.2 0) (((nI j_2) : Int32)).toNatClampNeg)) gX0_firstWrong_X3_age rfl hd_X3_age [0, 1] rfl (by decide) rfl rfl rfl rfl rfl rfl ⟨rfl, rfl⟩ ⟨Nat.le_of_ble_eq_true rfl, Nat.le_of_ble_eq_true rfl⟩ (Nat.le_of_ble_eq_true rfl) ⟨Nat.zero_le _, Nat.zero_le _⟩ dX0_firstWrong_23 ?_
        refine ww_aload_n (pc := 26) X dX0_firstWrong_26 0 rfl rfl ?_
        refine ww_get (pc := 27) (ci := 0) (v := .ref (rB 2)) (C := RX0) (T := TX0) (N := 3) X inX0_firstWrong_0 2 rfl rfl 1 (by decide) (by decide +kernel) rfl dX0_firstWrong_27 ?_
        refine ww_iload_n (pc := 30) X dX0_firstWrong_30 2 rfl rfl ?_
        refine ww_iald (pc := 31) (f := SB.2 1) X 4 0 rfl rfl (vn (m := j_2) rfl (by omega) (by decide)) dX0_firstWrong_31 ?_
        refine ww_icmp_eq (pc := 32) (tgt := 37) X dX0_firstWrong_32 (by decide) (fun c4 => ?_) (fun c4 => ?_)
        · refine ww_iinc (pc := 37) (v := (nI j_2) + 1) (lv' := [(2, .int ((nI j_2) + 1)), (0, .ref (rB 0)), (1, .ref (rF 0))]) X dX0_firstWrong_37 2 rfl rfl (by decide) rfl ?_
          refine ww_goto (pc := 40) (tgt := 2) X dX0_firstWrong_40 (by decide) ?_
          refine ww_lsub [1, 2, 0] rfl ?_
          have h5 : f_X0_firstWrong SF SB = lp_X0_firstWrong_2 SF SB k_2 (j_2 + 1) () := by rw [hf]; show lb_X0_firstWrong_2 SF SB (lp_X0_firstWrong_2 SF SB k_2) j_2 u_2 = _; unfold lb_X0_firstWrong_2; try rw [if_neg c3, if_pos c4]; first | done | rfl
          exact ww_cast rfl (congrArg (fun (i9 : Int32) => ([(0, .ref (rB 0)), (1, .ref (rF 0)), (2, .int i9)] : List (Nat × Value))) (nI_1 j_2).symm) (ih (j_2 + 1) () (by omega) trivial h5)
        · refine ww_iload_n (pc := 35) X dX0_firstWrong_35 2 rfl rfl ?_
          exact ww_iret X hr rfl (Eq.symm (by rw [hf]; show lb_X0_firstWrong_2 SF SB (lp_X0_firstWrong_2 SF SB k_2) j_2 u_2 = _; unfold lb_X0_firstWrong_2; try rw [if_neg c3, if_neg c4]; first | done | rfl)) rfl dX0_firstWrong_36
  refine ww_lsub [1, 2, 0] rfl ?_
  exact L2 ((SB.1 0).toNatClampNeg) 0 () (by omega) trivial (by unfold f_X0_firstWrong; first | done | rfl)
def f_X2_hasPlace (SI : St) (x1 : Int32) : Int32 :=
  if x1 < 0 then
    0
  else
    if 2 ≤ x1 then
      0
    else
      1
theorem in_X2_hasPlace {S : St} {x : Int32} (h : ¬ f_X2_hasPlace S x = 0) : vp_in x 2 := by
  unfold f_X2_hasPlace at h
  split at h
  · exact absurd rfl h
  split at h
  · exact absurd rfl h
  exact vin_nge (by assumption) (by assumption) rfl
theorem hd_X2_hasPlace : yX2_hasPlace.cls = RX2 ∧ yX2_hasPlace.cls ≠ "java/lang/invoke/MethodHandle" ∧ yX2_hasPlace.cls ≠ "java/lang/invoke/VarHandle" ∧ (parseMethodDescriptor yX2_hasPlace.desc).map (fun d => d.parameters.length) = some 1 := by decide +kernel
set_option maxHeartbeats 4000000 in
set_option maxRecDepth 100000 in
theorem c_X2_hasPlace (l : Launch) (D : va_G) (cI cZ cQ : ClassId) (rI : Nat → Nat) (SI : St) (x1 : Int32) : Ci l yX2_hasPlace wsX2_hasPlace { frames := 0, cells := 0, slots := 0, locals := 0 } D (tyL cI cZ cQ) [.ref (rI 0), .int x1] (wX2 cI cZ cQ rI SI) (f_X2_hasPlace SI x1) (wX2 cI cZ cQ rI SI) := by
  refine ci_of (cc := cX2_hasPlace) (nL := 2) (ty := .boolean) (lv0 := [(0, .ref (rI 0)), (1, .int x1)]) (by decide) rfl (Nat.le_of_ble_eq_true rfl) rfl ?_
  intro p e s m args below meth c A X hr
  refine ww_iload_n (pc := 0) X dX2_hasPlace_0 1 rfl rfl ?_
  refine ww_if_lt (pc := 1) (tgt := 13) X dX2_hasPlace_1 (by decide) (fun c1 => ?_) (fun c1 => ?_)
  · refine ww_iconst (pc := 13) (v := 0) X dX2_hasPlace_13 (by decide) ?_
    exact ww_iret X hr rfl (Eq.symm (by unfold f_X2_hasPlace; try rw [if_pos c1]; first | done | rfl)) rfl dX2_hasPlace_14
  · refine ww_iload_n (pc := 4) X dX2_hasPlace_4 1 rfl rfl ?_
    refine ww_iconst (pc := 5) (v := 2) X dX2_hasPlace_5 (by decide) ?_
    refine ww_icmp_ge (pc := 6) (tgt := 13) X dX2_hasPlace_6 (by decide) (fun c2 => ?_) (fun c2 => ?_)
    · refine ww_iconst (pc := 13) (v := 0) X dX2_hasPlace_13 (by decide) ?_
      exact ww_iret X hr rfl (Eq.symm (by unfold f_X2_hasPlace; try rw [if_neg c1, if_pos c2]; first | done | rfl)) rfl dX2_hasPlace_14
    · refine ww_iconst (pc := 9) (v := 1) X dX2_hasPlace_9 (by decide) ?_
      refine ww_goto (pc := 10) (tgt := 14) X dX2_hasPlace_10 (by decide) ?_
      exact ww_iret X hr rfl (Eq.symm (by unfold f_X2_hasPlace; try rw [if_neg c1, if_neg c2]; first | done | rfl)) rfl dX2_hasPlace_14
def bd_X2_forget_2  (j : Nat) (u : St) : St :=
  (sA u 1 (upd (u.2 1) (((nI j) : Int32)).toNatClampNeg 0))
def it_X2_forget_2  (u : St) : Nat → St
  | 0 => u
  | j + 1 => bd_X2_forget_2  j (it_X2_forget_2  u j)
def f_X2_forget_k1 (SI : St) (z2 : St) : St :=
  z2
def f_X2_forget (SI : St) : St :=
  f_X2_forget_k1 SI (it_X2_forget_2 SI 2)
theorem inX2_forget_2 : ∀ w ∈ wsX20, w ∈ wsX2_forget := by decide +kernel
theorem hd_X2_forget : yX2_forget.cls = RX2 ∧ yX2_forget.cls ≠ "java/lang/invoke/MethodHandle" ∧ yX2_forget.cls ≠ "java/lang/invoke/VarHandle" ∧ (parseMethodDescriptor yX2_forget.desc).map (fun d => d.parameters.length) = some 0 := by decide +kernel
set_option maxHeartbeats 4000000 in
set_option maxRecDepth 100000 in
theorem c_X2_forget (l : Launch) (D : va_G) (cI cZ cQ : ClassId) (rI : Nat → Nat) (SI : St) : Cv l yX2_forget wsX2_forget { frames := 0, cells := 0, slots := 0, locals := 0 } D (tyL cI cZ cQ) [.ref (rI 0)] (wX2 cI cZ cQ rI SI) (wX2 cI cZ cQ rI (f_X2_forget SI)) := by
  refine cv_of (cc := cX2_forget) (nL := 2) (lv0 := [(0, .ref (rI 0))]) (by decide) rfl (Nat.le_of_ble_eq_true rfl) rfl ?_
  intro p e s m args below meth c A X hr
  refine ww_iconst (pc := 0) (v := 0) X dX2_forget_0 (by decide) ?_
  refine ww_istore_n (pc := 1) (lv' := [(1, .int 0), (0, .ref (rI 0))]) X dX2_forget_1 rfl (by decide) rfl ?_
  have L2 : ∀ (k_2 j_2 : Nat), j_2 + k_2 = 2 → WW p l e (headSpec wsX2_forget { frames := 0, cells := 0, slots := 0, locals := 0 }).room s m args below meth c 2 D A 0 0 (RQv below args s D A (wX2 cI cZ cQ rI (f_X2_forget SI))) (wX2 cI cZ cQ rI (it_X2_forget_2 SI 2)) [(0, .ref (rI 0)), (1, .int (nI 2))] 20 [] → WW p l e (headSpec wsX2_forget { frames := 0, cells := 0, slots := 0, locals := 0 }).room s m args below meth c 2 D A 0 0 (RQv below args s D A (wX2 cI cZ cQ rI (f_X2_forget SI))) (wX2 cI cZ cQ rI (it_X2_forget_2 SI j_2)) [(0, .ref (rI 0)), (1, .int (nI j_2))] 2 [] := by
    intro k_2
    induction k_2 with
    | zero =>
      intro j_2 hj K
      have hjB : j_2 = 2 := by omega
      subst hjB
      refine ww_iload_n (pc := 2) X dX2_forget_2 1 rfl rfl ?_
      refine ww_iconst (pc := 3) (v := 2) X dX2_forget_3 (by decide) ?_
      exact ww_icmp_ge (pc := 4) (tgt := 20) X dX2_forget_4 (by decide) (fun _ => K) (fun c9 => absurd (lp_ge0 rfl (Nat.le_refl _) (by decide)) c9)
    | succ k_2 ih =>
      intro j_2 hj K
      have hjB : j_2 < 2 := by omega
      refine ww_iload_n (pc := 2) X dX2_forget_2 1 rfl rfl ?_
      refine ww_iconst (pc := 3) (v := 2) X dX2_forget_3 (by decide) ?_
      refine ww_icmp_ge (pc := 4) (tgt := 20) X dX2_forget_4 (by decide) (fun c9 => absurd c9 (lp_ge1 rfl hjB (by decide))) (fun _ => ?_)
      refine ww_aload_n (pc := 7) X dX2_forget_7 0 rfl rfl ?_
      refine ww_get (pc := 8) (ci := 2) (v := .ref (rI 3)) (C := RX2) (T := TX2) (N := 3) X inX2_forget_2 0 rfl rfl 2 (by decide) (by decide +kernel) rfl dX2_forget_8 ?_
      refine ww_iload_n (pc := 11) X dX2_forget_11 1 rfl rfl ?_
      refine ww_iconst (pc := 12) (v := 0) X dX2_forget_12 (by decide) ?_
      refine ww_zast (pc := 13) (f := (it_X2_forget_2 SI j_2).2 1) (ws' := wX2 cI cZ cQ rI (sA (it_X2_forget_2 SI j_2) 1 (upd ((it_X2_forget_2 SI j_2).2 1) (((nI j_2) : Int32)).toNatClampNeg 0))) X 3 1 rfl rfl (vn (m := j_2) rfl (by omega) (by decide)) rfl rfl dX2_forget_13 ?_
      refine ww_iinc (pc := 14) (v := (nI j_2) + 1) (lv' := [(1, .int ((nI j_2) + 1)), (0, .ref (rI 0))]) X dX2_forget_14 1 rfl rfl (by decide) rfl ?_
      refine ww_goto (pc := 17) (tgt := 2) X dX2_forget_17 (by decide) ?_
      have h1 : (it_X2_forget_2 SI (j_2 + 1)) = (sA (it_X2_forget_2 SI j_2) 1 (upd ((it_X2_forget_2 SI j_2).2 1) (((nI j_2) : Int32)).toNatClampNeg 0)) := by
        show bd_X2_forget_2  j_2 (it_X2_forget_2 SI j_2) = _; unfold bd_X2_forget_2; first | done | rfl
      refine ww_lsub [1, 0] rfl ?_
      exact ww_castI (fun u9 : St => wX2 cI cZ cQ rI u9) (fun (u9 : St) (i9 : Int32) => ([(0, .ref (rI 0)), (1, .int i9)] : List (Nat × Value))) h1 (ih (j_2 + 1) (by omega) K)
  refine ww_lsub [1, 0] rfl ?_
  refine L2 2 0 (by omega) ?_
  generalize hz2 : ((it_X2_forget_2 SI 2)) = z2
  have h3 : f_X2_forget SI = z2 := by unfold f_X2_forget; try rw [hz2]; try unfold f_X2_forget_k1; first | done | rfl
  exact ww_vret X hr (congrArg (fun u9 : St => wX2 cI cZ cQ rI u9) h3.symm) dX2_forget_20
def f_X6_add (SX : St) (x1 : Int32) : St :=
  if 240 ≤ (SX.1 0) then
    SX
  else
    (sA (sI SX 0 ((SX.1 0) + 1)) 0 (upd (SX.2 0) ((SX.1 0 : Int32)).toNatClampNeg x1))
theorem inX6_add_6 : ∀ w ∈ wsX60, w ∈ wsX6_add := by decide +kernel
theorem hd_X6_add : yX6_add.cls = RX6 ∧ yX6_add.cls ≠ "java/lang/invoke/MethodHandle" ∧ yX6_add.cls ≠ "java/lang/invoke/VarHandle" ∧ (parseMethodDescriptor yX6_add.desc).map (fun d => d.parameters.length) = some 1 := by decide +kernel
set_option maxHeartbeats 4000000 in
set_option maxRecDepth 100000 in
theorem c_X6_add (l : Launch) (D : va_G) (cI cZ cQ : ClassId) (rX : Nat → Nat) (SX : St) (x1 : Int32) (ok0 : ¬ (SX.1 0) < 0) : Cv l yX6_add wsX6_add { frames := 0, cells := 0, slots := 0, locals := 0 } D (tyL cI cZ cQ) [.ref (rX 0), .int x1] (wX6 cI cZ cQ rX SX) (wX6 cI cZ cQ rX (f_X6_add SX x1)) := by
  refine cv_of (cc := cX6_add) (nL := 2) (lv0 := [(0, .ref (rX 0)), (1, .int x1)]) (by decide) rfl (Nat.le_of_ble_eq_true rfl) rfl ?_
  intro p e s m args below meth c A X hr
  refine ww_aload_n (pc := 0) X dX6_add_0 0 rfl rfl ?_
  refine ww_get (pc := 1) (ci := 6) (v := .int (SX.1 0)) (C := RX6) (T := TX6) (N := 6) X inX6_add_6 0 rfl rfl 2 (by decide) (by decide +kernel) rfl dX6_add_1 ?_
  refine ww_sipush (pc := 4) (v := 240) X dX6_add_4 (by decide) ?_
  refine ww_icmp_ge (pc := 7) (tgt := 30) X dX6_add_7 (by decide) (fun c1 => ?_) (fun c1 => ?_)
  · have h2 : f_X6_add SX x1 = SX := by unfold f_X6_add; try rw [if_pos c1]; first | done | rfl
    exact ww_vret X hr (congrArg (fun u9 : St => wX6 cI cZ cQ rX u9) h2.symm) dX6_add_30
  · refine ww_aload_n (pc := 10) X dX6_add_10 0 rfl rfl ?_
    refine ww_get (pc := 11) (ci := 6) (v := .ref (rX 1)) (C := RX6) (T := TX6) (N := 6) X inX6_add_6 0 rfl rfl 0 (by decide) (by decide +kernel) rfl dX6_add_11 ?_
    refine ww_aload_n (pc := 14) X dX6_add_14 0 rfl rfl ?_
    refine ww_get (pc := 15) (ci := 6) (v := .int (SX.1 0)) (C := RX6) (T := TX6) (N := 6) X inX6_add_6 0 rfl rfl 2 (by decide) (by decide +kernel) rfl dX6_add_15 ?_
    refine ww_iload_n (pc := 18) X dX6_add_18 1 rfl rfl ?_
    refine ww_iast (pc := 19) (f := SX.2 0) (ws' := wX6 cI cZ cQ rX (sA SX 0 (upd (SX.2 0) ((SX.1 0 : Int32)).toNatClampNeg x1))) X 1 0 rfl rfl (vin_nge ok0 c1 rfl) rfl dX6_add_19 ?_
    refine ww_aload_n (pc := 20) X dX6_add_20 0 rfl rfl ?_
    refine ww_dup (pc := 21) X dX6_add_21 rfl ?_
    refine ww_get (pc := 22) (ci := 6) (v := .int (SX.1 0)) (C := RX6) (T := TX6) (N := 6) X inX6_add_6 0 rfl rfl 2 (by decide) (by decide +kernel) rfl dX6_add_22 ?_
    refine ww_iconst (pc := 25) (v := 1) X dX6_add_25 (by decide) ?_
    refine ww_iadd (pc := 26) X dX6_add_26 ?_
    refine ww_put (pc := 27) (ci := 6) (v := .int ((SX.1 0) + 1)) (C := RX6) (T := TX6) (N := 6) (ws' := wX6 cI cZ cQ rX (sA (sI SX 0 ((SX.1 0) + 1)) 0 (upd (SX.2 0) ((SX.1 0 : Int32)).toNatClampNeg x1))) X inX6_add_6 tyX6 tyX6_ok nmX6 0 rfl rfl 2 (by decide) (by decide +kernel) rfl rfl rfl (Nat.le_of_ble_eq_true rfl) rfl dX6_add_27 ?_
    have h3 : f_X6_add SX x1 = (sA (sI SX 0 ((SX.1 0) + 1)) 0 (upd (SX.2 0) ((SX.1 0 : Int32)).toNatClampNeg x1)) := by unfold f_X6_add; try rw [if_neg c1]; first | done | rfl
    exact ww_vret X hr (congrArg (fun u9 : St => wX6 cI cZ cQ rX u9) h3.symm) dX6_add_30
def f_X6_empty (SX : St) : St :=
  (sI SX 0 0)
theorem inX6_empty_6 : ∀ w ∈ wsX60, w ∈ wsX6_empty := by decide +kernel
theorem hd_X6_empty : yX6_empty.cls = RX6 ∧ yX6_empty.cls ≠ "java/lang/invoke/MethodHandle" ∧ yX6_empty.cls ≠ "java/lang/invoke/VarHandle" ∧ (parseMethodDescriptor yX6_empty.desc).map (fun d => d.parameters.length) = some 0 := by decide +kernel
set_option maxHeartbeats 4000000 in
set_option maxRecDepth 100000 in
theorem c_X6_empty (l : Launch) (D : va_G) (cI cZ cQ : ClassId) (rX : Nat → Nat) (SX : St) : Cv l yX6_empty wsX6_empty { frames := 0, cells := 0, slots := 0, locals := 0 } D (tyL cI cZ cQ) [.ref (rX 0)] (wX6 cI cZ cQ rX SX) (wX6 cI cZ cQ rX (f_X6_empty SX)) := by
  refine cv_of (cc := cX6_empty) (nL := 1) (lv0 := [(0, .ref (rX 0))]) (by decide) rfl (Nat.le_of_ble_eq_true rfl) rfl ?_
  intro p e s m args below meth c A X hr
  refine ww_aload_n (pc := 0) X dX6_empty_0 0 rfl rfl ?_
  refine ww_iconst (pc := 1) (v := 0) X dX6_empty_1 (by decide) ?_
  refine ww_put (pc := 2) (ci := 6) (v := .int 0) (C := RX6) (T := TX6) (N := 6) (ws' := wX6 cI cZ cQ rX (sI SX 0 0)) X inX6_empty_6 tyX6 tyX6_ok nmX6 0 rfl rfl 2 (by decide) (by decide +kernel) rfl rfl rfl (Nat.le_of_ble_eq_true rfl) rfl dX6_empty_2 ?_
  have h1 : f_X6_empty SX = (sI SX 0 0) := by unfold f_X6_empty; first | done | rfl
  exact ww_vret X hr (congrArg (fun u9 : St => wX6 cI cZ cQ rX u9) h1.symm) dX6_empty_5
def f_X6_here (SX : St) : Int32 :=
  if (SX.1 0) ≤ (SX.1 1) then
    (-1)
  else
    if 240 ≤ (SX.1 1) then
      (-1)
    else
      (SX.2 0) ((SX.1 1 : Int32)).toNatClampNeg
theorem inX6_here_6 : ∀ w ∈ wsX60, w ∈ wsX6_here := by decide +kernel
theorem hd_X6_here : yX6_here.cls = RX6 ∧ yX6_here.cls ≠ "java/lang/invoke/MethodHandle" ∧ yX6_here.cls ≠ "java/lang/invoke/VarHandle" ∧ (parseMethodDescriptor yX6_here.desc).map (fun d => d.parameters.length) = some 0 := by decide +kernel
set_option maxHeartbeats 4000000 in
set_option maxRecDepth 100000 in
theorem c_X6_here (l : Launch) (D : va_G) (cI cZ cQ : ClassId) (rX : Nat → Nat) (SX : St) (ok1 : ¬ (SX.1 1) < 0) : Ci l yX6_here wsX6_here { frames := 0, cells := 0, slots := 0, locals := 0 } D (tyL cI cZ cQ) [.ref (rX 0)] (wX6 cI cZ cQ rX SX) (f_X6_here SX) (wX6 cI cZ cQ rX SX) := by
  refine ci_of (cc := cX6_here) (nL := 1) (ty := .int) (lv0 := [(0, .ref (rX 0))]) (by decide) rfl (Nat.le_of_ble_eq_true rfl) rfl ?_
  intro p e s m args below meth c A X hr
  refine ww_aload_n (pc := 0) X dX6_here_0 0 rfl rfl ?_
  refine ww_get (pc := 1) (ci := 6) (v := .int (SX.1 1)) (C := RX6) (T := TX6) (N := 6) X inX6_here_6 0 rfl rfl 3 (by decide) (by decide +kernel) rfl dX6_here_1 ?_
  refine ww_aload_n (pc := 4) X dX6_here_4 0 rfl rfl ?_
  refine ww_get (pc := 5) (ci := 6) (v := .int (SX.1 0)) (C := RX6) (T := TX6) (N := 6) X inX6_here_6 0 rfl rfl 2 (by decide) (by decide +kernel) rfl dX6_here_5 ?_
  refine ww_icmp_ge (pc := 8) (tgt := 33) X dX6_here_8 (by decide) (fun c1 => ?_) (fun c1 => ?_)
  · refine ww_iconst (pc := 33) (v := (-1)) X dX6_here_33 (by decide) ?_
    exact ww_iret X hr rfl (Eq.symm (by unfold f_X6_here; try rw [if_pos c1]; first | done | rfl)) rfl dX6_here_34
  · refine ww_aload_n (pc := 11) X dX6_here_11 0 rfl rfl ?_
    refine ww_get (pc := 12) (ci := 6) (v := .int (SX.1 1)) (C := RX6) (T := TX6) (N := 6) X inX6_here_6 0 rfl rfl 3 (by decide) (by decide +kernel) rfl dX6_here_12 ?_
    refine ww_sipush (pc := 15) (v := 240) X dX6_here_15 (by decide) ?_
    refine ww_icmp_ge (pc := 18) (tgt := 33) X dX6_here_18 (by decide) (fun c2 => ?_) (fun c2 => ?_)
    · refine ww_iconst (pc := 33) (v := (-1)) X dX6_here_33 (by decide) ?_
      exact ww_iret X hr rfl (Eq.symm (by unfold f_X6_here; try rw [if_neg c1, if_pos c2]; first | done | rfl)) rfl dX6_here_34
    · refine ww_aload_n (pc := 21) X dX6_here_21 0 rfl rfl ?_
      refine ww_get (pc := 22) (ci := 6) (v := .ref (rX 1)) (C := RX6) (T := TX6) (N := 6) X inX6_here_6 0 rfl rfl 0 (by decide) (by decide +kernel) rfl dX6_here_22 ?_
      refine ww_aload_n (pc := 25) X dX6_here_25 0 rfl rfl ?_
      refine ww_get (pc := 26) (ci := 6) (v := .int (SX.1 1)) (C := RX6) (T := TX6) (N := 6) X inX6_here_6 0 rfl rfl 3 (by decide) (by decide +kernel) rfl dX6_here_26 ?_
      refine ww_iald (pc := 29) (f := SX.2 0) X 1 0 rfl rfl (vin_nge ok1 c2 rfl) dX6_here_29 ?_
      refine ww_goto (pc := 30) (tgt := 34) X dX6_here_30 (by decide) ?_
      exact ww_iret X hr rfl (Eq.symm (by unfold f_X6_here; try rw [if_neg c1, if_neg c2]; first | done | rfl)) rfl dX6_here_34
def f_X6_isFigure (SX : St) (x1 : Int32) : Int32 :=
  if x1 < 48 then
    0
  else
    if 57 < x1 then
      0
    else
      1
theorem hd_X6_isFigure : yX6_isFigure.cls = RX6 ∧ yX6_isFigure.cls ≠ "java/lang/invoke/MethodHandle" ∧ yX6_isFigure.cls ≠ "java/lang/invoke/VarHandle" ∧ (parseMethodDescriptor yX6_isFigure.desc).map (fun d => d.parameters.length) = some 1 := by decide +kernel
set_option maxHeartbeats 4000000 in
set_option maxRecDepth 100000 in
theorem c_X6_isFigure (l : Launch) (D : va_G) (cI cZ cQ : ClassId) (rX : Nat → Nat) (SX : St) (x1 : Int32) : Ci l yX6_isFigure wsX6_isFigure { frames := 0, cells := 0, slots := 0, locals := 0 } D (tyL cI cZ cQ) [.ref (rX 0), .int x1] (wX6 cI cZ cQ rX SX) (f_X6_isFigure SX x1) (wX6 cI cZ cQ rX SX) := by
  refine ci_of (cc := cX6_isFigure) (nL := 2) (ty := .boolean) (lv0 := [(0, .ref (rX 0)), (1, .int x1)]) (by decide) rfl (Nat.le_of_ble_eq_true rfl) rfl ?_
  intro p e s m args below meth c A X hr
  refine ww_iload_n (pc := 0) X dX6_isFigure_0 1 rfl rfl ?_
  refine ww_bipush (pc := 1) (v := 48) X dX6_isFigure_1 (by decide) ?_
  refine ww_icmp_lt (pc := 3) (tgt := 16) X dX6_isFigure_3 (by decide) (fun c1 => ?_) (fun c1 => ?_)
  · refine ww_iconst (pc := 16) (v := 0) X dX6_isFigure_16 (by decide) ?_
    exact ww_iret X hr rfl (Eq.symm (by unfold f_X6_isFigure; try rw [if_pos c1]; first | done | rfl)) rfl dX6_isFigure_17
  · refine ww_iload_n (pc := 6) X dX6_isFigure_6 1 rfl rfl ?_
    refine ww_bipush (pc := 7) (v := 57) X dX6_isFigure_7 (by decide) ?_
    refine ww_icmp_gt (pc := 9) (tgt := 16) X dX6_isFigure_9 (by decide) (fun c2 => ?_) (fun c2 => ?_)
    · refine ww_iconst (pc := 16) (v := 0) X dX6_isFigure_16 (by decide) ?_
      exact ww_iret X hr rfl (Eq.symm (by unfold f_X6_isFigure; try rw [if_neg c1, if_pos c2]; first | done | rfl)) rfl dX6_isFigure_17
    · refine ww_iconst (pc := 12) (v := 1) X dX6_isFigure_12 (by decide) ?_
      refine ww_goto (pc := 13) (tgt := 17) X dX6_isFigure_13 (by decide) ?_
      exact ww_iret X hr rfl (Eq.symm (by unfold f_X6_isFigure; try rw [if_neg c1, if_neg c2]; first | done | rfl)) rfl dX6_isFigure_17
def f_X6_blame (SX : St) (x1 : Int32) (x2 : Int32) : St :=
  (sI (sI SX 2 x1) 3 x2)
theorem inX6_blame_6 : ∀ w ∈ wsX60, w ∈ wsX6_blame := by decide +kernel
theorem hd_X6_blame : yX6_blame.cls = RX6 ∧ yX6_blame.cls ≠ "java/lang/invoke/MethodHandle" ∧ yX6_blame.cls ≠ "java/lang/invoke/VarHandle" ∧ (parseMethodDescriptor yX6_blame.desc).map (fun d => d.parameters.length) = some 2 := by decide +kernel
set_option maxHeartbeats 4000000 in
set_option maxRecDepth 100000 in
theorem c_X6_blame (l : Launch) (D : va_G) (cI cZ cQ : ClassId) (rX : Nat → Nat) (SX : St) (x1 : Int32) (x2 : Int32) : Cv l yX6_blame wsX6_blame { frames := 0, cells := 0, slots := 0, locals := 0 } D (tyL cI cZ cQ) [.ref (rX 0), .int x1, .int x2] (wX6 cI cZ cQ rX SX) (wX6 cI cZ cQ rX (f_X6_blame SX x1 x2)) := by
  refine cv_of (cc := cX6_blame) (nL := 3) (lv0 := [(0, .ref (rX 0)), (1, .int x1), (2, .int x2)]) (by decide) rfl (Nat.le_of_ble_eq_true rfl) rfl ?_
  intro p e s m args below meth c A X hr
  refine ww_aload_n (pc := 0) X dX6_blame_0 0 rfl rfl ?_
  refine ww_iload_n (pc := 1) X dX6_blame_1 1 rfl rfl ?_
  refine ww_put (pc := 2) (ci := 6) (v := .int x1) (C := RX6) (T := TX6) (N := 6) (ws' := wX6 cI cZ cQ rX (sI SX 2 x1)) X inX6_blame_6 tyX6 tyX6_ok nmX6 0 rfl rfl 4 (by decide) (by decide +kernel) rfl rfl rfl (Nat.le_of_ble_eq_true rfl) rfl dX6_blame_2 ?_
  refine ww_aload_n (pc := 5) X dX6_blame_5 0 rfl rfl ?_
  refine ww_iload_n (pc := 6) X dX6_blame_6 2 rfl rfl ?_
  refine ww_put (pc := 7) (ci := 6) (v := .int x2) (C := RX6) (T := TX6) (N := 6) (ws' := wX6 cI cZ cQ rX (sI (sI SX 2 x1) 3 x2)) X inX6_blame_6 tyX6 tyX6_ok nmX6 0 rfl rfl 5 (by decide) (by decide +kernel) rfl rfl rfl (Nat.le_of_ble_eq_true rfl) rfl dX6_blame_7 ?_
  have h1 : f_X6_blame SX x1 x2 = (sI (sI SX 2 x1) 3 x2) := by unfold f_X6_blame; first | done | rfl
  exact ww_vret X hr (congrArg (fun u9 : St => wX6 cI cZ cQ rX u9) h1.symm) dX6_blame_10
def f_X4_forget (SP : St) : St :=
  (sI SP 1 0)
theorem inX4_forget_4 : ∀ w ∈ wsX40, w ∈ wsX4_forget := by decide +kernel
theorem hd_X4_forget : yX4_forget.cls = RX4 ∧ yX4_forget.cls ≠ "java/lang/invoke/MethodHandle" ∧ yX4_forget.cls ≠ "java/lang/invoke/VarHandle" ∧ (parseMethodDescriptor yX4_forget.desc).map (fun d => d.parameters.length) = some 0 := by decide +kernel
set_option maxHeartbeats 4000000 in
set_option maxRecDepth 100000 in
theorem c_X4_forget (l : Launch) (D : va_G) (cI cZ cQ : ClassId) (rP : Nat → Nat) (SP : St) : Cv l yX4_forget wsX4_forget { frames := 0, cells := 0, slots := 0, locals := 0 } D (tyL cI cZ cQ) [.ref (rP 0)] (wX4 cI cZ cQ rP SP) (wX4 cI cZ cQ rP (f_X4_forget SP)) := by
  refine cv_of (cc := cX4_forget) (nL := 1) (lv0 := [(0, .ref (rP 0))]) (by decide) rfl (Nat.le_of_ble_eq_true rfl) rfl ?_
  intro p e s m args below meth c A X hr
  refine ww_aload_n (pc := 0) X dX4_forget_0 0 rfl rfl ?_
  refine ww_iconst (pc := 1) (v := 0) X dX4_forget_1 (by decide) ?_
  refine ww_put (pc := 2) (ci := 4) (v := .int 0) (C := RX4) (T := TX4) (N := 3) (ws' := wX4 cI cZ cQ rP (sI SP 1 0)) X inX4_forget_4 tyX4 tyX4_ok nmX4 0 rfl rfl 2 (by decide) (by decide +kernel) rfl rfl rfl (Nat.le_of_ble_eq_true rfl) rfl dX4_forget_2 ?_
  have h1 : f_X4_forget SP = (sI SP 1 0) := by unfold f_X4_forget; first | done | rfl
  exact ww_vret X hr (congrArg (fun u9 : St => wX4 cI cZ cQ rP u9) h1.symm) dX4_forget_5
end
section
def f_X1_empty (SN : St) : St :=
  (sI (sI SN 0 0) 3 0)
theorem inX1_empty_1 : ∀ w ∈ wsX10, w ∈ wsX1_empty := by decide +kernel
theorem hd_X1_empty : yX1_empty.cls = RX1 ∧ yX1_empty.cls ≠ "java/lang/invoke/MethodHandle" ∧ yX1_empty.cls ≠ "java/lang/invoke/VarHandle" ∧ (parseMethodDescriptor yX1_empty.desc).map (fun d => d.parameters.length) = some 0 := by decide +kernel
set_option maxHeartbeats 4000000 in
set_option maxRecDepth 100000 in
theorem c_X1_empty (l : Launch) (D : va_G) (cI cZ cQ : ClassId) (rN : Nat → Nat) (SN : St) : Cv l yX1_empty wsX1_empty { frames := 0, cells := 0, slots := 0, locals := 0 } D (tyL cI cZ cQ) [.ref (rN 0)] (wX1 cI cZ cQ rN SN) (wX1 cI cZ cQ rN (f_X1_empty SN)) := by
  refine cv_of (cc := cX1_empty) (nL := 1) (lv0 := [(0, .ref (rN 0))]) (by decide) rfl (Nat.le_of_ble_eq_true rfl) rfl ?_
  intro p e s m args below meth c A X hr
  refine ww_aload_n (pc := 0) X dX1_empty_0 0 rfl rfl ?_
  refine ww_iconst (pc := 1) (v := 0) X dX1_empty_1 (by decide) ?_
  refine ww_put (pc := 2) (ci := 1) (v := .int 0) (C := RX1) (T := TX1) (N := 9) (ws' := wX1 cI cZ cQ rN (sI SN 0 0)) X inX1_empty_1 tyX1 tyX1_ok nmX1 0 rfl rfl 3 (by decide) (by decide +kernel) rfl rfl rfl (Nat.le_of_ble_eq_true rfl) rfl dX1_empty_2 ?_
  refine ww_aload_n (pc := 5) X dX1_empty_5 0 rfl rfl ?_
  refine ww_iconst (pc := 6) (v := 0) X dX1_empty_6 (by decide) ?_
  refine ww_put (pc := 7) (ci := 1) (v := .int 0) (C := RX1) (T := TX1) (N := 9) (ws' := wX1 cI cZ cQ rN (sI (sI SN 0 0) 3 0)) X inX1_empty_1 tyX1 tyX1_ok nmX1 0 rfl rfl 8 (by decide) (by decide +kernel) rfl rfl rfl (Nat.le_of_ble_eq_true rfl) rfl dX1_empty_7 ?_
  have h1 : f_X1_empty SN = (sI (sI SN 0 0) 3 0) := by unfold f_X1_empty; first | done | rfl
  exact ww_vret X hr (congrArg (fun u9 : St => wX1 cI cZ cQ rN u9) h1.symm) dX1_empty_10
def f_X1_beginAnew_k1 (SN : St) (z1 : St) : St :=
  z1
def f_X1_beginAnew (SN : St) : St :=
  f_X1_beginAnew_k1 SN (f_X1_empty (sI SN 1 0))
theorem inX1_beginAnew_1 : ∀ w ∈ wsX10, w ∈ wsX1_beginAnew := by decide +kernel
theorem hd_X1_beginAnew : yX1_beginAnew.cls = RX1 ∧ yX1_beginAnew.cls ≠ "java/lang/invoke/MethodHandle" ∧ yX1_beginAnew.cls ≠ "java/lang/invoke/VarHandle" ∧ (parseMethodDescriptor yX1_beginAnew.desc).map (fun d => d.parameters.length) = some 0 := by decide +kernel
set_option maxHeartbeats 4000000 in
set_option maxRecDepth 100000 in
theorem c_X1_beginAnew (l : Launch) (D : va_G) (cI cZ cQ : ClassId) (rN : Nat → Nat) (SN : St) : Cv l yX1_beginAnew wsX1_beginAnew { frames := 1, cells := 0, slots := 0, locals := 20 } D (tyL cI cZ cQ) [.ref (rN 0)] (wX1 cI cZ cQ rN SN) (wX1 cI cZ cQ rN (f_X1_beginAnew SN)) := by
  refine cv_of (cc := cX1_beginAnew) (nL := 1) (lv0 := [(0, .ref (rN 0))]) (by decide) rfl (Nat.le_of_ble_eq_true rfl) rfl ?_
  intro p e s m args below meth c A X hr
  refine ww_aload_n (pc := 0) X dX1_beginAnew_0 0 rfl rfl ?_
  refine ww_iconst (pc := 1) (v := 0) X dX1_beginAnew_1 (by decide) ?_
  refine ww_put (pc := 2) (ci := 1) (v := .int 0) (C := RX1) (T := TX1) (N := 9) (ws' := wX1 cI cZ cQ rN (sI SN 1 0)) X inX1_beginAnew_1 tyX1 tyX1_ok nmX1 0 rfl rfl 5 (by decide) (by decide +kernel) rfl rfl rfl (Nat.le_of_ble_eq_true rfl) rfl dX1_beginAnew_2 ?_
  refine ww_aload_n (pc := 5) X dX1_beginAnew_5 0 rfl rfl ?_
  refine ww_cVv (pc := 6) (rest := []) (wsN := wX1 cI cZ cQ rN (f_X1_empty (sI SN 1 0))) (ci := 1) (q0 := 0) X (c_X1_empty l D cI cZ cQ rN (sI SN 1 0)) gX1_beginAnew_X1_empty rfl hd_X1_empty [0, 1, 2, 3, 4, 5, 6, 7, 8, 9, 10, 11] rfl (by decide) rfl rfl rfl rfl rfl rfl ⟨rfl, rfl⟩ ⟨Nat.le_of_ble_eq_true rfl, Nat.le_of_ble_eq_true rfl⟩ (Nat.le_of_ble_eq_true rfl) ⟨Nat.zero_le _, Nat.zero_le _⟩ dX1_beginAnew_6 ?_
  generalize hz1 : (f_X1_empty (sI SN 1 0)) = z1
  have h2 : f_X1_beginAnew SN = z1 := by unfold f_X1_beginAnew; try rw [hz1]; try unfold f_X1_beginAnew_k1; first | done | rfl
  exact ww_vret X hr (congrArg (fun u9 : St => wX1 cI cZ cQ rN u9) h2.symm) dX1_beginAnew_9
def f_X1_add (SN : St) (x1 : Int32) (x2 : Int32) (x3 : Int32) : St :=
  if 6 ≤ (SN.1 0) then
    SN
  else
    (sA (sA (sA (sI (sI SN 0 ((SN.1 0) + 1)) 3 0) 0 (upd (SN.2 0) ((SN.1 0 : Int32)).toNatClampNeg x1)) 1 (upd (SN.2 1) ((SN.1 0 : Int32)).toNatClampNeg x2)) 2 (upd (SN.2 2) ((SN.1 0 : Int32)).toNatClampNeg x3))
theorem inX1_add_1 : ∀ w ∈ wsX10, w ∈ wsX1_add := by decide +kernel
theorem hd_X1_add : yX1_add.cls = RX1 ∧ yX1_add.cls ≠ "java/lang/invoke/MethodHandle" ∧ yX1_add.cls ≠ "java/lang/invoke/VarHandle" ∧ (parseMethodDescriptor yX1_add.desc).map (fun d => d.parameters.length) = some 3 := by decide +kernel
set_option maxHeartbeats 4000000 in
set_option maxRecDepth 100000 in
theorem c_X1_add (l : Launch) (D : va_G) (cI cZ cQ : ClassId) (rN : Nat → Nat) (SN : St) (x1 : Int32) (x2 : Int32) (x3 : Int32) (ok0 : ¬ (SN.1 0) < 0) : Cv l yX1_add wsX1_add { frames := 0, cells := 0, slots := 0, locals := 0 } D (tyL cI cZ cQ) [.ref (rN 0), .int x1, .int x2, .int x3] (wX1 cI cZ cQ rN SN) (wX1 cI cZ cQ rN (f_X1_add SN x1 x2 x3)) := by
  refine cv_of (cc := cX1_add) (nL := 4) (lv0 := [(0, .ref (rN 0)), (1, .int x1), (2, .int x2), (3, .int x3)]) (by decide) rfl (Nat.le_of_ble_eq_true rfl) rfl ?_
  intro p e s m args below meth c A X hr
  refine ww_aload_n (pc := 0) X dX1_add_0 0 rfl rfl ?_
  refine ww_get (pc := 1) (ci := 1) (v := .int (SN.1 0)) (C := RX1) (T := TX1) (N := 9) X inX1_add_1 0 rfl rfl 3 (by decide) (by decide +kernel) rfl dX1_add_1 ?_
  refine ww_bipush (pc := 4) (v := 6) X dX1_add_4 (by decide) ?_
  refine ww_icmp_ge (pc := 6) (tgt := 54) X dX1_add_6 (by decide) (fun c1 => ?_) (fun c1 => ?_)
  · have h2 : f_X1_add SN x1 x2 x3 = SN := by unfold f_X1_add; try rw [if_pos c1]; first | done | rfl
    exact ww_vret X hr (congrArg (fun u9 : St => wX1 cI cZ cQ rN u9) h2.symm) dX1_add_54
  · refine ww_aload_n (pc := 9) X dX1_add_9 0 rfl rfl ?_
    refine ww_get (pc := 10) (ci := 1) (v := .ref (rN 1)) (C := RX1) (T := TX1) (N := 9) X inX1_add_1 0 rfl rfl 0 (by decide) (by decide +kernel) rfl dX1_add_10 ?_
    refine ww_aload_n (pc := 13) X dX1_add_13 0 rfl rfl ?_
    refine ww_get (pc := 14) (ci := 1) (v := .int (SN.1 0)) (C := RX1) (T := TX1) (N := 9) X inX1_add_1 0 rfl rfl 3 (by decide) (by decide +kernel) rfl dX1_add_14 ?_
    refine ww_iload_n (pc := 17) X dX1_add_17 1 rfl rfl ?_
    refine ww_iast (pc := 18) (f := SN.2 0) (ws' := wX1 cI cZ cQ rN (sA SN 0 (upd (SN.2 0) ((SN.1 0 : Int32)).toNatClampNeg x1))) X 1 0 rfl rfl (vin_nge ok0 c1 rfl) rfl dX1_add_18 ?_
    refine ww_aload_n (pc := 19) X dX1_add_19 0 rfl rfl ?_
    refine ww_get (pc := 20) (ci := 1) (v := .ref (rN 2)) (C := RX1) (T := TX1) (N := 9) X inX1_add_1 0 rfl rfl 1 (by decide) (by decide +kernel) rfl dX1_add_20 ?_
    refine ww_aload_n (pc := 23) X dX1_add_23 0 rfl rfl ?_
    refine ww_get (pc := 24) (ci := 1) (v := .int (SN.1 0)) (C := RX1) (T := TX1) (N := 9) X inX1_add_1 0 rfl rfl 3 (by decide) (by decide +kernel) rfl dX1_add_24 ?_
    refine ww_iload_n (pc := 27) X dX1_add_27 2 rfl rfl ?_
    refine ww_iast (pc := 28) (f := SN.2 1) (ws' := wX1 cI cZ cQ rN (sA (sA SN 0 (upd (SN.2 0) ((SN.1 0 : Int32)).toNatClampNeg x1)) 1 (upd (SN.2 1) ((SN.1 0 : Int32)).toNatClampNeg x2))) X 2 0 rfl rfl (vin_nge ok0 c1 rfl) rfl dX1_add_28 ?_
    refine ww_aload_n (pc := 29) X dX1_add_29 0 rfl rfl ?_
    refine ww_get (pc := 30) (ci := 1) (v := .ref (rN 3)) (C := RX1) (T := TX1) (N := 9) X inX1_add_1 0 rfl rfl 2 (by decide) (by decide +kernel) rfl dX1_add_30 ?_
    refine ww_aload_n (pc := 33) X dX1_add_33 0 rfl rfl ?_
    refine ww_get (pc := 34) (ci := 1) (v := .int (SN.1 0)) (C := RX1) (T := TX1) (N := 9) X inX1_add_1 0 rfl rfl 3 (by decide) (by decide +kernel) rfl dX1_add_34 ?_
    refine ww_iload_n (pc := 37) X dX1_add_37 3 rfl rfl ?_
    refine ww_iast (pc := 38) (f := SN.2 2) (ws' := wX1 cI cZ cQ rN (sA (sA (sA SN 0 (upd (SN.2 0) ((SN.1 0 : Int32)).toNatClampNeg x1)) 1 (upd (SN.2 1) ((SN.1 0 : Int32)).toNatClampNeg x2)) 2 (upd (SN.2 2) ((SN.1 0 : Int32)).toNatClampNeg x3))) X 3 0 rfl rfl (vin_nge ok0 c1 rfl) rfl dX1_add_38 ?_
    refine ww_aload_n (pc := 39) X dX1_add_39 0 rfl rfl ?_
    refine ww_dup (pc := 40) X dX1_add_40 rfl ?_
    refine ww_get (pc := 41) (ci := 1) (v := .int (SN.1 0)) (C := RX1) (T := TX1) (N := 9) X inX1_add_1 0 rfl rfl 3 (by decide) (by decide +kernel) rfl dX1_add_41 ?_
    refine ww_iconst (pc := 44) (v := 1) X dX1_add_44 (by decide) ?_
    refine ww_iadd (pc := 45) X dX1_add_45 ?_
    refine ww_put (pc := 46) (ci := 1) (v := .int ((SN.1 0) + 1)) (C := RX1) (T := TX1) (N := 9) (ws' := wX1 cI cZ cQ rN (sA (sA (sA (sI SN 0 ((SN.1 0) + 1)) 0 (upd (SN.2 0) ((SN.1 0 : Int32)).toNatClampNeg x1)) 1 (upd (SN.2 1) ((SN.1 0 : Int32)).toNatClampNeg x2)) 2 (upd (SN.2 2) ((SN.1 0 : Int32)).toNatClampNeg x3))) X inX1_add_1 tyX1 tyX1_ok nmX1 0 rfl rfl 3 (by decide) (by decide +kernel) rfl rfl rfl (Nat.le_of_ble_eq_true rfl) rfl dX1_add_46 ?_
    refine ww_aload_n (pc := 49) X dX1_add_49 0 rfl rfl ?_
    refine ww_iconst (pc := 50) (v := 0) X dX1_add_50 (by decide) ?_
    refine ww_put (pc := 51) (ci := 1) (v := .int 0) (C := RX1) (T := TX1) (N := 9) (ws' := wX1 cI cZ cQ rN (sA (sA (sA (sI (sI SN 0 ((SN.1 0) + 1)) 3 0) 0 (upd (SN.2 0) ((SN.1 0 : Int32)).toNatClampNeg x1)) 1 (upd (SN.2 1) ((SN.1 0 : Int32)).toNatClampNeg x2)) 2 (upd (SN.2 2) ((SN.1 0 : Int32)).toNatClampNeg x3))) X inX1_add_1 tyX1 tyX1_ok nmX1 0 rfl rfl 8 (by decide) (by decide +kernel) rfl rfl rfl (Nat.le_of_ble_eq_true rfl) rfl dX1_add_51 ?_
    have h3 : f_X1_add SN x1 x2 x3 = (sA (sA (sA (sI (sI SN 0 ((SN.1 0) + 1)) 3 0) 0 (upd (SN.2 0) ((SN.1 0 : Int32)).toNatClampNeg x1)) 1 (upd (SN.2 1) ((SN.1 0 : Int32)).toNatClampNeg x2)) 2 (upd (SN.2 2) ((SN.1 0 : Int32)).toNatClampNeg x3)) := by unfold f_X1_add; try rw [if_neg c1]; first | done | rfl
    exact ww_vret X hr (congrArg (fun u9 : St => wX1 cI cZ cQ rN u9) h3.symm) dX1_add_54
def f_X1_worthBy (SN : St) (x1 : Int32) (x2 : Int32) : Int32 :=
  if x1 < 0 then
    0
  else
    if 6 ≤ x1 then
      0
    else
      if (((x2 / 100) * 31) + (x2 - x2 / 100 * 100)) < 0 then
        0
      else
        if (((x2 / 100) * 31) + (x2 - x2 / 100 * 100)) < 124 then
          (SN.2 (4 + (x1 : Int32).toNatClampNeg)) ((((x2 / 100) * 31) + (x2 - x2 / 100 * 100) : Int32)).toNatClampNeg
        else
          0
theorem inX1_worthBy_1 : ∀ w ∈ wsX10, w ∈ wsX1_worthBy := by decide +kernel
theorem hd_X1_worthBy : yX1_worthBy.cls = RX1 ∧ yX1_worthBy.cls ≠ "java/lang/invoke/MethodHandle" ∧ yX1_worthBy.cls ≠ "java/lang/invoke/VarHandle" ∧ (parseMethodDescriptor yX1_worthBy.desc).map (fun d => d.parameters.length) = some 2 := by decide +kernel
set_option maxHeartbeats 4000000 in
set_option maxRecDepth 100000 in
theorem c_X1_worthBy (l : Launch) (D : va_G) (cI cZ cQ : ClassId) (rN : Nat → Nat) (SN : St) (x1 : Int32) (x2 : Int32) : Ci l yX1_worthBy wsX1_worthBy { frames := 0, cells := 0, slots := 0, locals := 0 } D (tyL cI cZ cQ) [.ref (rN 0), .int x1, .int x2] (wX1 cI cZ cQ rN SN) (f_X1_worthBy SN x1 x2) (wX1 cI cZ cQ rN SN) := by
  refine ci_of (cc := cX1_worthBy) (nL := 4) (ty := .int) (lv0 := [(0, .ref (rN 0)), (1, .int x1), (2, .int x2)]) (by decide) rfl (Nat.le_of_ble_eq_true rfl) rfl ?_
  intro p e s m args below meth c A X hr
  refine ww_iload_n (pc := 0) X dX1_worthBy_0 2 rfl rfl ?_
  refine ww_bipush (pc := 1) (v := 100) X dX1_worthBy_1 (by decide) ?_
  refine ww_idiv (pc := 3) X dX1_worthBy_3 (by decide) ?_
  refine ww_bipush (pc := 4) (v := 31) X dX1_worthBy_4 (by decide) ?_
  refine ww_imul (pc := 6) X dX1_worthBy_6 ?_
  refine ww_iload_n (pc := 7) X dX1_worthBy_7 2 rfl rfl ?_
  refine ww_bipush (pc := 8) (v := 100) X dX1_worthBy_8 (by decide) ?_
  refine ww_irem (pc := 10) X dX1_worthBy_10 (by decide) ?_
  refine ww_iadd (pc := 11) X dX1_worthBy_11 ?_
  refine ww_istore_n (pc := 12) (lv' := [(3, .int (((x2 / 100) * 31) + (x2 - x2 / 100 * 100))), (0, .ref (rN 0)), (1, .int x1), (2, .int x2)]) X dX1_worthBy_12 rfl (by decide) rfl ?_
  refine ww_iload_n (pc := 13) X dX1_worthBy_13 2 rfl rfl ?_
  refine ww_if_lt (pc := 14) (tgt := 33) X dX1_worthBy_14 (by decide) (fun c1 => ?_) (fun c1 => ?_)
  · refine ww_iconst (pc := 33) (v := 0) X dX1_worthBy_33 (by decide) ?_
    refine ww_goto (pc := 34) (tgt := 45) X dX1_worthBy_34 (by decide) ?_
    exact ww_iret X hr rfl (Eq.symm (by unfold f_X1_worthBy; try rw [if_pos c1]; first | done | rfl)) rfl dX1_worthBy_45
  · refine ww_iload_n (pc := 17) X dX1_worthBy_17 2 rfl rfl ?_
    refine ww_bipush (pc := 18) (v := 6) X dX1_worthBy_18 (by decide) ?_
    refine ww_icmp_ge (pc := 20) (tgt := 33) X dX1_worthBy_20 (by decide) (fun c2 => ?_) (fun c2 => ?_)
    · refine ww_iconst (pc := 33) (v := 0) X dX1_worthBy_33 (by decide) ?_
      refine ww_goto (pc := 34) (tgt := 45) X dX1_worthBy_34 (by decide) ?_
      exact ww_iret X hr rfl (Eq.symm (by unfold f_X1_worthBy; try rw [if_neg c1, if_pos c2]; first | done | rfl)) rfl dX1_worthBy_45
    · refine ww_iload_n (pc := 23) X dX1_worthBy_23 0 rfl rfl ?_
      refine ww_if_lt (pc := 24) (tgt := 33) X dX1_worthBy_24 (by decide) (fun c3 => ?_) (fun c3 => ?_)
      · refine ww_iconst (pc := 33) (v := 0) X dX1_worthBy_33 (by decide) ?_
        refine ww_goto (pc := 34) (tgt := 45) X dX1_worthBy_34 (by decide) ?_
        exact ww_iret X hr rfl (Eq.symm (by unfold f_X1_worthBy; try rw [if_neg c1, if_neg c2, if_pos c3]; first | done | rfl)) rfl dX1_worthBy_45
      · refine ww_iload_n (pc := 27) X dX1_worthBy_27 0 rfl rfl ?_
        refine ww_bipush (pc := 28) (v := 124) X dX1_worthBy_28 (by decide) ?_
        refine ww_icmp_lt (pc := 30) (tgt := 37) X dX1_worthBy_30 (by decide) (fun c4 => ?_) (fun c4 => ?_)
        · refine ww_aload_n (pc := 37) X dX1_worthBy_37 1 rfl rfl ?_
          refine ww_get (pc := 38) (ci := 1) (v := .ref (rN 4)) (C := RX1) (T := TX1) (N := 9) X inX1_worthBy_1 0 rfl rfl 4 (by decide) (by decide +kernel) rfl dX1_worthBy_38 ?_
          refine ww_iload_n (pc := 41) X dX1_worthBy_41 2 rfl rfl ?_
          have hb5 := clb (vin_nge c1 c2 rfl)
          refine ww_aald (pc := 42) (q := rN (6 + (x1 : Int32).toNatClampNeg)) X 4 2 rfl rfl (vn (m := (x1 : Int32).toNatClampNeg) (cl_of (vin_nge c1 c2 rfl)) (by omega) (by decide)) (aq (k := (x1 : Int32).toNatClampNeg) (cl_of (vin_nge c1 c2 rfl)) (by omega)) dX1_worthBy_42 ?_
          refine ww_iload_n (pc := 43) X dX1_worthBy_43 0 rfl rfl ?_
          refine ww_iald (pc := 44) (f := SN.2 (4 + (x1 : Int32).toNatClampNeg)) (n := 124) X (6 + (x1 : Int32).toNatClampNeg) 0 (c6_ (P := fun k9 => (wX1 cI cZ cQ rN SN)[6 + k9]? = some (rN (6 + k9), .inl (cI, 124, .inl (SN.2 (4 + k9))))) rfl rfl rfl rfl rfl rfl (by omega)) rfl (vin_lt c3 c4 rfl) dX1_worthBy_44 ?_
          exact ww_iret X hr rfl (Eq.symm (by unfold f_X1_worthBy; try rw [if_neg c1, if_neg c2, if_neg c3, if_pos c4]; first | done | rfl)) rfl dX1_worthBy_45
        · refine ww_iconst (pc := 33) (v := 0) X dX1_worthBy_33 (by decide) ?_
          refine ww_goto (pc := 34) (tgt := 45) X dX1_worthBy_34 (by decide) ?_
          exact ww_iret X hr rfl (Eq.symm (by unfold f_X1_worthBy; try rw [if_neg c1, if_neg c2, if_neg c3, if_neg c4]; first | done | rfl)) rfl dX1_worthBy_45
def l0_X1_fitsAll_3 (SL : St) (SN : St) (x2 : Int32) (x3 : Int32) (j : Nat) (u : Unit) : Int32 :=
  1
def lb_X1_fitsAll_3_k2 (SL : St) (SN : St) (x2 : Int32) (x3 : Int32) (rec : Nat → (Unit) → Int32) (j : Nat) (u : Unit) (z4 : Int32) : Int32 :=
  if z4 = ((SN.2 2) (((nI j) : Int32)).toNatClampNeg) then
    rec (j + 1) ()
  else
    0
def lb_X1_fitsAll_3_k1 (SL : St) (SN : St) (x2 : Int32) (x3 : Int32) (rec : Nat → (Unit) → Int32) (j : Nat) (u : Unit) (z2 : Int32) : Int32 :=
  if z2 = ((SN.2 2) (((nI j) : Int32)).toNatClampNeg) then
    rec (j + 1) ()
  else
    0
def lb_X1_fitsAll_3 (SL : St) (SN : St) (x2 : Int32) (x3 : Int32) (rec : Nat → (Unit) → Int32) (j : Nat) (u : Unit) : Int32 :=
  if ((SN.2 0) (((nI j) : Int32)).toNatClampNeg) = 0 then
    lb_X1_fitsAll_3_k2 SL SN x2 x3 rec j u (f_X1_worthBy SN ((SN.2 1) (((nI j) : Int32)).toNatClampNeg) ((100 * x2) + x3))
  else
    lb_X1_fitsAll_3_k1 SL SN x2 x3 rec j u (f_X5_kingAt SL (x3 * ((SL.2 0) ((x2 : Int32)).toNatClampNeg)))
def lp_X1_fitsAll_3 (SL : St) (SN : St) (x2 : Int32) (x3 : Int32) : Nat → Nat → (Unit) → Int32
  | 0, j, u => l0_X1_fitsAll_3 SL SN x2 x3 j u
  | k + 1, j, u => lb_X1_fitsAll_3 SL SN x2 x3 (lp_X1_fitsAll_3 SL SN x2 x3 k) j u
def f_X1_fitsAll (SL : St) (SN : St) (x2 : Int32) (x3 : Int32) : Int32 :=
  lp_X1_fitsAll_3 SL SN x2 x3 ((SN.1 0).toNatClampNeg) 0 ()
theorem inX1_fitsAll_1 : ∀ w ∈ wsX10, w ∈ wsX1_fitsAll := by decide +kernel
theorem inX1_fitsAll_5 : ∀ w ∈ wsX50, w ∈ wsX1_fitsAll := by decide +kernel
theorem hd_X1_fitsAll : yX1_fitsAll.cls = RX1 ∧ yX1_fitsAll.cls ≠ "java/lang/invoke/MethodHandle" ∧ yX1_fitsAll.cls ≠ "java/lang/invoke/VarHandle" ∧ (parseMethodDescriptor yX1_fitsAll.desc).map (fun d => d.parameters.length) = some 3 := by decide +kernel
set_option maxHeartbeats 4000000 in
set_option maxRecDepth 100000 in
theorem c_X1_fitsAll (l : Launch) (D : va_G) (cI cZ cQ : ClassId) (rL : Nat → Nat) (rN : Nat → Nat) (SL : St) (SN : St) (x2 : Int32) (x3 : Int32) (hd : vp_in x2 4) (okN : SN.1 0 ≤ 6) : Ci l yX1_fitsAll wsX1_fitsAll { frames := 1, cells := 0, slots := 0, locals := 23 } D (tyL cI cZ cQ) [.ref (rN 0), .ref (rL 0), .int x2, .int x3] (wX5 cI cZ cQ rL SL ++ wX1 cI cZ cQ rN SN) (f_X1_fitsAll SL SN x2 x3) (wX5 cI cZ cQ rL SL ++ wX1 cI cZ cQ rN SN) := by
  refine ci_of (cc := cX1_fitsAll) (nL := 6) (ty := .boolean) (lv0 := [(0, .ref (rN 0)), (1, .ref (rL 0)), (2, .int x2), (3, .int x3)]) (by decide) rfl (Nat.le_of_ble_eq_true rfl) rfl ?_
  intro p e s m args below meth c A X hr
  refine ww_iconst (pc := 0) (v := 0) X dX1_fitsAll_0 (by decide) ?_
  refine ww_istore (pc := 1) (lv' := [(4, .int 0), (0, .ref (rN 0)), (1, .ref (rL 0)), (2, .int x2), (3, .int x3)]) X dX1_fitsAll_1 (by decide) rfl ?_
  have L3 : ∀ (k_3 j_3 : Nat) (u_3 : Unit), j_3 + k_3 = (SN.1 0).toNatClampNeg → True → f_X1_fitsAll SL SN x2 x3 = lp_X1_fitsAll_3 SL SN x2 x3 k_3 j_3 u_3 → WW p l e (headSpec wsX1_fitsAll { frames := 1, cells := 0, slots := 0, locals := 23 }).room s m args below meth c 6 D A 0 0 (RQi below args s D A (f_X1_fitsAll SL SN x2 x3) (wX5 cI cZ cQ rL SL ++ wX1 cI cZ cQ rN SN)) (wX5 cI cZ cQ rL SL ++ wX1 cI cZ cQ rN SN) [(0, .ref (rN 0)), (1, .ref (rL 0)), (2, .int x2), (3, .int x3), (4, .int (nI j_3))] 3 [] := by
    intro k_3
    induction k_3 with
    | zero =>
      intro j_3 u_3 hj hi hf
      have hjB : j_3 = (SN.1 0).toNatClampNeg := by omega
      subst hjB
      refine ww_iload (pc := 3) X dX1_fitsAll_3 4 rfl ?_
      refine ww_aload_n (pc := 5) X dX1_fitsAll_5 0 rfl rfl ?_
      refine ww_get (pc := 6) (ci := 1) (v := .int (SN.1 0)) (C := RX1) (T := TX1) (N := 9) X inX1_fitsAll_1 7 rfl rfl 3 (by decide) (by decide +kernel) rfl dX1_fitsAll_6 ?_
      refine ww_icmp_ge (pc := 9) (tgt := 76) X dX1_fitsAll_9 (by decide) (fun _ => ?_) (fun c9 => absurd (lp_ge0c (Nat.le_refl _) (cl_lt _)) c9)
      refine ww_iconst (pc := 76) (v := 1) X dX1_fitsAll_76 (by decide) ?_
      exact ww_iret X hr rfl (Eq.symm (by rw [hf]; show l0_X1_fitsAll_3 SL SN x2 x3 ((SN.1 0).toNatClampNeg) u_3 = _; unfold l0_X1_fitsAll_3; first | done | rfl)) rfl dX1_fitsAll_77
    | succ k_3 ih =>
      intro j_3 u_3 hj hi hf
      have hjB : j_3 < (SN.1 0).toNatClampNeg := by omega
      have hN_3 := cl_le okN (n := 6) rfl (by decide)
      refine ww_iload (pc := 3) X dX1_fitsAll_3 4 rfl ?_
      refine ww_aload_n (pc := 5) X dX1_fitsAll_5 0 rfl rfl ?_
      refine ww_get (pc := 6) (ci := 1) (v := .int (SN.1 0)) (C := RX1) (T := TX1) (N := 9) X inX1_fitsAll_1 7 rfl rfl 3 (by decide) (by decide +kernel) rfl dX1_fitsAll_6 ?_
      refine ww_icmp_ge (pc := 9) (tgt := 76) X dX1_fitsAll_9 (by decide) (fun c9 => absurd c9 (lp_ge1c hjB)) (fun _ => ?_)
      refine ww_aload_n (pc := 12) X dX1_fitsAll_12 0 rfl rfl ?_
      refine ww_get (pc := 13) (ci := 1) (v := .ref (rN 1)) (C := RX1) (T := TX1) (N := 9) X inX1_fitsAll_1 7 rfl rfl 0 (by decide) (by decide +kernel) rfl dX1_fitsAll_13 ?_
      refine ww_iload (pc := 16) X dX1_fitsAll_16 4 rfl ?_
      refine ww_iald (pc := 18) (f := SN.2 0) X 8 0 rfl rfl (vn (m := j_3) rfl (by omega) (by decide)) dX1_fitsAll_18 ?_
      refine ww_if_ne (pc := 19) (tgt := 42) X dX1_fitsAll_19 (by decide) (fun c6 => ?_) (fun c6 => ?_)
      · refine ww_aload_n (pc := 42) X dX1_fitsAll_42 1 rfl rfl ?_
        refine ww_iload_n (pc := 43) X dX1_fitsAll_43 3 rfl rfl ?_
        refine ww_aload_n (pc := 44) X dX1_fitsAll_44 1 rfl rfl ?_
        refine ww_get (pc := 45) (ci := 5) (v := .ref (rL 1)) (C := RX5) (T := TX5) (N := 11) X inX1_fitsAll_5 0 rfl rfl 5 (by decide) (by decide +kernel) rfl dX1_fitsAll_45 ?_
        refine ww_iload_n (pc := 48) X dX1_fitsAll_48 2 rfl rfl ?_
        refine ww_iald (pc := 49) (f := SL.2 0) X 1 0 rfl rfl hd dX1_fitsAll_49 ?_
        refine ww_imul (pc := 50) X dX1_fitsAll_50 ?_
        refine ww_cVi (pc := 51) (rest := []) (wsN := wX5 cI cZ cQ rL SL ++ wX1 cI cZ cQ rN SN) (ci := 5) (q0 := 0) X (c_X5_kingAt l D cI cZ cQ rL SL (x3 * ((SL.2 0) ((x2 : Int32)).toNatClampNeg))) gX1_fitsAll_X5_kingAt rfl hd_X5_kingAt [0, 1, 2, 3, 4, 5, 6] rfl (by decide) rfl rfl rfl rfl rfl rfl ⟨rfl, rfl⟩ ⟨Nat.le_of_ble_eq_true rfl, Nat.le_of_ble_eq_true rfl⟩ (Nat.le_of_ble_eq_true rfl) ⟨Nat.zero_le _, Nat.zero_le _⟩ dX1_fitsAll_51 ?_
        generalize hz7 : (f_X5_kingAt SL (x3 * ((SL.2 0) ((x2 : Int32)).toNatClampNeg))) = z7
        refine ww_istore (pc := 54) (lv' := [(5, .int z7), (0, .ref (rN 0)), (1, .ref (rL 0)), (2, .int x2), (3, .int x3), (4, .int (nI j_3))]) X dX1_fitsAll_54 (by decide) rfl ?_
        refine ww_iload (pc := 56) X dX1_fitsAll_56 0 rfl ?_
        refine ww_aload_n (pc := 58) X dX1_fitsAll_58 1 rfl rfl ?_
        refine ww_get (pc := 59) (ci := 1) (v := .ref (rN 3)) (C := RX1) (T := TX1) (N := 9) X inX1_fitsAll_1 7 rfl rfl 2 (by decide) (by decide +kernel) rfl dX1_fitsAll_59 ?_
        refine ww_iload (pc := 62) X dX1_fitsAll_62 5 rfl ?_
        refine ww_iald (pc := 64) (f := SN.2 2) X 10 0 rfl rfl (vn (m := j_3) rfl (by omega) (by decide)) dX1_fitsAll_64 ?_
        refine ww_icmp_eq (pc := 65) (tgt := 70) X dX1_fitsAll_65 (by decide) (fun c8 => ?_) (fun c8 => ?_)
        · refine ww_iinc (pc := 70) (v := (nI j_3) + 1) (lv' := [(4, .int ((nI j_3) + 1)), (5, .int z7), (0, .ref (rN 0)), (1, .ref (rL 0)), (2, .int x2), (3, .int x3)]) X dX1_fitsAll_70 5 rfl rfl (by decide) rfl ?_
          refine ww_goto (pc := 73) (tgt := 3) X dX1_fitsAll_73 (by decide) ?_
          refine ww_lsub [2, 3, 4, 5, 0] rfl ?_
          have h9 : f_X1_fitsAll SL SN x2 x3 = lp_X1_fitsAll_3 SL SN x2 x3 k_3 (j_3 + 1) () := by rw [hf]; show lb_X1_fitsAll_3 SL SN x2 x3 (lp_X1_fitsAll_3 SL SN x2 x3 k_3) j_3 u_3 = _; unfold lb_X1_fitsAll_3; try rw [if_neg c6, hz7]; try unfold lb_X1_fitsAll_3_k1; try rw [if_pos c8]; first | done | rfl
          exact ww_cast rfl (congrArg (fun (i9 : Int32) => ([(0, .ref (rN 0)), (1, .ref (rL 0)), (2, .int x2), (3, .int x3), (4, .int i9)] : List (Nat × Value))) (nI_1 j_3).symm) (ih (j_3 + 1) () (by omega) trivial h9)
        · refine ww_iconst (pc := 68) (v := 0) X dX1_fitsAll_68 (by decide) ?_
          exact ww_iret X hr rfl (Eq.symm (by rw [hf]; show lb_X1_fitsAll_3 SL SN x2 x3 (lp_X1_fitsAll_3 SL SN x2 x3 k_3) j_3 u_3 = _; unfold lb_X1_fitsAll_3; try rw [if_neg c6, hz7]; try unfold lb_X1_fitsAll_3_k1; try rw [if_neg c8]; first | done | rfl)) rfl dX1_fitsAll_69
      · refine ww_aload_n (pc := 22) X dX1_fitsAll_22 0 rfl rfl ?_
        refine ww_aload_n (pc := 23) X dX1_fitsAll_23 0 rfl rfl ?_
        refine ww_get (pc := 24) (ci := 1) (v := .ref (rN 2)) (C := RX1) (T := TX1) (N := 9) X inX1_fitsAll_1 7 rfl rfl 1 (by decide) (by decide +kernel) rfl dX1_fitsAll_24 ?_
        refine ww_iload (pc := 27) X dX1_fitsAll_27 4 rfl ?_
        refine ww_iald (pc := 29) (f := SN.2 1) X 9 0 rfl rfl (vn (m := j_3) rfl (by omega) (by decide)) dX1_fitsAll_29 ?_
        refine ww_bipush (pc := 30) (v := 100) X dX1_fitsAll_30 (by decide) ?_
        refine ww_iload_n (pc := 32) X dX1_fitsAll_32 2 rfl rfl ?_
        refine ww_imul (pc := 33) X dX1_fitsAll_33 ?_
        refine ww_iload_n (pc := 34) X dX1_fitsAll_34 3 rfl rfl ?_
        refine ww_iadd (pc := 35) X dX1_fitsAll_35 ?_
        refine ww_cVi (pc := 36) (rest := []) (wsN := wX5 cI cZ cQ rL SL ++ wX1 cI cZ cQ rN SN) (ci := 1) (q0 := 0) X (c_X1_worthBy l D cI cZ cQ rN SN ((SN.2 1) (((nI j_3) : Int32)).toNatClampNeg) ((100 * x2) + x3)) gX1_fitsAll_X1_worthBy rfl hd_X1_worthBy [7, 8, 9, 10, 11, 12, 13, 14, 15, 16, 17, 18] rfl (by decide) rfl rfl rfl rfl rfl rfl ⟨rfl, rfl⟩ ⟨Nat.le_of_ble_eq_true rfl, Nat.le_of_ble_eq_true rfl⟩ (Nat.le_of_ble_eq_true rfl) ⟨Nat.zero_le _, Nat.zero_le _⟩ dX1_fitsAll_36 ?_
        refine ww_goto (pc := 39) (tgt := 54) X dX1_fitsAll_39 (by decide) ?_
        generalize hz10 : (f_X1_worthBy SN ((SN.2 1) (((nI j_3) : Int32)).toNatClampNeg) ((100 * x2) + x3)) = z10
        refine ww_istore (pc := 54) (lv' := [(5, .int z10), (0, .ref (rN 0)), (1, .ref (rL 0)), (2, .int x2), (3, .int x3), (4, .int (nI j_3))]) X dX1_fitsAll_54 (by decide) rfl ?_
        refine ww_iload (pc := 56) X dX1_fitsAll_56 0 rfl ?_
        refine ww_aload_n (pc := 58) X dX1_fitsAll_58 1 rfl rfl ?_
        refine ww_get (pc := 59) (ci := 1) (v := .ref (rN 3)) (C := RX1) (T := TX1) (N := 9) X inX1_fitsAll_1 7 rfl rfl 2 (by decide) (by decide +kernel) rfl dX1_fitsAll_59 ?_
        refine ww_iload (pc := 62) X dX1_fitsAll_62 5 rfl ?_
        refine ww_iald (pc := 64) (f := SN.2 2) X 10 0 rfl rfl (vn (m := j_3) rfl (by omega) (by decide)) dX1_fitsAll_64 ?_
        refine ww_icmp_eq (pc := 65) (tgt := 70) X dX1_fitsAll_65 (by decide) (fun c11 => ?_) (fun c11 => ?_)
        · refine ww_iinc (pc := 70) (v := (nI j_3) + 1) (lv' := [(4, .int ((nI j_3) + 1)), (5, .int z10), (0, .ref (rN 0)), (1, .ref (rL 0)), (2, .int x2), (3, .int x3)]) X dX1_fitsAll_70 5 rfl rfl (by decide) rfl ?_
          refine ww_goto (pc := 73) (tgt := 3) X dX1_fitsAll_73 (by decide) ?_
          refine ww_lsub [2, 3, 4, 5, 0] rfl ?_
          have h12 : f_X1_fitsAll SL SN x2 x3 = lp_X1_fitsAll_3 SL SN x2 x3 k_3 (j_3 + 1) () := by rw [hf]; show lb_X1_fitsAll_3 SL SN x2 x3 (lp_X1_fitsAll_3 SL SN x2 x3 k_3) j_3 u_3 = _; unfold lb_X1_fitsAll_3; try rw [if_pos c6, hz10]; try unfold lb_X1_fitsAll_3_k2; try rw [if_pos c11]; first | done | rfl
          exact ww_cast rfl (congrArg (fun (i9 : Int32) => ([(0, .ref (rN 0)), (1, .ref (rL 0)), (2, .int x2), (3, .int x3), (4, .int i9)] : List (Nat × Value))) (nI_1 j_3).symm) (ih (j_3 + 1) () (by omega) trivial h12)
        · refine ww_iconst (pc := 68) (v := 0) X dX1_fitsAll_68 (by decide) ?_
          exact ww_iret X hr rfl (Eq.symm (by rw [hf]; show lb_X1_fitsAll_3 SL SN x2 x3 (lp_X1_fitsAll_3 SL SN x2 x3 k_3) j_3 u_3 = _; unfold lb_X1_fitsAll_3; try rw [if_pos c6, hz10]; try unfold lb_X1_fitsAll_3_k2; try rw [if_neg c11]; first | done | rfl)) rfl dX1_fitsAll_69
  refine ww_lsub [1, 2, 3, 4, 0] rfl ?_
  exact L3 ((SN.1 0).toNatClampNeg) 0 () (by omega) trivial (by unfold f_X1_fitsAll; first | done | rfl)
def bd_X1_countWorths_39_k1 (SL : St) (j2 : Nat) (j3 : Nat) (j : Nat) (u : St × Int32) (z2 : Int32) : St × Int32 :=
  ((sA u.1 (4 + j2) (upd (u.1.2 (4 + j2)) ((((nI j3) * 31) + (nI j) : Int32)).toNatClampNeg u.2)), z2)
def bd_X1_countWorths_39 (SL : St) (j2 : Nat) (j3 : Nat) (j : Nat) (u : St × Int32) : St × Int32 :=
  bd_X1_countWorths_39_k1 SL j2 j3 j u (f_X5_worthBehind SL (nI j2) u.2 ((SL.2 0) (((nI j3) : Int32)).toNatClampNeg))
def it_X1_countWorths_39 (SL : St) (j2 : Nat) (j3 : Nat) (u : St × Int32) : Nat → St × Int32
  | 0 => u
  | j + 1 => bd_X1_countWorths_39 SL j2 j3 j (it_X1_countWorths_39 SL j2 j3 u j)
def bd_X1_countWorths_20_k1 (SL : St) (j2 : Nat) (j : Nat) (u : St) (z5 : St × Int32) : St :=
  z5.1
def bd_X1_countWorths_20 (SL : St) (j2 : Nat) (j : Nat) (u : St) : St :=
  bd_X1_countWorths_20_k1 SL j2 j u (it_X1_countWorths_39 SL j2 j (u, (SL.2 3) (((nI j2) : Int32)).toNatClampNeg) 31)
def it_X1_countWorths_20 (SL : St) (j2 : Nat) (u : St) : Nat → St
  | 0 => u
  | j + 1 => bd_X1_countWorths_20 SL j2 j (it_X1_countWorths_20 SL j2 u j)
def bd_X1_countWorths_10_k1 (SL : St) (j : Nat) (u : St) (z10 : St) : St :=
  z10
def bd_X1_countWorths_10 (SL : St) (j : Nat) (u : St) : St :=
  bd_X1_countWorths_10_k1 SL j u (it_X1_countWorths_20 SL j u ((SL.1 2).toNatClampNeg))
def it_X1_countWorths_10 (SL : St) (u : St) : Nat → St
  | 0 => u
  | j + 1 => bd_X1_countWorths_10 SL j (it_X1_countWorths_10 SL u j)
def f_X1_countWorths_k1 (SL : St) (SN : St) (z17 : St) : St :=
  (sI z17 1 1)
def f_X1_countWorths (SL : St) (SN : St) : St :=
  if (SN.1 1) = 0 then
    f_X1_countWorths_k1 SL SN (it_X1_countWorths_10 SL SN ((SL.1 4).toNatClampNeg))
  else
    SN
theorem inX1_countWorths_1 : ∀ w ∈ wsX10, w ∈ wsX1_countWorths := by decide +kernel
theorem inX1_countWorths_5 : ∀ w ∈ wsX50, w ∈ wsX1_countWorths := by decide +kernel
theorem hd_X1_countWorths : yX1_countWorths.cls = RX1 ∧ yX1_countWorths.cls ≠ "java/lang/invoke/MethodHandle" ∧ yX1_countWorths.cls ≠ "java/lang/invoke/VarHandle" ∧ (parseMethodDescriptor yX1_countWorths.desc).map (fun d => d.parameters.length) = some 1 := by decide +kernel
set_option maxHeartbeats 4000000 in
set_option maxRecDepth 100000 in
theorem c_X1_countWorths (l : Launch) (D : va_G) (cI cZ cQ : ClassId) (rL : Nat → Nat) (rN : Nat → Nat) (SL : St) (SN : St) (okL : okS SL) : Cv l yX1_countWorths wsX1_countWorths { frames := 3, cells := 0, slots := 0, locals := 70 } D (tyL cI cZ cQ) [.ref (rN 0), .ref (rL 0)] (wX5 cI cZ cQ rL SL ++ wX1 cI cZ cQ rN SN) (wX5 cI cZ cQ rL SL ++ wX1 cI cZ cQ rN (f_X1_countWorths SL SN)) := by
  refine cv_of (cc := cX1_countWorths) (nL := 6) (lv0 := [(0, .ref (rN 0)), (1, .ref (rL 0))]) (by decide) rfl (Nat.le_of_ble_eq_true rfl) rfl ?_
  intro p e s m args below meth c A X hr
  refine ww_aload_n (pc := 0) X dX1_countWorths_0 0 rfl rfl ?_
  refine ww_get (pc := 1) (ci := 1) (v := .int (SN.1 1)) (C := RX1) (T := TX1) (N := 9) X inX1_countWorths_1 7 rfl rfl 5 (by decide) (by decide +kernel) rfl dX1_countWorths_1 ?_
  refine ww_if_eq (pc := 4) (tgt := 8) X dX1_countWorths_4 (by decide) (fun c1 => ?_) (fun c1 => ?_)
  · refine ww_iconst (pc := 8) (v := 0) X dX1_countWorths_8 (by decide) ?_
    refine ww_istore_n (pc := 9) (lv' := [(2, .int 0), (0, .ref (rN 0)), (1, .ref (rL 0))]) X dX1_countWorths_9 rfl (by decide) rfl ?_
    have L10 : ∀ (k_10 j_10 : Nat), j_10 + k_10 = (SL.1 4).toNatClampNeg → WW p l e (headSpec wsX1_countWorths { frames := 3, cells := 0, slots := 0, locals := 70 }).room s m args below meth c 6 D A 0 0 (RQv below args s D A (wX5 cI cZ cQ rL SL ++ wX1 cI cZ cQ rN (f_X1_countWorths SL SN))) (wX5 cI cZ cQ rL SL ++ wX1 cI cZ cQ rN (it_X1_countWorths_10 SL SN ((SL.1 4).toNatClampNeg))) [(0, .ref (rN 0)), (1, .ref (rL 0)), (2, .int (nI ((SL.1 4).toNatClampNeg)))] 95 [] → WW p l e (headSpec wsX1_countWorths { frames := 3, cells := 0, slots := 0, locals := 70 }).room s m args below meth c 6 D A 0 0 (RQv below args s D A (wX5 cI cZ cQ rL SL ++ wX1 cI cZ cQ rN (f_X1_countWorths SL SN))) (wX5 cI cZ cQ rL SL ++ wX1 cI cZ cQ rN (it_X1_countWorths_10 SL SN j_10)) [(0, .ref (rN 0)), (1, .ref (rL 0)), (2, .int (nI j_10))] 10 [] := by
      intro k_10
      induction k_10 with
      | zero =>
        intro j_10 hj K
        have hjB : j_10 = (SL.1 4).toNatClampNeg := by omega
        subst hjB
        refine ww_iload_n (pc := 10) X dX1_countWorths_10 2 rfl rfl ?_
        refine ww_aload_n (pc := 11) X dX1_countWorths_11 1 rfl rfl ?_
        refine ww_get (pc := 12) (ci := 5) (v := .int (SL.1 4)) (C := RX5) (T := TX5) (N := 11) X inX1_countWorths_5 0 rfl rfl 4 (by decide) (by decide +kernel) rfl dX1_countWorths_12 ?_
        exact ww_icmp_ge (pc := 15) (tgt := 95) X dX1_countWorths_15 (by decide) (fun _ => K) (fun c9 => absurd (lp_ge0c (Nat.le_refl _) (cl_lt _)) c9)
      | succ k_10 ih =>
        intro j_10 hj K
        have hjB : j_10 < (SL.1 4).toNatClampNeg := by omega
        have h6_10 := okS_g okL
        refine ww_iload_n (pc := 10) X dX1_countWorths_10 2 rfl rfl ?_
        refine ww_aload_n (pc := 11) X dX1_countWorths_11 1 rfl rfl ?_
        refine ww_get (pc := 12) (ci := 5) (v := .int (SL.1 4)) (C := RX5) (T := TX5) (N := 11) X inX1_countWorths_5 0 rfl rfl 4 (by decide) (by decide +kernel) rfl dX1_countWorths_12 ?_
        refine ww_icmp_ge (pc := 15) (tgt := 95) X dX1_countWorths_15 (by decide) (fun c9 => absurd c9 (lp_ge1c hjB)) (fun _ => ?_)
        refine ww_iconst (pc := 18) (v := 0) X dX1_countWorths_18 (by decide) ?_
        refine ww_istore_n (pc := 19) (lv' := [(3, .int 0), (0, .ref (rN 0)), (1, .ref (rL 0)), (2, .int (nI j_10))]) X dX1_countWorths_19 rfl (by decide) rfl ?_
        have L20 : ∀ (k_20 j_20 : Nat), j_20 + k_20 = (SL.1 2).toNatClampNeg → WW p l e (headSpec wsX1_countWorths { frames := 3, cells := 0, slots := 0, locals := 70 }).room s m args below meth c 6 D A 0 0 (RQv below args s D A (wX5 cI cZ cQ rL SL ++ wX1 cI cZ cQ rN (f_X1_countWorths SL SN))) (wX5 cI cZ cQ rL SL ++ wX1 cI cZ cQ rN (it_X1_countWorths_20 SL j_10 (it_X1_countWorths_10 SL SN j_10) ((SL.1 2).toNatClampNeg))) [(0, .ref (rN 0)), (1, .ref (rL 0)), (2, .int (nI j_10)), (3, .int (nI ((SL.1 2).toNatClampNeg)))] 89 [] → WW p l e (headSpec wsX1_countWorths { frames := 3, cells := 0, slots := 0, locals := 70 }).room s m args below meth c 6 D A 0 0 (RQv below args s D A (wX5 cI cZ cQ rL SL ++ wX1 cI cZ cQ rN (f_X1_countWorths SL SN))) (wX5 cI cZ cQ rL SL ++ wX1 cI cZ cQ rN (it_X1_countWorths_20 SL j_10 (it_X1_countWorths_10 SL SN j_10) j_20)) [(0, .ref (rN 0)), (1, .ref (rL 0)), (2, .int (nI j_10)), (3, .int (nI j_20))] 20 [] := by
          intro k_20
          induction k_20 with
          | zero =>
            intro j_20 hj K
            have hjB : j_20 = (SL.1 2).toNatClampNeg := by omega
            subst hjB
            refine ww_iload_n (pc := 20) X dX1_countWorths_20 3 rfl rfl ?_
            refine ww_aload_n (pc := 21) X dX1_countWorths_21 1 rfl rfl ?_
            refine ww_get (pc := 22) (ci := 5) (v := .int (SL.1 2)) (C := RX5) (T := TX5) (N := 11) X inX1_countWorths_5 0 rfl rfl 2 (by decide) (by decide +kernel) rfl dX1_countWorths_22 ?_
            exact ww_icmp_ge (pc := 25) (tgt := 89) X dX1_countWorths_25 (by decide) (fun _ => K) (fun c9 => absurd (lp_ge0c (Nat.le_refl _) (cl_lt _)) c9)
          | succ k_20 ih =>
            intro j_20 hj K
            have hjB : j_20 < (SL.1 2).toNatClampNeg := by omega
            have h4_20 := okS_d okL
            refine ww_iload_n (pc := 20) X dX1_countWorths_20 3 rfl rfl ?_
            refine ww_aload_n (pc := 21) X dX1_countWorths_21 1 rfl rfl ?_
            refine ww_get (pc := 22) (ci := 5) (v := .int (SL.1 2)) (C := RX5) (T := TX5) (N := 11) X inX1_countWorths_5 0 rfl rfl 2 (by decide) (by decide +kernel) rfl dX1_countWorths_22 ?_
            refine ww_icmp_ge (pc := 25) (tgt := 89) X dX1_countWorths_25 (by decide) (fun c9 => absurd c9 (lp_ge1c hjB)) (fun _ => ?_)
            refine ww_aload_n (pc := 28) X dX1_countWorths_28 1 rfl rfl ?_
            refine ww_get (pc := 29) (ci := 5) (v := .ref (rL 4)) (C := RX5) (T := TX5) (N := 11) X inX1_countWorths_5 0 rfl rfl 8 (by decide) (by decide +kernel) rfl dX1_countWorths_29 ?_
            refine ww_iload_n (pc := 32) X dX1_countWorths_32 2 rfl rfl ?_
            refine ww_iald (pc := 33) (f := SL.2 3) X 4 0 rfl rfl (vn (m := j_10) rfl (by omega) (by decide)) dX1_countWorths_33 ?_
            refine ww_istore (pc := 34) (lv' := [(4, .int ((SL.2 3) (((nI j_10) : Int32)).toNatClampNeg)), (0, .ref (rN 0)), (1, .ref (rL 0)), (2, .int (nI j_10)), (3, .int (nI j_20))]) X dX1_countWorths_34 (by decide) rfl ?_
            refine ww_iconst (pc := 36) (v := 0) X dX1_countWorths_36 (by decide) ?_
            refine ww_istore (pc := 37) (lv' := [(5, .int 0), (4, .int ((SL.2 3) (((nI j_10) : Int32)).toNatClampNeg)), (0, .ref (rN 0)), (1, .ref (rL 0)), (2, .int (nI j_10)), (3, .int (nI j_20))]) X dX1_countWorths_37 (by decide) rfl ?_
            have L39 : ∀ (k_39 j_39 : Nat), j_39 + k_39 = 31 → WW p l e (headSpec wsX1_countWorths { frames := 3, cells := 0, slots := 0, locals := 70 }).room s m args below meth c 6 D A 0 0 (RQv below args s D A (wX5 cI cZ cQ rL SL ++ wX1 cI cZ cQ rN (f_X1_countWorths SL SN))) (wX5 cI cZ cQ rL SL ++ wX1 cI cZ cQ rN ((it_X1_countWorths_39 SL j_10 j_20 ((it_X1_countWorths_20 SL j_10 (it_X1_countWorths_10 SL SN j_10) j_20), (SL.2 3) (((nI j_10) : Int32)).toNatClampNeg) 31).1)) [(0, .ref (rN 0)), (1, .ref (rL 0)), (2, .int (nI j_10)), (3, .int (nI j_20)), (4, .int ((it_X1_countWorths_39 SL j_10 j_20 ((it_X1_countWorths_20 SL j_10 (it_X1_countWorths_10 SL SN j_10) j_20), (SL.2 3) (((nI j_10) : Int32)).toNatClampNeg) 31).2)), (5, .int (nI 31))] 83 [] → WW p l e (headSpec wsX1_countWorths { frames := 3, cells := 0, slots := 0, locals := 70 }).room s m args below meth c 6 D A 0 0 (RQv below args s D A (wX5 cI cZ cQ rL SL ++ wX1 cI cZ cQ rN (f_X1_countWorths SL SN))) (wX5 cI cZ cQ rL SL ++ wX1 cI cZ cQ rN ((it_X1_countWorths_39 SL j_10 j_20 ((it_X1_countWorths_20 SL j_10 (it_X1_countWorths_10 SL SN j_10) j_20), (SL.2 3) (((nI j_10) : Int32)).toNatClampNeg) j_39).1)) [(0, .ref (rN 0)), (1, .ref (rL 0)), (2, .int (nI j_10)), (3, .int (nI j_20)), (4, .int ((it_X1_countWorths_39 SL j_10 j_20 ((it_X1_countWorths_20 SL j_10 (it_X1_countWorths_10 SL SN j_10) j_20), (SL.2 3) (((nI j_10) : Int32)).toNatClampNeg) j_39).2)), (5, .int (nI j_39))] 39 [] := by
              intro k_39
              induction k_39 with
              | zero =>
                intro j_39 hj K
                have hjB : j_39 = 31 := by omega
                subst hjB
                refine ww_iload (pc := 39) X dX1_countWorths_39 5 rfl ?_
                refine ww_bipush (pc := 41) (v := 30) X dX1_countWorths_41 (by decide) ?_
                exact ww_icmp_gt (pc := 43) (tgt := 83) X dX1_countWorths_43 (by decide) (fun _ => K) (fun c9 => absurd (lp_gt0 rfl (Nat.le_refl _) (by decide)) c9)
              | succ k_39 ih =>
                intro j_39 hj K
                have hjB : j_39 < 31 := by omega
                refine ww_iload (pc := 39) X dX1_countWorths_39 5 rfl ?_
                refine ww_bipush (pc := 41) (v := 30) X dX1_countWorths_41 (by decide) ?_
                refine ww_icmp_gt (pc := 43) (tgt := 83) X dX1_countWorths_43 (by decide) (fun c9 => absurd c9 (lp_gt1 rfl hjB (by decide))) (fun _ => ?_)
                refine ww_aload_n (pc := 46) X dX1_countWorths_46 0 rfl rfl ?_
                refine ww_get (pc := 47) (ci := 1) (v := .ref (rN 4)) (C := RX1) (T := TX1) (N := 9) X inX1_countWorths_1 7 rfl rfl 4 (by decide) (by decide +kernel) rfl dX1_countWorths_47 ?_
                refine ww_iload_n (pc := 50) X dX1_countWorths_50 2 rfl rfl ?_
                refine ww_aald (pc := 51) (q := rN (6 + j_10)) X 11 2 rfl rfl (vn (m := j_10) rfl (by omega) (by decide)) (aq (k := j_10) rfl (by omega)) dX1_countWorths_51 ?_
                refine ww_iload_n (pc := 52) X dX1_countWorths_52 3 rfl rfl ?_
                refine ww_bipush (pc := 53) (v := 31) X dX1_countWorths_53 (by decide) ?_
                refine ww_imul (pc := 55) X dX1_countWorths_55 ?_
                refine ww_iload (pc := 56) X dX1_countWorths_56 5 rfl ?_
                refine ww_iadd (pc := 58) X dX1_countWorths_58 ?_
                refine ww_iload (pc := 59) X dX1_countWorths_59 4 rfl ?_
                refine ww_iast (pc := 61) (f := ((it_X1_countWorths_39 SL j_10 j_20 ((it_X1_countWorths_20 SL j_10 (it_X1_countWorths_10 SL SN j_10) j_20), (SL.2 3) (((nI j_10) : Int32)).toNatClampNeg) j_39).1).2 (4 + j_10)) (n := 124) (ws' := wX5 cI cZ cQ rL SL ++ wX1 cI cZ cQ rN (sA ((it_X1_countWorths_39 SL j_10 j_20 ((it_X1_countWorths_20 SL j_10 (it_X1_countWorths_10 SL SN j_10) j_20), (SL.2 3) (((nI j_10) : Int32)).toNatClampNeg) j_39).1) (4 + j_10) (upd (((it_X1_countWorths_39 SL j_10 j_20 ((it_X1_countWorths_20 SL j_10 (it_X1_countWorths_10 SL SN j_10) j_20), (SL.2 3) (((nI j_10) : Int32)).toNatClampNeg) j_39).1).2 (4 + j_10)) ((((nI j_20) * 31) + (nI j_39) : Int32)).toNatClampNeg ((it_X1_countWorths_39 SL j_10 j_20 ((it_X1_countWorths_20 SL j_10 (it_X1_countWorths_10 SL SN j_10) j_20), (SL.2 3) (((nI j_10) : Int32)).toNatClampNeg) j_39).2)))) X (13 + j_10) 0 (c6_ (P := fun k9 => (wX5 cI cZ cQ rL SL ++ wX1 cI cZ cQ rN ((it_X1_countWorths_39 SL j_10 j_20 ((it_X1_countWorths_20 SL j_10 (it_X1_countWorths_10 SL SN j_10) j_20), (SL.2 3) (((nI j_10) : Int32)).toNatClampNeg) j_39).1))[13 + k9]? = some (rN (6 + k9), .inl (cI, 124, .inl (((it_X1_countWorths_39 SL j_10 j_20 ((it_X1_countWorths_20 SL j_10 (it_X1_countWorths_10 SL SN j_10) j_20), (SL.2 3) (((nI j_10) : Int32)).toNatClampNeg) j_39).1).2 (4 + k9))))) rfl rfl rfl rfl rfl rfl (by omega)) rfl (vn (m := (j_20 * 31) + j_39) (nat_iadd (a := j_20 * 31) (b := j_39) (nat_imul (a := j_20) (b := 31) rfl rfl) rfl) (by omega) (by decide)) (c6_ (P := fun k9 => (wX5 cI cZ cQ rL SL ++ wX1 cI cZ cQ rN ((it_X1_countWorths_39 SL j_10 j_20 ((it_X1_countWorths_20 SL j_10 (it_X1_countWorths_10 SL SN j_10) j_20), (SL.2 3) (((nI j_10) : Int32)).toNatClampNeg) j_39).1) : va_W).set (13 + k9) (rN (6 + k9), .inl (cI, 124, .inl (upd (((it_X1_countWorths_39 SL j_10 j_20 ((it_X1_countWorths_20 SL j_10 (it_X1_countWorths_10 SL SN j_10) j_20), (SL.2 3) (((nI j_10) : Int32)).toNatClampNeg) j_39).1).2 (4 + k9)) ((((nI j_20) * 31) + (nI j_39) : Int32)).toNatClampNeg ((it_X1_countWorths_39 SL j_10 j_20 ((it_X1_countWorths_20 SL j_10 (it_X1_countWorths_10 SL SN j_10) j_20), (SL.2 3) (((nI j_10) : Int32)).toNatClampNeg) j_39).2)))) = wX5 cI cZ cQ rL SL ++ wX1 cI cZ cQ rN (sA ((it_X1_countWorths_39 SL j_10 j_20 ((it_X1_countWorths_20 SL j_10 (it_X1_countWorths_10 SL SN j_10) j_20), (SL.2 3) (((nI j_10) : Int32)).toNatClampNeg) j_39).1) (4 + k9) (upd (((it_X1_countWorths_39 SL j_10 j_20 ((it_X1_countWorths_20 SL j_10 (it_X1_countWorths_10 SL SN j_10) j_20), (SL.2 3) (((nI j_10) : Int32)).toNatClampNeg) j_39).1).2 (4 + k9)) ((((nI j_20) * 31) + (nI j_39) : Int32)).toNatClampNeg ((it_X1_countWorths_39 SL j_10 j_20 ((it_X1_countWorths_20 SL j_10 (it_X1_countWorths_10 SL SN j_10) j_20), (SL.2 3) (((nI j_10) : Int32)).toNatClampNeg) j_39).2)))) rfl rfl rfl rfl rfl rfl (by omega)) dX1_countWorths_61 ?_
                refine ww_aload_n (pc := 62) X dX1_countWorths_62 1 rfl rfl ?_
                refine ww_iload_n (pc := 63) X dX1_countWorths_63 2 rfl rfl ?_
                refine ww_iload (pc := 64) X dX1_countWorths_64 4 rfl ?_
                refine ww_aload_n (pc := 66) X dX1_countWorths_66 1 rfl rfl ?_
                refine ww_get (pc := 67) (ci := 5) (v := .ref (rL 1)) (C := RX5) (T := TX5) (N := 11) X inX1_countWorths_5 0 rfl rfl 5 (by decide) (by decide +kernel) rfl dX1_countWorths_67 ?_
                refine ww_iload_n (pc := 70) X dX1_countWorths_70 3 rfl rfl ?_
                refine ww_iald (pc := 71) (f := SL.2 0) X 1 0 rfl rfl (vn (m := j_20) rfl (by omega) (by decide)) dX1_countWorths_71 ?_
                refine ww_cVi (pc := 72) (rest := []) (wsN := wX5 cI cZ cQ rL SL ++ wX1 cI cZ cQ rN (sA ((it_X1_countWorths_39 SL j_10 j_20 ((it_X1_countWorths_20 SL j_10 (it_X1_countWorths_10 SL SN j_10) j_20), (SL.2 3) (((nI j_10) : Int32)).toNatClampNeg) j_39).1) (4 + j_10) (upd (((it_X1_countWorths_39 SL j_10 j_20 ((it_X1_countWorths_20 SL j_10 (it_X1_countWorths_10 SL SN j_10) j_20), (SL.2 3) (((nI j_10) : Int32)).toNatClampNeg) j_39).1).2 (4 + j_10)) ((((nI j_20) * 31) + (nI j_39) : Int32)).toNatClampNeg ((it_X1_countWorths_39 SL j_10 j_20 ((it_X1_countWorths_20 SL j_10 (it_X1_countWorths_10 SL SN j_10) j_20), (SL.2 3) (((nI j_10) : Int32)).toNatClampNeg) j_39).2)))) (ci := 5) (q0 := 0) X (c_X5_worthBehind l D cI cZ cQ rL SL (nI j_10) ((it_X1_countWorths_39 SL j_10 j_20 ((it_X1_countWorths_20 SL j_10 (it_X1_countWorths_10 SL SN j_10) j_20), (SL.2 3) (((nI j_10) : Int32)).toNatClampNeg) j_39).2) ((SL.2 0) (((nI j_20) : Int32)).toNatClampNeg)) gX1_countWorths_X5_worthBehind rfl hd_X5_worthBehind [0, 1, 2, 3, 4, 5, 6] rfl (by decide) rfl rfl rfl rfl rfl rfl ⟨rfl, rfl⟩ ⟨Nat.le_of_ble_eq_true rfl, Nat.le_of_ble_eq_true rfl⟩ (Nat.le_of_ble_eq_true rfl) ⟨Nat.zero_le _, Nat.zero_le _⟩ dX1_countWorths_72 ?_
                generalize hz11 : (f_X5_worthBehind SL (nI j_10) ((it_X1_countWorths_39 SL j_10 j_20 ((it_X1_countWorths_20 SL j_10 (it_X1_countWorths_10 SL SN j_10) j_20), (SL.2 3) (((nI j_10) : Int32)).toNatClampNeg) j_39).2) ((SL.2 0) (((nI j_20) : Int32)).toNatClampNeg)) = z11
                refine ww_istore (pc := 75) (lv' := [(4, .int z11), (0, .ref (rN 0)), (1, .ref (rL 0)), (2, .int (nI j_10)), (3, .int (nI j_20)), (5, .int (nI j_39))]) X dX1_countWorths_75 (by decide) rfl ?_
                refine ww_iinc (pc := 77) (v := (nI j_39) + 1) (lv' := [(5, .int ((nI j_39) + 1)), (4, .int z11), (0, .ref (rN 0)), (1, .ref (rL 0)), (2, .int (nI j_10)), (3, .int (nI j_20))]) X dX1_countWorths_77 5 rfl rfl (by decide) rfl ?_
                refine ww_goto (pc := 80) (tgt := 39) X dX1_countWorths_80 (by decide) ?_
                have h12 : (it_X1_countWorths_39 SL j_10 j_20 ((it_X1_countWorths_20 SL j_10 (it_X1_countWorths_10 SL SN j_10) j_20), (SL.2 3) (((nI j_10) : Int32)).toNatClampNeg) (j_39 + 1)) = ((sA ((it_X1_countWorths_39 SL j_10 j_20 ((it_X1_countWorths_20 SL j_10 (it_X1_countWorths_10 SL SN j_10) j_20), (SL.2 3) (((nI j_10) : Int32)).toNatClampNeg) j_39).1) (4 + j_10) (upd (((it_X1_countWorths_39 SL j_10 j_20 ((it_X1_countWorths_20 SL j_10 (it_X1_countWorths_10 SL SN j_10) j_20), (SL.2 3) (((nI j_10) : Int32)).toNatClampNeg) j_39).1).2 (4 + j_10)) ((((nI j_20) * 31) + (nI j_39) : Int32)).toNatClampNeg ((it_X1_countWorths_39 SL j_10 j_20 ((it_X1_countWorths_20 SL j_10 (it_X1_countWorths_10 SL SN j_10) j_20), (SL.2 3) (((nI j_10) : Int32)).toNatClampNeg) j_39).2))), z11) := by
                  show bd_X1_countWorths_39 SL j_10 j_20 j_39 (it_X1_countWorths_39 SL j_10 j_20 ((it_X1_countWorths_20 SL j_10 (it_X1_countWorths_10 SL SN j_10) j_20), (SL.2 3) (((nI j_10) : Int32)).toNatClampNeg) j_39) = _; unfold bd_X1_countWorths_39; try rw [hz11]; try unfold bd_X1_countWorths_39_k1; first | done | rfl
                refine ww_lsub [2, 3, 4, 5, 1, 0] rfl ?_
                exact ww_castI (fun u9 : St × Int32 => wX5 cI cZ cQ rL SL ++ wX1 cI cZ cQ rN u9.1) (fun (u9 : St × Int32) (i9 : Int32) => ([(0, .ref (rN 0)), (1, .ref (rL 0)), (2, .int (nI j_10)), (3, .int (nI j_20)), (4, .int u9.2), (5, .int i9)] : List (Nat × Value))) h12 (ih (j_39 + 1) (by omega) K)
            refine ww_lsub [2, 3, 4, 5, 1, 0] rfl ?_
            refine L39 31 0 (by omega) ?_
            generalize hz13 : ((it_X1_countWorths_39 SL j_10 j_20 ((it_X1_countWorths_20 SL j_10 (it_X1_countWorths_10 SL SN j_10) j_20), (SL.2 3) (((nI j_10) : Int32)).toNatClampNeg) 31)) = z13
            refine ww_iinc (pc := 83) (v := (nI j_20) + 1) (lv' := [(3, .int ((nI j_20) + 1)), (0, .ref (rN 0)), (1, .ref (rL 0)), (2, .int (nI j_10)), (4, .int z13.2), (5, .int (nI 31))]) X dX1_countWorths_83 3 rfl rfl (by decide) rfl ?_
            refine ww_goto (pc := 86) (tgt := 20) X dX1_countWorths_86 (by decide) ?_
            have h14 : (it_X1_countWorths_20 SL j_10 (it_X1_countWorths_10 SL SN j_10) (j_20 + 1)) = z13.1 := by
              show bd_X1_countWorths_20 SL j_10 j_20 (it_X1_countWorths_20 SL j_10 (it_X1_countWorths_10 SL SN j_10) j_20) = _; unfold bd_X1_countWorths_20; try rw [hz13]; try unfold bd_X1_countWorths_20_k1; first | done | rfl
            refine ww_lsub [1, 2, 3, 0] rfl ?_
            exact ww_castI (fun u9 : St => wX5 cI cZ cQ rL SL ++ wX1 cI cZ cQ rN u9) (fun (u9 : St) (i9 : Int32) => ([(0, .ref (rN 0)), (1, .ref (rL 0)), (2, .int (nI j_10)), (3, .int i9)] : List (Nat × Value))) h14 (ih (j_20 + 1) (by omega) K)
        refine ww_lsub [1, 2, 3, 0] rfl ?_
        refine L20 ((SL.1 2).toNatClampNeg) 0 (by omega) ?_
        generalize hz15 : ((it_X1_countWorths_20 SL j_10 (it_X1_countWorths_10 SL SN j_10) ((SL.1 2).toNatClampNeg))) = z15
        refine ww_iinc (pc := 89) (v := (nI j_10) + 1) (lv' := [(2, .int ((nI j_10) + 1)), (0, .ref (rN 0)), (1, .ref (rL 0)), (3, .int (nI ((SL.1 2).toNatClampNeg)))]) X dX1_countWorths_89 2 rfl rfl (by decide) rfl ?_
        refine ww_goto (pc := 92) (tgt := 10) X dX1_countWorths_92 (by decide) ?_
        have h16 : (it_X1_countWorths_10 SL SN (j_10 + 1)) = z15 := by
          show bd_X1_countWorths_10 SL j_10 (it_X1_countWorths_10 SL SN j_10) = _; unfold bd_X1_countWorths_10; try rw [hz15]; try unfold bd_X1_countWorths_10_k1; first | done | rfl
        refine ww_lsub [1, 2, 0] rfl ?_
        exact ww_castI (fun u9 : St => wX5 cI cZ cQ rL SL ++ wX1 cI cZ cQ rN u9) (fun (u9 : St) (i9 : Int32) => ([(0, .ref (rN 0)), (1, .ref (rL 0)), (2, .int i9)] : List (Nat × Value))) h16 (ih (j_10 + 1) (by omega) K)
    refine ww_lsub [1, 2, 0] rfl ?_
    refine L10 ((SL.1 4).toNatClampNeg) 0 (by omega) ?_
    generalize hz17 : ((it_X1_countWorths_10 SL SN ((SL.1 4).toNatClampNeg))) = z17
    refine ww_aload_n (pc := 95) X dX1_countWorths_95 0 rfl rfl ?_
    refine ww_iconst (pc := 96) (v := 1) X dX1_countWorths_96 (by decide) ?_
    refine ww_put (pc := 97) (ci := 1) (v := .int 1) (C := RX1) (T := TX1) (N := 9) (ws' := wX5 cI cZ cQ rL SL ++ wX1 cI cZ cQ rN (sI z17 1 1)) X inX1_countWorths_1 tyX1 tyX1_ok nmX1 7 rfl rfl 5 (by decide) (by decide +kernel) rfl rfl rfl (Nat.le_of_ble_eq_true rfl) rfl dX1_countWorths_97 ?_
    have h18 : f_X1_countWorths SL SN = (sI z17 1 1) := by unfold f_X1_countWorths; try rw [if_pos c1, hz17]; try unfold f_X1_countWorths_k1; first | done | rfl
    exact ww_vret X hr (congrArg (fun u9 : St => wX5 cI cZ cQ rL SL ++ wX1 cI cZ cQ rN u9) h18.symm) dX1_countWorths_100
  · have h19 : f_X1_countWorths SL SN = SN := by unfold f_X1_countWorths; try rw [if_neg c1]; first | done | rfl
    exact ww_vret X hr (congrArg (fun u9 : St => wX5 cI cZ cQ rL SL ++ wX1 cI cZ cQ rN u9) h19.symm) dX1_countWorths_7
def l0_X1_alikeFrom_18 (SN : St) (x1 : Int32) (j2 : Nat) (x3 : Int32) (j : Nat) (u : Int32) : Int32 :=
  u
def lb_X1_alikeFrom_18 (SN : St) (x1 : Int32) (j2 : Nat) (x3 : Int32) (rec : Nat → (Int32) → Int32) (j : Nat) (u : Int32) : Int32 :=
  if (f_X1_worthBy SN x1 ((SN.2 3) (((nI j) : Int32)).toNatClampNeg)) = x3 then
    rec (j + 1) (u + 1)
  else
    rec (j + 1) u
def lp_X1_alikeFrom_18 (SN : St) (x1 : Int32) (j2 : Nat) (x3 : Int32) : Nat → Nat → (Int32) → Int32
  | 0, j, u => l0_X1_alikeFrom_18 SN x1 j2 x3 j u
  | k + 1, j, u => lb_X1_alikeFrom_18 SN x1 j2 x3 (lp_X1_alikeFrom_18 SN x1 j2 x3 k) j u
def f_X1_alikeFrom_k1 (SN : St) (x1 : Int32) (a2 : Nat) (z1 : Int32) : Int32 :=
  lp_X1_alikeFrom_18 SN x1 a2 z1 ((SN.1 2).toNatClampNeg - a2) a2 0
def f_X1_alikeFrom (SN : St) (x1 : Int32) (a2 : Nat) : Int32 :=
  f_X1_alikeFrom_k1 SN x1 a2 (f_X1_worthBy SN x1 ((SN.2 3) (((nI a2) : Int32)).toNatClampNeg))
theorem lpA (S : St) (g : Int32) (a : Nat) (v : Int32) : ∀ (k j : Nat) (u : Int32), ∃ m : Nat, m ≤ k ∧ lp_X1_alikeFrom_18 S g a v k j u = u + nI m
  | 0, j, u => ⟨0, Nat.le_refl _, by show u = u + nI 0; rw [nI_0, Int32.add_zero]⟩
  | k + 1, j, u => by
    show ∃ m : Nat, m ≤ k + 1 ∧ lb_X1_alikeFrom_18 S g a v (lp_X1_alikeFrom_18 S g a v k) j u = u + nI m
    unfold lb_X1_alikeFrom_18
    split
    · obtain ⟨m, h1, h2⟩ := lpA S g a v k (j + 1) (u + 1)
      exact ⟨m + 1, by omega, by rw [h2, nI_succ, Int32.add_assoc, Int32.add_comm 1]⟩
    · obtain ⟨m, h1, h2⟩ := lpA S g a v k (j + 1) u
      exact ⟨m, by omega, h2⟩
theorem fA_le {S : St} {g : Int32} {a : Nat} (hF : S.1 2 ≤ 124) : ∃ m : Nat, m ≤ 124 ∧ f_X1_alikeFrom S g a = nI m := by
  have hf0 := cl_le hF (n := 124) rfl (by decide)
  obtain ⟨m, h1, h2⟩ := lpA S g a (f_X1_worthBy S g ((S.2 3) (((nI a) : Int32)).toNatClampNeg)) ((S.1 2).toNatClampNeg - a) a 0
  refine ⟨m, by omega, ?_⟩
  unfold f_X1_alikeFrom f_X1_alikeFrom_k1
  rw [h2, Int32.zero_add]
theorem gp_lt {S : St} {U : Int32} {J : Nat} (h0 : ¬ (S.1 2) < 0) (hF : S.1 2 ≤ 124) (hi : J ≤ (S.1 2).toNatClampNeg ∧ ∃ a : Nat, U = nI a ∧ a ≤ 124) (c : ¬ ((S.1 2) - U) ≤ (nI J)) : J < (S.1 2).toNatClampNeg := by
  have hf0 := cl_le hF (n := 124) rfl (by decide)
  obtain ⟨h1, a, rfl, ha⟩ := hi
  have e := cl_eq h0
  rw [Int32.le_iff_toInt_le, e, pk_sub_toInt (by omega) (by omega), nI_toInt (by omega)] at c
  omega
theorem gp_step {S : St} {g U z : Int32} {J : Nat} (h0 : ¬ (S.1 2) < 0) (hF : S.1 2 ≤ 124) (hi : J ≤ (S.1 2).toNatClampNeg ∧ ∃ a : Nat, U = nI a ∧ a ≤ 124) (c : ¬ ((S.1 2) - U) ≤ (nI J)) (hz : (if U < (f_X1_alikeFrom S g J) then (f_X1_alikeFrom S g J) else U) = z) : J + 1 ≤ (S.1 2).toNatClampNeg ∧ ∃ a : Nat, z = nI a ∧ a ≤ 124 := by
  refine ⟨gp_lt h0 hF hi c, ?_⟩
  obtain ⟨h1, a, rfl, ha⟩ := hi
  obtain ⟨m, hm, e⟩ := fA_le (g := g) (a := J) hF
  rw [← hz]
  split
  · exact ⟨m, e, hm⟩
  · exact ⟨a, rfl, ha⟩
theorem inX1_alikeFrom_1 : ∀ w ∈ wsX10, w ∈ wsX1_alikeFrom := by decide +kernel
theorem hd_X1_alikeFrom : yX1_alikeFrom.cls = RX1 ∧ yX1_alikeFrom.cls ≠ "java/lang/invoke/MethodHandle" ∧ yX1_alikeFrom.cls ≠ "java/lang/invoke/VarHandle" ∧ (parseMethodDescriptor yX1_alikeFrom.desc).map (fun d => d.parameters.length) = some 2 := by decide +kernel
set_option maxHeartbeats 4000000 in
set_option maxRecDepth 100000 in
theorem c_X1_alikeFrom (l : Launch) (D : va_G) (cI cZ cQ : ClassId) (rN : Nat → Nat) (SN : St) (x1 : Int32) (a2 : Nat) (hs : a2 < (SN.1 2).toNatClampNeg) (hF : SN.1 2 ≤ 124) : Ci l yX1_alikeFrom wsX1_alikeFrom { frames := 1, cells := 0, slots := 0, locals := 23 } D (tyL cI cZ cQ) [.ref (rN 0), .int x1, .int (nI a2)] (wX1 cI cZ cQ rN SN) (f_X1_alikeFrom SN x1 a2) (wX1 cI cZ cQ rN SN) := by
  refine ci_of (cc := cX1_alikeFrom) (nL := 6) (ty := .int) (lv0 := [(0, .ref (rN 0)), (1, .int x1), (2, .int (nI a2))]) (by decide) rfl (Nat.le_of_ble_eq_true rfl) rfl ?_
  intro p e s m args below meth c A X hr
  have hf0 := cl_le hF (n := 124) rfl (by decide)
  refine ww_aload_n (pc := 0) X dX1_alikeFrom_0 0 rfl rfl ?_
  refine ww_iload_n (pc := 1) X dX1_alikeFrom_1 1 rfl rfl ?_
  refine ww_aload_n (pc := 2) X dX1_alikeFrom_2 0 rfl rfl ?_
  refine ww_get (pc := 3) (ci := 1) (v := .ref (rN 5)) (C := RX1) (T := TX1) (N := 9) X inX1_alikeFrom_1 0 rfl rfl 6 (by decide) (by decide +kernel) rfl dX1_alikeFrom_3 ?_
  refine ww_iload_n (pc := 6) X dX1_alikeFrom_6 2 rfl rfl ?_
  refine ww_iald (pc := 7) (f := SN.2 3) X 5 0 rfl rfl (vn (m := a2) rfl (by omega) (by decide)) dX1_alikeFrom_7 ?_
  refine ww_cVi (pc := 8) (rest := []) (wsN := wX1 cI cZ cQ rN SN) (ci := 1) (q0 := 0) X (c_X1_worthBy l D cI cZ cQ rN SN x1 ((SN.2 3) (((nI a2) : Int32)).toNatClampNeg)) gX1_alikeFrom_X1_worthBy rfl hd_X1_worthBy [0, 1, 2, 3, 4, 5, 6, 7, 8, 9, 10, 11] rfl (by decide) rfl rfl rfl rfl rfl rfl ⟨rfl, rfl⟩ ⟨Nat.le_of_ble_eq_true rfl, Nat.le_of_ble_eq_true rfl⟩ (Nat.le_of_ble_eq_true rfl) ⟨Nat.zero_le _, Nat.zero_le _⟩ dX1_alikeFrom_8 ?_
  generalize hz1 : (f_X1_worthBy SN x1 ((SN.2 3) (((nI a2) : Int32)).toNatClampNeg)) = z1
  refine ww_istore_n (pc := 11) (lv' := [(3, .int z1), (0, .ref (rN 0)), (1, .int x1), (2, .int (nI a2))]) X dX1_alikeFrom_11 rfl (by decide) rfl ?_
  refine ww_iconst (pc := 12) (v := 0) X dX1_alikeFrom_12 (by decide) ?_
  refine ww_istore (pc := 13) (lv' := [(4, .int 0), (3, .int z1), (0, .ref (rN 0)), (1, .int x1), (2, .int (nI a2))]) X dX1_alikeFrom_13 (by decide) rfl ?_
  refine ww_iload_n (pc := 15) X dX1_alikeFrom_15 4 rfl rfl ?_
  refine ww_istore (pc := 16) (lv' := [(5, .int (nI a2)), (4, .int 0), (3, .int z1), (0, .ref (rN 0)), (1, .int x1), (2, .int (nI a2))]) X dX1_alikeFrom_16 (by decide) rfl ?_
  have L18 : ∀ (k_18 j_18 : Nat) (u_18 : Int32), j_18 + k_18 = (SN.1 2).toNatClampNeg → True → f_X1_alikeFrom SN x1 a2 = lp_X1_alikeFrom_18 SN x1 a2 z1 k_18 j_18 u_18 → WW p l e (headSpec wsX1_alikeFrom { frames := 1, cells := 0, slots := 0, locals := 23 }).room s m args below meth c 6 D A 0 0 (RQi below args s D A (f_X1_alikeFrom SN x1 a2) (wX1 cI cZ cQ rN SN)) (wX1 cI cZ cQ rN SN) [(0, .ref (rN 0)), (1, .int x1), (2, .int (nI a2)), (3, .int z1), (4, .int u_18), (5, .int (nI j_18))] 18 [] := by
    intro k_18
    induction k_18 with
    | zero =>
      intro j_18 u_18 hj hi hf
      have hjB : j_18 = (SN.1 2).toNatClampNeg := by omega
      subst hjB
      refine ww_iload (pc := 18) X dX1_alikeFrom_18 5 rfl ?_
      refine ww_aload_n (pc := 20) X dX1_alikeFrom_20 0 rfl rfl ?_
      refine ww_get (pc := 21) (ci := 1) (v := .int (SN.1 2)) (C := RX1) (T := TX1) (N := 9) X inX1_alikeFrom_1 0 rfl rfl 7 (by decide) (by decide +kernel) rfl dX1_alikeFrom_21 ?_
      refine ww_icmp_ge (pc := 24) (tgt := 52) X dX1_alikeFrom_24 (by decide) (fun _ => ?_) (fun c9 => absurd (lp_ge0c (Nat.le_refl _) (cl_lt _)) c9)
      refine ww_iload (pc := 52) X dX1_alikeFrom_52 4 rfl ?_
      exact ww_iret X hr rfl (Eq.symm (by rw [hf]; show l0_X1_alikeFrom_18 SN x1 a2 z1 ((SN.1 2).toNatClampNeg) u_18 = _; unfold l0_X1_alikeFrom_18; first | done | rfl)) rfl dX1_alikeFrom_54
    | succ k_18 ih =>
      intro j_18 u_18 hj hi hf
      have hjB : j_18 < (SN.1 2).toNatClampNeg := by omega
      have hN_18 := cl_le hF (n := 124) rfl (by decide)
      refine ww_iload (pc := 18) X dX1_alikeFrom_18 5 rfl ?_
      refine ww_aload_n (pc := 20) X dX1_alikeFrom_20 0 rfl rfl ?_
      refine ww_get (pc := 21) (ci := 1) (v := .int (SN.1 2)) (C := RX1) (T := TX1) (N := 9) X inX1_alikeFrom_1 0 rfl rfl 7 (by decide) (by decide +kernel) rfl dX1_alikeFrom_21 ?_
      refine ww_icmp_ge (pc := 24) (tgt := 52) X dX1_alikeFrom_24 (by decide) (fun c9 => absurd c9 (lp_ge1c hjB)) (fun _ => ?_)
      refine ww_aload_n (pc := 27) X dX1_alikeFrom_27 0 rfl rfl ?_
      refine ww_iload_n (pc := 28) X dX1_alikeFrom_28 1 rfl rfl ?_
      refine ww_aload_n (pc := 29) X dX1_alikeFrom_29 0 rfl rfl ?_
      refine ww_get (pc := 30) (ci := 1) (v := .ref (rN 5)) (C := RX1) (T := TX1) (N := 9) X inX1_alikeFrom_1 0 rfl rfl 6 (by decide) (by decide +kernel) rfl dX1_alikeFrom_30 ?_
      refine ww_iload (pc := 33) X dX1_alikeFrom_33 5 rfl ?_
      refine ww_iald (pc := 35) (f := SN.2 3) X 5 0 rfl rfl (vn (m := j_18) rfl (by omega) (by decide)) dX1_alikeFrom_35 ?_
      refine ww_cVi (pc := 36) (rest := []) (wsN := wX1 cI cZ cQ rN SN) (ci := 1) (q0 := 0) X (c_X1_worthBy l D cI cZ cQ rN SN x1 ((SN.2 3) (((nI j_18) : Int32)).toNatClampNeg)) gX1_alikeFrom_X1_worthBy rfl hd_X1_worthBy [0, 1, 2, 3, 4, 5, 6, 7, 8, 9, 10, 11] rfl (by decide) rfl rfl rfl rfl rfl rfl ⟨rfl, rfl⟩ ⟨Nat.le_of_ble_eq_true rfl, Nat.le_of_ble_eq_true rfl⟩ (Nat.le_of_ble_eq_true rfl) ⟨Nat.zero_le _, Nat.zero_le _⟩ dX1_alikeFrom_36 ?_
      refine ww_iload_n (pc := 39) X dX1_alikeFrom_39 3 rfl rfl ?_
      refine ww_icmp_ne (pc := 40) (tgt := 46) X dX1_alikeFrom_40 (by decide) (fun c3 => ?_) (fun c3 => ?_)
      · refine ww_iinc (pc := 46) (v := (nI j_18) + 1) (lv' := [(5, .int ((nI j_18) + 1)), (0, .ref (rN 0)), (1, .int x1), (2, .int (nI a2)), (3, .int z1), (4, .int u_18)]) X dX1_alikeFrom_46 5 rfl rfl (by decide) rfl ?_
        refine ww_goto (pc := 49) (tgt := 18) X dX1_alikeFrom_49 (by decide) ?_
        refine ww_lsub [1, 2, 3, 4, 5, 0] rfl ?_
        have h4 : f_X1_alikeFrom SN x1 a2 = lp_X1_alikeFrom_18 SN x1 a2 z1 k_18 (j_18 + 1) u_18 := by rw [hf]; show lb_X1_alikeFrom_18 SN x1 a2 z1 (lp_X1_alikeFrom_18 SN x1 a2 z1 k_18) j_18 u_18 = _; unfold lb_X1_alikeFrom_18; try rw [if_neg c3]; first | done | rfl
        exact ww_cast rfl (congrArg (fun (i9 : Int32) => ([(0, .ref (rN 0)), (1, .int x1), (2, .int (nI a2)), (3, .int z1), (4, .int u_18), (5, .int i9)] : List (Nat × Value))) (nI_1 j_18).symm) (ih (j_18 + 1) u_18 (by omega) trivial h4)
      · refine ww_iinc (pc := 43) (v := u_18 + 1) (lv' := [(4, .int (u_18 + 1)), (0, .ref (rN 0)), (1, .int x1), (2, .int (nI a2)), (3, .int z1), (5, .int (nI j_18))]) X dX1_alikeFrom_43 4 rfl rfl (by decide) rfl ?_
        refine ww_iinc (pc := 46) (v := (nI j_18) + 1) (lv' := [(5, .int ((nI j_18) + 1)), (4, .int (u_18 + 1)), (0, .ref (rN 0)), (1, .int x1), (2, .int (nI a2)), (3, .int z1)]) X dX1_alikeFrom_46 5 rfl rfl (by decide) rfl ?_
        refine ww_goto (pc := 49) (tgt := 18) X dX1_alikeFrom_49 (by decide) ?_
        refine ww_lsub [2, 3, 4, 5, 1, 0] rfl ?_
        have h5 : f_X1_alikeFrom SN x1 a2 = lp_X1_alikeFrom_18 SN x1 a2 z1 k_18 (j_18 + 1) (u_18 + 1) := by rw [hf]; show lb_X1_alikeFrom_18 SN x1 a2 z1 (lp_X1_alikeFrom_18 SN x1 a2 z1 k_18) j_18 u_18 = _; unfold lb_X1_alikeFrom_18; try rw [if_pos c3]; first | done | rfl
        exact ww_cast rfl (congrArg (fun (i9 : Int32) => ([(0, .ref (rN 0)), (1, .int x1), (2, .int (nI a2)), (3, .int z1), (4, .int (u_18 + 1)), (5, .int i9)] : List (Nat × Value))) (nI_1 j_18).symm) (ih (j_18 + 1) (u_18 + 1) (by omega) trivial h5)
  refine ww_lsub [3, 4, 5, 2, 1, 0] rfl ?_
  exact L18 ((SN.1 2).toNatClampNeg - a2) a2 0 (by omega) trivial (by unfold f_X1_alikeFrom; try rw [hz1]; try unfold f_X1_alikeFrom_k1; first | done | rfl)
def lb_X1_greatestPart_4_k1 (SN : St) (x1 : Int32) (rec : Nat → (Int32) → Int32) (j : Nat) (u : Int32) (z2 : Int32) : Int32 :=
  rec (j + 1) z2
def lb_X1_greatestPart_4 (SN : St) (x1 : Int32) (rec : Nat → (Int32) → Int32) (j : Nat) (u : Int32) : Int32 :=
  if ((SN.1 2) - u) ≤ (nI j) then
    u
  else
    lb_X1_greatestPart_4_k1 SN x1 rec j u (if u < (f_X1_alikeFrom SN x1 j) then (f_X1_alikeFrom SN x1 j) else u)
def lp_X1_greatestPart_4 (SN : St) (x1 : Int32) : Nat → Nat → (Int32) → Int32
  | 0, j, u => 0
  | k + 1, j, u => lb_X1_greatestPart_4 SN x1 (lp_X1_greatestPart_4 SN x1 k) j u
def f_X1_greatestPart (SN : St) (x1 : Int32) : Int32 :=
  lp_X1_greatestPart_4 SN x1 125 0 0
theorem inX1_greatestPart_1 : ∀ w ∈ wsX10, w ∈ wsX1_greatestPart := by decide +kernel
theorem hd_X1_greatestPart : yX1_greatestPart.cls = RX1 ∧ yX1_greatestPart.cls ≠ "java/lang/invoke/MethodHandle" ∧ yX1_greatestPart.cls ≠ "java/lang/invoke/VarHandle" ∧ (parseMethodDescriptor yX1_greatestPart.desc).map (fun d => d.parameters.length) = some 1 := by decide +kernel
set_option maxHeartbeats 4000000 in
set_option maxRecDepth 100000 in
theorem c_X1_greatestPart (l : Launch) (D : va_G) (cI cZ cQ : ClassId) (rN : Nat → Nat) (SN : St) (x1 : Int32) (h0 : ¬ (SN.1 2) < 0) (hF : SN.1 2 ≤ 124) : Ci l yX1_greatestPart wsX1_greatestPart { frames := 2, cells := 0, slots := 0, locals := 48 } D (tyL cI cZ cQ) [.ref (rN 0), .int x1] (wX1 cI cZ cQ rN SN) (f_X1_greatestPart SN x1) (wX1 cI cZ cQ rN SN) := by
  refine ci_of (cc := cX1_greatestPart) (nL := 4) (ty := .int) (lv0 := [(0, .ref (rN 0)), (1, .int x1)]) (by decide) rfl (Nat.le_of_ble_eq_true rfl) rfl ?_
  intro p e s m args below meth c A X hr
  refine ww_iconst (pc := 0) (v := 0) X dX1_greatestPart_0 (by decide) ?_
  refine ww_istore_n (pc := 1) (lv' := [(2, .int 0), (0, .ref (rN 0)), (1, .int x1)]) X dX1_greatestPart_1 rfl (by decide) rfl ?_
  refine ww_iconst (pc := 2) (v := 0) X dX1_greatestPart_2 (by decide) ?_
  refine ww_istore_n (pc := 3) (lv' := [(3, .int 0), (2, .int 0), (0, .ref (rN 0)), (1, .int x1)]) X dX1_greatestPart_3 rfl (by decide) rfl ?_
  have L4 : ∀ (k_4 j_4 : Nat) (u_4 : Int32), j_4 + k_4 = 125 → (j_4 ≤ (SN.1 2).toNatClampNeg ∧ ∃ a : Nat, u_4 = nI a ∧ a ≤ 124) → f_X1_greatestPart SN x1 = lp_X1_greatestPart_4 SN x1 k_4 j_4 u_4 → WW p l e (headSpec wsX1_greatestPart { frames := 2, cells := 0, slots := 0, locals := 48 }).room s m args below meth c 4 D A 0 0 (RQi below args s D A (f_X1_greatestPart SN x1) (wX1 cI cZ cQ rN SN)) (wX1 cI cZ cQ rN SN) [(0, .ref (rN 0)), (1, .int x1), (2, .int u_4), (3, .int (nI j_4))] 4 [] := by
    intro k_4
    induction k_4 with
    | zero =>
      intro j_4 u_4 hj hi hf
      have hjB : j_4 = 125 := by omega
      subst hjB
      exact absurd (cl_le hF (n := 124) rfl (by decide)) (by omega)
    | succ k_4 ih =>
      intro j_4 u_4 hj hi hf
      have hjB : j_4 < 125 := by omega
      have hf0 := cl_le hF (n := 124) rfl (by decide)
      refine ww_iload_n (pc := 4) X dX1_greatestPart_4 3 rfl rfl ?_
      refine ww_aload_n (pc := 5) X dX1_greatestPart_5 0 rfl rfl ?_
      refine ww_get (pc := 6) (ci := 1) (v := .int (SN.1 2)) (C := RX1) (T := TX1) (N := 9) X inX1_greatestPart_1 0 rfl rfl 7 (by decide) (by decide +kernel) rfl dX1_greatestPart_6 ?_
      refine ww_iload_n (pc := 9) X dX1_greatestPart_9 2 rfl rfl ?_
      refine ww_isub (pc := 10) X dX1_greatestPart_10 ?_
      refine ww_icmp_ge (pc := 11) (tgt := 31) X dX1_greatestPart_11 (by decide) (fun c3 => ?_) (fun c3 => ?_)
      · refine ww_iload_n (pc := 31) X dX1_greatestPart_31 2 rfl rfl ?_
        exact ww_iret X hr rfl (Eq.symm (by rw [hf]; show lb_X1_greatestPart_4 SN x1 (lp_X1_greatestPart_4 SN x1 k_4) j_4 u_4 = _; unfold lb_X1_greatestPart_4; try rw [if_pos c3]; first | done | rfl)) rfl dX1_greatestPart_32
      · refine ww_iload_n (pc := 14) X dX1_greatestPart_14 2 rfl rfl ?_
        refine ww_aload_n (pc := 15) X dX1_greatestPart_15 0 rfl rfl ?_
        refine ww_iload_n (pc := 16) X dX1_greatestPart_16 1 rfl rfl ?_
        refine ww_iload_n (pc := 17) X dX1_greatestPart_17 3 rfl rfl ?_
        refine ww_cVi (pc := 18) (rest := [.int u_4]) (wsN := wX1 cI cZ cQ rN SN) (ci := 1) (q0 := 0) X (c_X1_alikeFrom l D cI cZ cQ rN SN x1 j_4 (gp_lt h0 hF hi c3) (by assumption)) gX1_greatestPart_X1_alikeFrom rfl hd_X1_alikeFrom [0, 1, 2, 3, 4, 5, 6, 7, 8, 9, 10, 11] rfl (by decide) rfl rfl rfl rfl rfl rfl ⟨rfl, rfl⟩ ⟨Nat.le_of_ble_eq_true rfl, Nat.le_of_ble_eq_true rfl⟩ (Nat.le_of_ble_eq_true rfl) ⟨Nat.zero_le _, Nat.zero_le _⟩ dX1_greatestPart_18 ?_
        refine ww_mmax (pc := 21) X (by decide +kernel) (by decide +kernel) (by decide +kernel) (by decide +kernel) (Nat.le_of_ble_eq_true rfl) (Nat.le_of_ble_eq_true rfl) (Nat.zero_le _) (Nat.zero_le _) dX1_greatestPart_21 ?_
        generalize hz4 : (if u_4 < (f_X1_alikeFrom SN x1 j_4) then (f_X1_alikeFrom SN x1 j_4) else u_4) = z4
        refine ww_istore_n (pc := 24) (lv' := [(2, .int z4), (0, .ref (rN 0)), (1, .int x1), (3, .int (nI j_4))]) X dX1_greatestPart_24 rfl (by decide) rfl ?_
        refine ww_iinc (pc := 25) (v := (nI j_4) + 1) (lv' := [(3, .int ((nI j_4) + 1)), (2, .int z4), (0, .ref (rN 0)), (1, .int x1)]) X dX1_greatestPart_25 3 rfl rfl (by decide) rfl ?_
        refine ww_goto (pc := 28) (tgt := 4) X dX1_greatestPart_28 (by decide) ?_
        refine ww_lsub [2, 3, 1, 0] rfl ?_
        have h5 : f_X1_greatestPart SN x1 = lp_X1_greatestPart_4 SN x1 k_4 (j_4 + 1) z4 := by rw [hf]; show lb_X1_greatestPart_4 SN x1 (lp_X1_greatestPart_4 SN x1 k_4) j_4 u_4 = _; unfold lb_X1_greatestPart_4; try rw [if_neg c3, hz4]; try unfold lb_X1_greatestPart_4_k1; first | done | rfl
        exact ww_cast rfl (congrArg (fun (i9 : Int32) => ([(0, .ref (rN 0)), (1, .int x1), (2, .int z4), (3, .int i9)] : List (Nat × Value))) (nI_1 j_4).symm) (ih (j_4 + 1) z4 (by omega) (gp_step h0 hF hi c3 hz4) h5)
  refine ww_lsub [2, 3, 1, 0] rfl ?_
  exact L4 125 0 0 (by omega) ⟨Nat.zero_le _, 0, rfl, Nat.zero_le _⟩ (by unfold f_X1_greatestPart; first | done | rfl)
end
section
theorem inX3_copyTo_3 : ∀ w ∈ wsX30, w ∈ wsX3_copyTo := by decide +kernel
theorem hd_X3_copyTo : yX3_copyTo.cls = RX3 ∧ yX3_copyTo.cls ≠ "java/lang/invoke/MethodHandle" ∧ yX3_copyTo.cls ≠ "java/lang/invoke/VarHandle" ∧ (parseMethodDescriptor yX3_copyTo.desc).map (fun d => d.parameters.length) = some 1 := by decide +kernel
set_option maxHeartbeats 4000000 in
set_option maxRecDepth 100000 in
theorem c_X3_copyTo (l : Launch) (D : va_G) (cI cZ cQ : ClassId) (rF : Nat → Nat) (SF : St) (q : Nat) (f : Nat → Int32) : Cv l yX3_copyTo wsX3_copyTo { frames := 1, cells := 0, slots := 0, locals := 40 } D (tyL cI cZ cQ) [.ref (rF 0), .ref q] (wX3 cI cZ cQ rF SF ++ [(q, .inl (cI, 35, .inl f))]) (wX3 cI cZ cQ rF SF ++ [(q, .inl (cI, 35, .inl (cp35 (SF.2 0) f)))]) := by
  refine cv_of (cc := cX3_copyTo) (nL := 2) (lv0 := [(0, .ref (rF 0)), (1, .ref q)]) (by decide) rfl (Nat.le_of_ble_eq_true rfl) rfl ?_
  intro p e s m args below meth c A X hr
  refine ww_aload_n (pc := 0) X dX3_copyTo_0 0 rfl rfl ?_
  refine ww_get (pc := 1) (ci := 3) (v := .ref (rF 1)) (C := RX3) (T := TX3) (N := 1) X inX3_copyTo_3 0 rfl rfl 0 (by decide) (by decide +kernel) rfl dX3_copyTo_1 ?_
  refine ww_iconst (pc := 4) (v := 0) X dX3_copyTo_4 (by decide) ?_
  refine ww_aload_n (pc := 5) X dX3_copyTo_5 1 rfl rfl ?_
  refine ww_iconst (pc := 6) (v := 0) X dX3_copyTo_6 (by decide) ?_
  refine ww_bipush (pc := 7) (v := 35) X dX3_copyTo_7 (by decide) ?_
  refine ww_aload_n (pc := 9) X dX3_copyTo_9 1 rfl rfl ?_
  refine ww_alen (pc := 10) (v := 35) X 2 0 rfl rfl rfl dX3_copyTo_10 ?_
  refine ww_mmin (pc := 11) X (by decide +kernel) (by decide +kernel) (by decide +kernel) (by decide +kernel) (Nat.le_of_ble_eq_true rfl) (Nat.le_of_ble_eq_true rfl) (Nat.zero_le _) (Nat.zero_le _) dX3_copyTo_11 ?_
  refine ww_copyi (pc := 14) (n := 35) (ws'' := wX3 cI cZ cQ rF SF ++ [(q, .inl (cI, 35, .inl (cp35 (SF.2 0) f)))]) X (by decide +kernel) (by decide +kernel) (by decide +kernel) (by decide +kernel) 1 2 0 0 rfl rfl rfl rfl (by decide) (by decide) (by decide) (by decide) (by decide) (Nat.le_of_ble_eq_true rfl) (Nat.le_of_ble_eq_true rfl) rfl dX3_copyTo_14 ?_
  exact ww_vret X hr rfl dX3_copyTo_17
theorem inX3_copyFrom_3 : ∀ w ∈ wsX30, w ∈ wsX3_copyFrom := by decide +kernel
theorem hd_X3_copyFrom : yX3_copyFrom.cls = RX3 ∧ yX3_copyFrom.cls ≠ "java/lang/invoke/MethodHandle" ∧ yX3_copyFrom.cls ≠ "java/lang/invoke/VarHandle" ∧ (parseMethodDescriptor yX3_copyFrom.desc).map (fun d => d.parameters.length) = some 1 := by decide +kernel
set_option maxHeartbeats 4000000 in
set_option maxRecDepth 100000 in
theorem c_X3_copyFrom (l : Launch) (D : va_G) (cI cZ cQ : ClassId) (rF : Nat → Nat) (SF : St) (q : Nat) (f : Nat → Int32) : Cv l yX3_copyFrom wsX3_copyFrom { frames := 1, cells := 0, slots := 0, locals := 40 } D (tyL cI cZ cQ) [.ref (rF 0), .ref q] (wX3 cI cZ cQ rF SF ++ [(q, .inl (cI, 35, .inl f))]) (wX3 cI cZ cQ rF (sA SF 0 (cp35 f (SF.2 0))) ++ [(q, .inl (cI, 35, .inl f))]) := by
  refine cv_of (cc := cX3_copyFrom) (nL := 2) (lv0 := [(0, .ref (rF 0)), (1, .ref q)]) (by decide) rfl (Nat.le_of_ble_eq_true rfl) rfl ?_
  intro p e s m args below meth c A X hr
  refine ww_aload_n (pc := 0) X dX3_copyFrom_0 1 rfl rfl ?_
  refine ww_iconst (pc := 1) (v := 0) X dX3_copyFrom_1 (by decide) ?_
  refine ww_aload_n (pc := 2) X dX3_copyFrom_2 0 rfl rfl ?_
  refine ww_get (pc := 3) (ci := 3) (v := .ref (rF 1)) (C := RX3) (T := TX3) (N := 1) X inX3_copyFrom_3 0 rfl rfl 0 (by decide) (by decide +kernel) rfl dX3_copyFrom_3 ?_
  refine ww_iconst (pc := 6) (v := 0) X dX3_copyFrom_6 (by decide) ?_
  refine ww_bipush (pc := 7) (v := 35) X dX3_copyFrom_7 (by decide) ?_
  refine ww_aload_n (pc := 9) X dX3_copyFrom_9 1 rfl rfl ?_
  refine ww_alen (pc := 10) (v := 35) X 2 0 rfl rfl rfl dX3_copyFrom_10 ?_
  refine ww_mmin (pc := 11) X (by decide +kernel) (by decide +kernel) (by decide +kernel) (by decide +kernel) (Nat.le_of_ble_eq_true rfl) (Nat.le_of_ble_eq_true rfl) (Nat.zero_le _) (Nat.zero_le _) dX3_copyFrom_11 ?_
  refine ww_copyi (pc := 14) (n := 35) (ws'' := wX3 cI cZ cQ rF (sA SF 0 (cp35 f (SF.2 0))) ++ [(q, .inl (cI, 35, .inl f))]) X (by decide +kernel) (by decide +kernel) (by decide +kernel) (by decide +kernel) 2 1 0 0 rfl rfl rfl rfl (by decide) (by decide) (by decide) (by decide) (by decide) (Nat.le_of_ble_eq_true rfl) (Nat.le_of_ble_eq_true rfl) rfl dX3_copyFrom_14 ?_
  exact ww_vret X hr rfl dX3_copyFrom_17
def f_X4_remember (SF : St) (SP : St) : St :=
  (sI (sI (sA SP (0 + (SP.1 0 : Int32).toNatClampNeg) (cp35 (SF.2 0) (SP.2 (0 + (SP.1 0 : Int32).toNatClampNeg)))) 0 ((((sA SP (0 + (SP.1 0 : Int32).toNatClampNeg) (cp35 (SF.2 0) (SP.2 (0 + (SP.1 0 : Int32).toNatClampNeg)))).1 0) + 1) - (((sA SP (0 + (SP.1 0 : Int32).toNatClampNeg) (cp35 (SF.2 0) (SP.2 (0 + (SP.1 0 : Int32).toNatClampNeg)))).1 0) + 1) / 20 * 20)) 1 (if 20 < (((sA SP (0 + (SP.1 0 : Int32).toNatClampNeg) (cp35 (SF.2 0) (SP.2 (0 + (SP.1 0 : Int32).toNatClampNeg)))).1 1) + 1) then 20 else (((sA SP (0 + (SP.1 0 : Int32).toNatClampNeg) (cp35 (SF.2 0) (SP.2 (0 + (SP.1 0 : Int32).toNatClampNeg)))).1 1) + 1)))
theorem inX4_remember_4 : ∀ w ∈ wsX40, w ∈ wsX4_remember := by decide +kernel
theorem hd_X4_remember : yX4_remember.cls = RX4 ∧ yX4_remember.cls ≠ "java/lang/invoke/MethodHandle" ∧ yX4_remember.cls ≠ "java/lang/invoke/VarHandle" ∧ (parseMethodDescriptor yX4_remember.desc).map (fun d => d.parameters.length) = some 1 := by decide +kernel
set_option maxHeartbeats 4000000 in
set_option maxRecDepth 100000 in
theorem c_X4_remember (l : Launch) (D : va_G) (cI cZ cQ : ClassId) (rF : Nat → Nat) (rP : Nat → Nat) (SF : St) (SP : St) (okP : vp_in (SP.1 0) 20) : Cv l yX4_remember wsX4_remember { frames := 2, cells := 0, slots := 0, locals := 61 } D (tyL cI cZ cQ) [.ref (rP 0), .ref (rF 0)] (wX3 cI cZ cQ rF SF ++ wX4 cI cZ cQ rP SP) (wX3 cI cZ cQ rF SF ++ wX4 cI cZ cQ rP (f_X4_remember SF SP)) := by
  refine cv_of (cc := cX4_remember) (nL := 2) (lv0 := [(0, .ref (rP 0)), (1, .ref (rF 0))]) (by decide) rfl (Nat.le_of_ble_eq_true rfl) rfl ?_
  intro p e s m args below meth c A X hr
  refine ww_aload_n (pc := 0) X dX4_remember_0 1 rfl rfl ?_
  refine ww_aload_n (pc := 1) X dX4_remember_1 0 rfl rfl ?_
  refine ww_get (pc := 2) (ci := 4) (v := .ref (rP 1)) (C := RX4) (T := TX4) (N := 3) X inX4_remember_4 2 rfl rfl 0 (by decide) (by decide +kernel) rfl dX4_remember_2 ?_
  refine ww_aload_n (pc := 5) X dX4_remember_5 0 rfl rfl ?_
  refine ww_get (pc := 6) (ci := 4) (v := .int (SP.1 0)) (C := RX4) (T := TX4) (N := 3) X inX4_remember_4 2 rfl rfl 1 (by decide) (by decide +kernel) rfl dX4_remember_6 ?_
  have hb1 := clb okP
  refine ww_aald (pc := 9) (q := rP (2 + (SP.1 0 : Int32).toNatClampNeg)) X 3 2 rfl rfl (vn (m := (SP.1 0 : Int32).toNatClampNeg) (cl_of okP) (by omega) (by decide)) (aq (k := (SP.1 0 : Int32).toNatClampNeg) (cl_of okP) (by omega)) dX4_remember_9 ?_
  refine ww_cVv (rest := []) (wsN := wX3 cI cZ cQ rF SF ++ wX4 cI cZ cQ rP (sA SP (0 + (SP.1 0 : Int32).toNatClampNeg) (cp35 (SF.2 0) (SP.2 (0 + (SP.1 0 : Int32).toNatClampNeg))))) (ci := 3) (q0 := 0) X (c_X3_copyTo l D cI cZ cQ rF SF (rP (2 + (SP.1 0 : Int32).toNatClampNeg)) (SP.2 (0 + (SP.1 0 : Int32).toNatClampNeg))) gX4_remember_X3_copyTo rfl hd_X3_copyTo [0, 1, 4 + (SP.1 0 : Int32).toNatClampNeg] (c20_ (P := fun k9 => ([0, 1, 4 + k9]).map (fun i => (wX3 cI cZ cQ rF SF ++ wX4 cI cZ cQ rP SP : va_W)[i]?) = (wX3 cI cZ cQ rF SF ++ [(rP (2 + k9), .inl (cI, 35, .inl (SP.2 (0 + k9))))] : va_W).map some) rfl rfl rfl rfl rfl rfl rfl rfl rfl rfl rfl rfl rfl rfl rfl rfl rfl rfl rfl rfl (by omega)) (c20_ (P := fun k9 => va_nd [0, 1, 4 + k9] = true) rfl rfl rfl rfl rfl rfl rfl rfl rfl rfl rfl rfl rfl rfl rfl rfl rfl rfl rfl rfl (by omega)) rfl (c20_ (P := fun k9 => wput (wX3 cI cZ cQ rF SF ++ wX4 cI cZ cQ rP SP) [0, 1, 4 + k9] (wX3 cI cZ cQ rF SF ++ [(rP (2 + k9), .inl (cI, 35, .inl (cp35 (SF.2 0) (SP.2 (0 + k9)))))]) = wX3 cI cZ cQ rF SF ++ wX4 cI cZ cQ rP (sA SP (0 + k9) (cp35 (SF.2 0) (SP.2 (0 + k9))))) rfl rfl rfl rfl rfl rfl rfl rfl rfl rfl rfl rfl rfl rfl rfl rfl rfl rfl rfl rfl (by omega)) rfl rfl rfl rfl ⟨rfl, rfl⟩ ⟨Nat.le_of_ble_eq_true rfl, Nat.le_of_ble_eq_true rfl⟩ (Nat.le_of_ble_eq_true rfl) ⟨Nat.zero_le _, Nat.zero_le _⟩ dX4_remember_10 ?_
  refine ww_aload_n (pc := 13) X dX4_remember_13 0 rfl rfl ?_
  refine ww_aload_n (pc := 14) X dX4_remember_14 0 rfl rfl ?_
  refine ww_get (pc := 15) (ci := 4) (v := .int ((sA SP (0 + (SP.1 0 : Int32).toNatClampNeg) (cp35 (SF.2 0) (SP.2 (0 + (SP.1 0 : Int32).toNatClampNeg)))).1 0)) (C := RX4) (T := TX4) (N := 3) X inX4_remember_4 2 rfl rfl 1 (by decide) (by decide +kernel) rfl dX4_remember_15 ?_
  refine ww_iconst (pc := 18) (v := 1) X dX4_remember_18 (by decide) ?_
  refine ww_iadd (pc := 19) X dX4_remember_19 ?_
  refine ww_bipush (pc := 20) (v := 20) X dX4_remember_20 (by decide) ?_
  refine ww_irem (pc := 22) X dX4_remember_22 (by decide) ?_
  refine ww_put (pc := 23) (ci := 4) (v := .int ((((sA SP (0 + (SP.1 0 : Int32).toNatClampNeg) (cp35 (SF.2 0) (SP.2 (0 + (SP.1 0 : Int32).toNatClampNeg)))).1 0) + 1) - (((sA SP (0 + (SP.1 0 : Int32).toNatClampNeg) (cp35 (SF.2 0) (SP.2 (0 + (SP.1 0 : Int32).toNatClampNeg)))).1 0) + 1) / 20 * 20)) (C := RX4) (T := TX4) (N := 3) (ws' := wX3 cI cZ cQ rF SF ++ wX4 cI cZ cQ rP (sI (sA SP (0 + (SP.1 0 : Int32).toNatClampNeg) (cp35 (SF.2 0) (SP.2 (0 + (SP.1 0 : Int32).toNatClampNeg)))) 0 ((((sA SP (0 + (SP.1 0 : Int32).toNatClampNeg) (cp35 (SF.2 0) (SP.2 (0 + (SP.1 0 : Int32).toNatClampNeg)))).1 0) + 1) - (((sA SP (0 + (SP.1 0 : Int32).toNatClampNeg) (cp35 (SF.2 0) (SP.2 (0 + (SP.1 0 : Int32).toNatClampNeg)))).1 0) + 1) / 20 * 20))) X inX4_remember_4 tyX4 tyX4_ok nmX4 2 rfl rfl 1 (by decide) (by decide +kernel) rfl rfl rfl (Nat.le_of_ble_eq_true rfl) rfl dX4_remember_23 ?_
  refine ww_aload_n (pc := 26) X dX4_remember_26 0 rfl rfl ?_
  refine ww_aload_n (pc := 27) X dX4_remember_27 0 rfl rfl ?_
  refine ww_get (pc := 28) (ci := 4) (v := .int ((sA SP (0 + (SP.1 0 : Int32).toNatClampNeg) (cp35 (SF.2 0) (SP.2 (0 + (SP.1 0 : Int32).toNatClampNeg)))).1 1)) (C := RX4) (T := TX4) (N := 3) X inX4_remember_4 2 rfl rfl 2 (by decide) (by decide +kernel) rfl dX4_remember_28 ?_
  refine ww_iconst (pc := 31) (v := 1) X dX4_remember_31 (by decide) ?_
  refine ww_iadd (pc := 32) X dX4_remember_32 ?_
  refine ww_bipush (pc := 33) (v := 20) X dX4_remember_33 (by decide) ?_
  refine ww_mmin (pc := 35) X (by decide +kernel) (by decide +kernel) (by decide +kernel) (by decide +kernel) (Nat.le_of_ble_eq_true rfl) (Nat.le_of_ble_eq_true rfl) (Nat.zero_le _) (Nat.zero_le _) dX4_remember_35 ?_
  refine ww_put (pc := 38) (ci := 4) (v := .int (if 20 < (((sA SP (0 + (SP.1 0 : Int32).toNatClampNeg) (cp35 (SF.2 0) (SP.2 (0 + (SP.1 0 : Int32).toNatClampNeg)))).1 1) + 1) then 20 else (((sA SP (0 + (SP.1 0 : Int32).toNatClampNeg) (cp35 (SF.2 0) (SP.2 (0 + (SP.1 0 : Int32).toNatClampNeg)))).1 1) + 1))) (C := RX4) (T := TX4) (N := 3) (ws' := wX3 cI cZ cQ rF SF ++ wX4 cI cZ cQ rP (sI (sI (sA SP (0 + (SP.1 0 : Int32).toNatClampNeg) (cp35 (SF.2 0) (SP.2 (0 + (SP.1 0 : Int32).toNatClampNeg)))) 0 ((((sA SP (0 + (SP.1 0 : Int32).toNatClampNeg) (cp35 (SF.2 0) (SP.2 (0 + (SP.1 0 : Int32).toNatClampNeg)))).1 0) + 1) - (((sA SP (0 + (SP.1 0 : Int32).toNatClampNeg) (cp35 (SF.2 0) (SP.2 (0 + (SP.1 0 : Int32).toNatClampNeg)))).1 0) + 1) / 20 * 20)) 1 (if 20 < (((sA SP (0 + (SP.1 0 : Int32).toNatClampNeg) (cp35 (SF.2 0) (SP.2 (0 + (SP.1 0 : Int32).toNatClampNeg)))).1 1) + 1) then 20 else (((sA SP (0 + (SP.1 0 : Int32).toNatClampNeg) (cp35 (SF.2 0) (SP.2 (0 + (SP.1 0 : Int32).toNatClampNeg)))).1 1) + 1)))) X inX4_remember_4 tyX4 tyX4_ok nmX4 2 rfl rfl 2 (by decide) (by decide +kernel) rfl rfl rfl (Nat.le_of_ble_eq_true rfl) rfl dX4_remember_38 ?_
  have h2 : f_X4_remember SF SP = (sI (sI (sA SP (0 + (SP.1 0 : Int32).toNatClampNeg) (cp35 (SF.2 0) (SP.2 (0 + (SP.1 0 : Int32).toNatClampNeg)))) 0 ((((sA SP (0 + (SP.1 0 : Int32).toNatClampNeg) (cp35 (SF.2 0) (SP.2 (0 + (SP.1 0 : Int32).toNatClampNeg)))).1 0) + 1) - (((sA SP (0 + (SP.1 0 : Int32).toNatClampNeg) (cp35 (SF.2 0) (SP.2 (0 + (SP.1 0 : Int32).toNatClampNeg)))).1 0) + 1) / 20 * 20)) 1 (if 20 < (((sA SP (0 + (SP.1 0 : Int32).toNatClampNeg) (cp35 (SF.2 0) (SP.2 (0 + (SP.1 0 : Int32).toNatClampNeg)))).1 1) + 1) then 20 else (((sA SP (0 + (SP.1 0 : Int32).toNatClampNeg) (cp35 (SF.2 0) (SP.2 (0 + (SP.1 0 : Int32).toNatClampNeg)))).1 1) + 1))) := by unfold f_X4_remember; first | done | rfl
  exact ww_vret X hr (congrArg (fun u9 : St => wX3 cI cZ cQ rF SF ++ wX4 cI cZ cQ rP u9) h2.symm) dX4_remember_41
def f_X4_bringBack (SF : St) (SP : St) : St × St :=
  if (SP.1 1) ≤ 0 then
    (SF, SP)
  else
    ((sA SF 0 (cp35 ((sI (sI SP 0 ((((SP.1 0) + 20) - 1) - (((SP.1 0) + 20) - 1) / 20 * 20)) 1 ((SP.1 1) - 1)).2 (0 + ((((SP.1 0) + 20) - 1) - (((SP.1 0) + 20) - 1) / 20 * 20 : Int32).toNatClampNeg)) (SF.2 0))), (sI (sI SP 0 ((((SP.1 0) + 20) - 1) - (((SP.1 0) + 20) - 1) / 20 * 20)) 1 ((SP.1 1) - 1)))
theorem inX4_bringBack_4 : ∀ w ∈ wsX40, w ∈ wsX4_bringBack := by decide +kernel
theorem hd_X4_bringBack : yX4_bringBack.cls = RX4 ∧ yX4_bringBack.cls ≠ "java/lang/invoke/MethodHandle" ∧ yX4_bringBack.cls ≠ "java/lang/invoke/VarHandle" ∧ (parseMethodDescriptor yX4_bringBack.desc).map (fun d => d.parameters.length) = some 1 := by decide +kernel
set_option maxHeartbeats 4000000 in
set_option maxRecDepth 100000 in
theorem c_X4_bringBack (l : Launch) (D : va_G) (cI cZ cQ : ClassId) (rF : Nat → Nat) (rP : Nat → Nat) (SF : St) (SP : St) (okP : vp_in (SP.1 0) 20) : Cv l yX4_bringBack wsX4_bringBack { frames := 2, cells := 0, slots := 0, locals := 61 } D (tyL cI cZ cQ) [.ref (rP 0), .ref (rF 0)] (wX3 cI cZ cQ rF SF ++ wX4 cI cZ cQ rP SP) (wX3 cI cZ cQ rF ((f_X4_bringBack SF SP).1) ++ wX4 cI cZ cQ rP ((f_X4_bringBack SF SP).2)) := by
  refine cv_of (cc := cX4_bringBack) (nL := 2) (lv0 := [(0, .ref (rP 0)), (1, .ref (rF 0))]) (by decide) rfl (Nat.le_of_ble_eq_true rfl) rfl ?_
  intro p e s m args below meth c A X hr
  refine ww_aload_n (pc := 0) X dX4_bringBack_0 0 rfl rfl ?_
  refine ww_get (pc := 1) (ci := 4) (v := .int (SP.1 1)) (C := RX4) (T := TX4) (N := 3) X inX4_bringBack_4 2 rfl rfl 2 (by decide) (by decide +kernel) rfl dX4_bringBack_1 ?_
  refine ww_if_le (pc := 4) (tgt := 46) X dX4_bringBack_4 (by decide) (fun c1 => ?_) (fun c1 => ?_)
  · have h2 : f_X4_bringBack SF SP = (SF, SP) := by unfold f_X4_bringBack; try rw [if_pos c1]; first | done | rfl
    exact ww_vret X hr (congrArg (fun u9 : St × St => wX3 cI cZ cQ rF u9.1 ++ wX4 cI cZ cQ rP u9.2) h2.symm) dX4_bringBack_46
  · refine ww_aload_n (pc := 7) X dX4_bringBack_7 0 rfl rfl ?_
    refine ww_aload_n (pc := 8) X dX4_bringBack_8 0 rfl rfl ?_
    refine ww_get (pc := 9) (ci := 4) (v := .int (SP.1 0)) (C := RX4) (T := TX4) (N := 3) X inX4_bringBack_4 2 rfl rfl 1 (by decide) (by decide +kernel) rfl dX4_bringBack_9 ?_
    refine ww_bipush (pc := 12) (v := 20) X dX4_bringBack_12 (by decide) ?_
    refine ww_iadd (pc := 14) X dX4_bringBack_14 ?_
    refine ww_iconst (pc := 15) (v := 1) X dX4_bringBack_15 (by decide) ?_
    refine ww_isub (pc := 16) X dX4_bringBack_16 ?_
    refine ww_bipush (pc := 17) (v := 20) X dX4_bringBack_17 (by decide) ?_
    refine ww_irem (pc := 19) X dX4_bringBack_19 (by decide) ?_
    refine ww_put (pc := 20) (ci := 4) (v := .int ((((SP.1 0) + 20) - 1) - (((SP.1 0) + 20) - 1) / 20 * 20)) (C := RX4) (T := TX4) (N := 3) (ws' := wX3 cI cZ cQ rF SF ++ wX4 cI cZ cQ rP (sI SP 0 ((((SP.1 0) + 20) - 1) - (((SP.1 0) + 20) - 1) / 20 * 20))) X inX4_bringBack_4 tyX4 tyX4_ok nmX4 2 rfl rfl 1 (by decide) (by decide +kernel) rfl rfl rfl (Nat.le_of_ble_eq_true rfl) rfl dX4_bringBack_20 ?_
    refine ww_aload_n (pc := 23) X dX4_bringBack_23 0 rfl rfl ?_
    refine ww_dup (pc := 24) X dX4_bringBack_24 rfl ?_
    refine ww_get (pc := 25) (ci := 4) (v := .int (SP.1 1)) (C := RX4) (T := TX4) (N := 3) X inX4_bringBack_4 2 rfl rfl 2 (by decide) (by decide +kernel) rfl dX4_bringBack_25 ?_
    refine ww_iconst (pc := 28) (v := 1) X dX4_bringBack_28 (by decide) ?_
    refine ww_isub (pc := 29) X dX4_bringBack_29 ?_
    refine ww_put (pc := 30) (ci := 4) (v := .int ((SP.1 1) - 1)) (C := RX4) (T := TX4) (N := 3) (ws' := wX3 cI cZ cQ rF SF ++ wX4 cI cZ cQ rP (sI (sI SP 0 ((((SP.1 0) + 20) - 1) - (((SP.1 0) + 20) - 1) / 20 * 20)) 1 ((SP.1 1) - 1))) X inX4_bringBack_4 tyX4 tyX4_ok nmX4 2 rfl rfl 2 (by decide) (by decide +kernel) rfl rfl rfl (Nat.le_of_ble_eq_true rfl) rfl dX4_bringBack_30 ?_
    refine ww_aload_n (pc := 33) X dX4_bringBack_33 1 rfl rfl ?_
    refine ww_aload_n (pc := 34) X dX4_bringBack_34 0 rfl rfl ?_
    refine ww_get (pc := 35) (ci := 4) (v := .ref (rP 1)) (C := RX4) (T := TX4) (N := 3) X inX4_bringBack_4 2 rfl rfl 0 (by decide) (by decide +kernel) rfl dX4_bringBack_35 ?_
    refine ww_aload_n (pc := 38) X dX4_bringBack_38 0 rfl rfl ?_
    refine ww_get (pc := 39) (ci := 4) (v := .int ((((SP.1 0) + 20) - 1) - (((SP.1 0) + 20) - 1) / 20 * 20)) (C := RX4) (T := TX4) (N := 3) X inX4_bringBack_4 2 rfl rfl 1 (by decide) (by decide +kernel) rfl dX4_bringBack_39 ?_
    have hb3 := clb (pb_in okP)
    refine ww_aald (pc := 42) (q := rP (2 + ((((SP.1 0) + 20) - 1) - (((SP.1 0) + 20) - 1) / 20 * 20 : Int32).toNatClampNeg)) X 3 2 rfl rfl (vn (m := ((((SP.1 0) + 20) - 1) - (((SP.1 0) + 20) - 1) / 20 * 20 : Int32).toNatClampNeg) (cl_of (pb_in okP)) (by omega) (by decide)) (aq (k := ((((SP.1 0) + 20) - 1) - (((SP.1 0) + 20) - 1) / 20 * 20 : Int32).toNatClampNeg) (cl_of (pb_in okP)) (by omega)) dX4_bringBack_42 ?_
    refine ww_cVv (rest := []) (wsN := wX3 cI cZ cQ rF (sA SF 0 (cp35 ((sI (sI SP 0 ((((SP.1 0) + 20) - 1) - (((SP.1 0) + 20) - 1) / 20 * 20)) 1 ((SP.1 1) - 1)).2 (0 + ((((SP.1 0) + 20) - 1) - (((SP.1 0) + 20) - 1) / 20 * 20 : Int32).toNatClampNeg)) (SF.2 0))) ++ wX4 cI cZ cQ rP (sI (sI SP 0 ((((SP.1 0) + 20) - 1) - (((SP.1 0) + 20) - 1) / 20 * 20)) 1 ((SP.1 1) - 1))) (ci := 3) (q0 := 0) X (c_X3_copyFrom l D cI cZ cQ rF SF (rP (2 + ((((SP.1 0) + 20) - 1) - (((SP.1 0) + 20) - 1) / 20 * 20 : Int32).toNatClampNeg)) ((sI (sI SP 0 ((((SP.1 0) + 20) - 1) - (((SP.1 0) + 20) - 1) / 20 * 20)) 1 ((SP.1 1) - 1)).2 (0 + ((((SP.1 0) + 20) - 1) - (((SP.1 0) + 20) - 1) / 20 * 20 : Int32).toNatClampNeg))) gX4_bringBack_X3_copyFrom rfl hd_X3_copyFrom [0, 1, 4 + ((((SP.1 0) + 20) - 1) - (((SP.1 0) + 20) - 1) / 20 * 20 : Int32).toNatClampNeg] (c20_ (P := fun k9 => ([0, 1, 4 + k9]).map (fun i => (wX3 cI cZ cQ rF SF ++ wX4 cI cZ cQ rP (sI (sI SP 0 ((((SP.1 0) + 20) - 1) - (((SP.1 0) + 20) - 1) / 20 * 20)) 1 ((SP.1 1) - 1)) : va_W)[i]?) = (wX3 cI cZ cQ rF SF ++ [(rP (2 + k9), .inl (cI, 35, .inl ((sI (sI SP 0 ((((SP.1 0) + 20) - 1) - (((SP.1 0) + 20) - 1) / 20 * 20)) 1 ((SP.1 1) - 1)).2 (0 + k9))))] : va_W).map some) rfl rfl rfl rfl rfl rfl rfl rfl rfl rfl rfl rfl rfl rfl rfl rfl rfl rfl rfl rfl (by omega)) (c20_ (P := fun k9 => va_nd [0, 1, 4 + k9] = true) rfl rfl rfl rfl rfl rfl rfl rfl rfl rfl rfl rfl rfl rfl rfl rfl rfl rfl rfl rfl (by omega)) rfl (c20_ (P := fun k9 => wput (wX3 cI cZ cQ rF SF ++ wX4 cI cZ cQ rP (sI (sI SP 0 ((((SP.1 0) + 20) - 1) - (((SP.1 0) + 20) - 1) / 20 * 20)) 1 ((SP.1 1) - 1))) [0, 1, 4 + k9] (wX3 cI cZ cQ rF (sA SF 0 (cp35 ((sI (sI SP 0 ((((SP.1 0) + 20) - 1) - (((SP.1 0) + 20) - 1) / 20 * 20)) 1 ((SP.1 1) - 1)).2 (0 + k9)) (SF.2 0))) ++ [(rP (2 + k9), .inl (cI, 35, .inl ((sI (sI SP 0 ((((SP.1 0) + 20) - 1) - (((SP.1 0) + 20) - 1) / 20 * 20)) 1 ((SP.1 1) - 1)).2 (0 + k9))))]) = wX3 cI cZ cQ rF (sA SF 0 (cp35 ((sI (sI SP 0 ((((SP.1 0) + 20) - 1) - (((SP.1 0) + 20) - 1) / 20 * 20)) 1 ((SP.1 1) - 1)).2 (0 + k9)) (SF.2 0))) ++ wX4 cI cZ cQ rP (sI (sI SP 0 ((((SP.1 0) + 20) - 1) - (((SP.1 0) + 20) - 1) / 20 * 20)) 1 ((SP.1 1) - 1))) rfl rfl rfl rfl rfl rfl rfl rfl rfl rfl rfl rfl rfl rfl rfl rfl rfl rfl rfl rfl (by omega)) rfl rfl rfl rfl ⟨rfl, rfl⟩ ⟨Nat.le_of_ble_eq_true rfl, Nat.le_of_ble_eq_true rfl⟩ (Nat.le_of_ble_eq_true rfl) ⟨Nat.zero_le _, Nat.zero_le _⟩ dX4_bringBack_43 ?_
    have h4 : f_X4_bringBack SF SP = ((sA SF 0 (cp35 ((sI (sI SP 0 ((((SP.1 0) + 20) - 1) - (((SP.1 0) + 20) - 1) / 20 * 20)) 1 ((SP.1 1) - 1)).2 (0 + ((((SP.1 0) + 20) - 1) - (((SP.1 0) + 20) - 1) / 20 * 20 : Int32).toNatClampNeg)) (SF.2 0))), (sI (sI SP 0 ((((SP.1 0) + 20) - 1) - (((SP.1 0) + 20) - 1) / 20 * 20)) 1 ((SP.1 1) - 1))) := by unfold f_X4_bringBack; try rw [if_neg c1]; first | done | rfl
    exact ww_vret X hr (congrArg (fun u9 : St × St => wX3 cI cZ cQ rF u9.1 ++ wX4 cI cZ cQ rP u9.2) h4.symm) dX4_bringBack_46
def f_X2_put (SF : St) (SI : St) (x1 : Int32) (x3 : Int32) : St :=
  if (f_X2_hasPlace SI x1) = 0 then
    SI
  else
    (sA (sA (sA SI (2 + (x1 : Int32).toNatClampNeg) (cp35 (SF.2 0) (SI.2 (2 + (x1 : Int32).toNatClampNeg)))) 0 (upd ((sA SI (2 + (x1 : Int32).toNatClampNeg) (cp35 (SF.2 0) (SI.2 (2 + (x1 : Int32).toNatClampNeg)))).2 0) ((x1 : Int32)).toNatClampNeg x3)) 1 (upd ((sA SI (2 + (x1 : Int32).toNatClampNeg) (cp35 (SF.2 0) (SI.2 (2 + (x1 : Int32).toNatClampNeg)))).2 1) ((x1 : Int32)).toNatClampNeg 1))
theorem inX2_put_2 : ∀ w ∈ wsX20, w ∈ wsX2_put := by decide +kernel
theorem hd_X2_put : yX2_put.cls = RX2 ∧ yX2_put.cls ≠ "java/lang/invoke/MethodHandle" ∧ yX2_put.cls ≠ "java/lang/invoke/VarHandle" ∧ (parseMethodDescriptor yX2_put.desc).map (fun d => d.parameters.length) = some 3 := by decide +kernel
set_option maxHeartbeats 4000000 in
set_option maxRecDepth 100000 in
theorem c_X2_put (l : Launch) (D : va_G) (cI cZ cQ : ClassId) (rF : Nat → Nat) (rI : Nat → Nat) (SF : St) (SI : St) (x1 : Int32) (x3 : Int32) : Cv l yX2_put wsX2_put { frames := 2, cells := 0, slots := 0, locals := 61 } D (tyL cI cZ cQ) [.ref (rI 0), .int x1, .ref (rF 0), .int x3] (wX3 cI cZ cQ rF SF ++ wX2 cI cZ cQ rI SI) (wX3 cI cZ cQ rF SF ++ wX2 cI cZ cQ rI (f_X2_put SF SI x1 x3)) := by
  refine cv_of (cc := cX2_put) (nL := 4) (lv0 := [(0, .ref (rI 0)), (1, .int x1), (2, .ref (rF 0)), (3, .int x3)]) (by decide) rfl (Nat.le_of_ble_eq_true rfl) rfl ?_
  intro p e s m args below meth c A X hr
  refine ww_aload_n (pc := 0) X dX2_put_0 0 rfl rfl ?_
  refine ww_iload_n (pc := 1) X dX2_put_1 1 rfl rfl ?_
  refine ww_cVi (pc := 2) (rest := []) (wsN := wX3 cI cZ cQ rF SF ++ wX2 cI cZ cQ rI SI) (ci := 2) (q0 := 0) X (c_X2_hasPlace l D cI cZ cQ rI SI x1) gX2_put_X2_hasPlace rfl hd_X2_hasPlace [2, 3, 4, 5, 6, 7] rfl (by decide) rfl rfl rfl rfl rfl rfl ⟨rfl, rfl⟩ ⟨Nat.le_of_ble_eq_true rfl, Nat.le_of_ble_eq_true rfl⟩ (Nat.le_of_ble_eq_true rfl) ⟨Nat.zero_le _, Nat.zero_le _⟩ dX2_put_2 ?_
  refine ww_if_eq (pc := 5) (tgt := 32) X dX2_put_5 (by decide) (fun c1 => ?_) (fun c1 => ?_)
  · have h2 : f_X2_put SF SI x1 x3 = SI := by unfold f_X2_put; try rw [if_pos c1]; first | done | rfl
    exact ww_vret X hr (congrArg (fun u9 : St => wX3 cI cZ cQ rF SF ++ wX2 cI cZ cQ rI u9) h2.symm) dX2_put_32
  · refine ww_aload_n (pc := 8) X dX2_put_8 2 rfl rfl ?_
    refine ww_aload_n (pc := 9) X dX2_put_9 0 rfl rfl ?_
    refine ww_get (pc := 10) (ci := 2) (v := .ref (rI 1)) (C := RX2) (T := TX2) (N := 3) X inX2_put_2 2 rfl rfl 0 (by decide) (by decide +kernel) rfl dX2_put_10 ?_
    refine ww_iload_n (pc := 13) X dX2_put_13 1 rfl rfl ?_
    have hb3 := clb (in_X2_hasPlace c1)
    refine ww_aald (pc := 14) (q := rI (4 + (x1 : Int32).toNatClampNeg)) X 3 2 rfl rfl (vn (m := (x1 : Int32).toNatClampNeg) (cl_of (in_X2_hasPlace c1)) (by omega) (by decide)) (aq (k := (x1 : Int32).toNatClampNeg) (cl_of (in_X2_hasPlace c1)) (by omega)) dX2_put_14 ?_
    refine ww_cVv (rest := []) (wsN := wX3 cI cZ cQ rF SF ++ wX2 cI cZ cQ rI (sA SI (2 + (x1 : Int32).toNatClampNeg) (cp35 (SF.2 0) (SI.2 (2 + (x1 : Int32).toNatClampNeg))))) (ci := 3) (q0 := 0) X (c_X3_copyTo l D cI cZ cQ rF SF (rI (4 + (x1 : Int32).toNatClampNeg)) (SI.2 (2 + (x1 : Int32).toNatClampNeg))) gX2_put_X3_copyTo rfl hd_X3_copyTo [0, 1, 6 + (x1 : Int32).toNatClampNeg] (c2_ (P := fun k9 => ([0, 1, 6 + k9]).map (fun i => (wX3 cI cZ cQ rF SF ++ wX2 cI cZ cQ rI SI : va_W)[i]?) = (wX3 cI cZ cQ rF SF ++ [(rI (4 + k9), .inl (cI, 35, .inl (SI.2 (2 + k9))))] : va_W).map some) rfl rfl (by omega)) (c2_ (P := fun k9 => va_nd [0, 1, 6 + k9] = true) rfl rfl (by omega)) rfl (c2_ (P := fun k9 => wput (wX3 cI cZ cQ rF SF ++ wX2 cI cZ cQ rI SI) [0, 1, 6 + k9] (wX3 cI cZ cQ rF SF ++ [(rI (4 + k9), .inl (cI, 35, .inl (cp35 (SF.2 0) (SI.2 (2 + k9)))))]) = wX3 cI cZ cQ rF SF ++ wX2 cI cZ cQ rI (sA SI (2 + k9) (cp35 (SF.2 0) (SI.2 (2 + k9))))) rfl rfl (by omega)) rfl rfl rfl rfl ⟨rfl, rfl⟩ ⟨Nat.le_of_ble_eq_true rfl, Nat.le_of_ble_eq_true rfl⟩ (Nat.le_of_ble_eq_true rfl) ⟨Nat.zero_le _, Nat.zero_le _⟩ dX2_put_15 ?_
    refine ww_aload_n (pc := 18) X dX2_put_18 0 rfl rfl ?_
    refine ww_get (pc := 19) (ci := 2) (v := .ref (rI 2)) (C := RX2) (T := TX2) (N := 3) X inX2_put_2 2 rfl rfl 1 (by decide) (by decide +kernel) rfl dX2_put_19 ?_
    refine ww_iload_n (pc := 22) X dX2_put_22 1 rfl rfl ?_
    refine ww_iload_n (pc := 23) X dX2_put_23 3 rfl rfl ?_
    refine ww_iast (pc := 24) (f := (sA SI (2 + (x1 : Int32).toNatClampNeg) (cp35 (SF.2 0) (SI.2 (2 + (x1 : Int32).toNatClampNeg)))).2 0) (ws' := wX3 cI cZ cQ rF SF ++ wX2 cI cZ cQ rI (sA (sA SI (2 + (x1 : Int32).toNatClampNeg) (cp35 (SF.2 0) (SI.2 (2 + (x1 : Int32).toNatClampNeg)))) 0 (upd ((sA SI (2 + (x1 : Int32).toNatClampNeg) (cp35 (SF.2 0) (SI.2 (2 + (x1 : Int32).toNatClampNeg)))).2 0) ((x1 : Int32)).toNatClampNeg x3))) X 4 0 rfl rfl (in_X2_hasPlace c1) rfl dX2_put_24 ?_
    refine ww_aload_n (pc := 25) X dX2_put_25 0 rfl rfl ?_
    refine ww_get (pc := 26) (ci := 2) (v := .ref (rI 3)) (C := RX2) (T := TX2) (N := 3) X inX2_put_2 2 rfl rfl 2 (by decide) (by decide +kernel) rfl dX2_put_26 ?_
    refine ww_iload_n (pc := 29) X dX2_put_29 1 rfl rfl ?_
    refine ww_iconst (pc := 30) (v := 1) X dX2_put_30 (by decide) ?_
    refine ww_zast (pc := 31) (f := (sA SI (2 + (x1 : Int32).toNatClampNeg) (cp35 (SF.2 0) (SI.2 (2 + (x1 : Int32).toNatClampNeg)))).2 1) (ws' := wX3 cI cZ cQ rF SF ++ wX2 cI cZ cQ rI (sA (sA (sA SI (2 + (x1 : Int32).toNatClampNeg) (cp35 (SF.2 0) (SI.2 (2 + (x1 : Int32).toNatClampNeg)))) 0 (upd ((sA SI (2 + (x1 : Int32).toNatClampNeg) (cp35 (SF.2 0) (SI.2 (2 + (x1 : Int32).toNatClampNeg)))).2 0) ((x1 : Int32)).toNatClampNeg x3)) 1 (upd ((sA SI (2 + (x1 : Int32).toNatClampNeg) (cp35 (SF.2 0) (SI.2 (2 + (x1 : Int32).toNatClampNeg)))).2 1) ((x1 : Int32)).toNatClampNeg 1))) X 5 1 rfl rfl (in_X2_hasPlace c1) rfl rfl dX2_put_31 ?_
    have h4 : f_X2_put SF SI x1 x3 = (sA (sA (sA SI (2 + (x1 : Int32).toNatClampNeg) (cp35 (SF.2 0) (SI.2 (2 + (x1 : Int32).toNatClampNeg)))) 0 (upd ((sA SI (2 + (x1 : Int32).toNatClampNeg) (cp35 (SF.2 0) (SI.2 (2 + (x1 : Int32).toNatClampNeg)))).2 0) ((x1 : Int32)).toNatClampNeg x3)) 1 (upd ((sA SI (2 + (x1 : Int32).toNatClampNeg) (cp35 (SF.2 0) (SI.2 (2 + (x1 : Int32).toNatClampNeg)))).2 1) ((x1 : Int32)).toNatClampNeg 1)) := by unfold f_X2_put; try rw [if_neg c1]; first | done | rfl
    exact ww_vret X hr (congrArg (fun u9 : St => wX3 cI cZ cQ rF SF ++ wX2 cI cZ cQ rI u9) h4.symm) dX2_put_32
end
