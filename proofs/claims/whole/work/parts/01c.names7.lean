set_option maxRecDepth 20000 in
theorem ggX7_init_X6_init : GoodIn wsX7_init wsX6_init := goodIn_r _ [34, 35, 2, 3, 36, 37, 38, 39, 80, 81, 82, 83, 84, 85] (by decide +kernel) (by decide +kernel)
set_option maxRecDepth 20000 in
theorem gX7_init_X6_init_n9 : GoodIn wsX7_init (wsX6_init) := ggX7_init_X6_init
set_option maxRecDepth 20000 in
theorem ggX7_init_X5_init : GoodIn wsX7_init wsX5_init := goodIn_r _ [41, 42, 2, 3, 36, 43, 44, 45, 46, 47, 48, 95, 96, 97, 98, 99, 100, 101, 102, 103, 104, 105] (by decide +kernel) (by decide +kernel)
set_option maxRecDepth 20000 in
theorem gX7_init_X5_init_n18 : GoodIn wsX7_init (wsX5_init) := ggX7_init_X5_init
set_option maxRecDepth 20000 in
theorem ggX7_init_X3_init : GoodIn wsX7_init wsX3_init := goodIn_r _ [50, 51, 2, 3, 36, 52, 106] (by decide +kernel) (by decide +kernel)
set_option maxRecDepth 20000 in
theorem gX7_init_X3_init_n28 : GoodIn wsX7_init (wsX3_init) := ggX7_init_X3_init
set_option maxRecDepth 20000 in
theorem ggX7_init_X4_init : GoodIn wsX7_init wsX4_init := goodIn_r _ [54, 55, 2, 3, 56, 36, 57, 107, 108, 109] (by decide +kernel) (by decide +kernel)
set_option maxRecDepth 20000 in
theorem gX7_init_X4_init_n35 : GoodIn wsX7_init (wsX4_init) := ggX7_init_X4_init
set_option maxRecDepth 20000 in
theorem ggX7_init_X2_init : GoodIn wsX7_init wsX2_init := goodIn_r _ [59, 60, 2, 3, 61, 36, 62, 63, 64, 65, 110, 111, 112] (by decide +kernel) (by decide +kernel)
set_option maxRecDepth 20000 in
theorem gX7_init_X2_init_n42 : GoodIn wsX7_init (wsX2_init) := ggX7_init_X2_init
set_option maxRecDepth 20000 in
theorem ggX7_init_X1_init : GoodIn wsX7_init wsX1_init := goodIn_r _ [67, 68, 2, 3, 36, 69, 70, 71, 72, 73, 74, 113, 114, 115, 116, 117, 118, 119, 120, 121] (by decide +kernel) (by decide +kernel)
set_option maxRecDepth 20000 in
theorem gX7_init_X1_init_n49 : GoodIn wsX7_init (wsX1_init) := ggX7_init_X1_init
set_option maxRecDepth 20000 in
theorem ggX7_init_X0_init : GoodIn wsX7_init wsX0_init := goodIn_r _ [76, 77, 2, 3, 36, 78, 79, 122, 123, 124] (by decide +kernel) (by decide +kernel)
set_option maxRecDepth 20000 in
theorem gX7_init_X0_init_n56 : GoodIn wsX7_init (wsX0_init) := ggX7_init_X0_init
theorem dX7_init_0 : decode cX7_init 0 = .ok (.aload_n 0, 1) := by decide +kernel
theorem dX7_init_1 : decode cX7_init 1 = .ok (.invokespecial 1, 3) := by decide +kernel
theorem dX7_init_4 : decode cX7_init 4 = .ok (.aload_n 0, 1) := by decide +kernel
theorem dX7_init_5 : decode cX7_init 5 = .ok (.new 7, 3) := by decide +kernel
theorem dX7_init_8 : decode cX7_init 8 = .ok (.dup, 1) := by decide +kernel
theorem dX7_init_9 : decode cX7_init 9 = .ok (.invokespecial 9, 3) := by decide +kernel
theorem dX7_init_12 : decode cX7_init 12 = .ok (.putfield 10, 3) := by decide +kernel
theorem dX7_init_15 : decode cX7_init 15 = .ok (.aload_n 0, 1) := by decide +kernel
theorem dX7_init_16 : decode cX7_init 16 = .ok (.new 16, 3) := by decide +kernel
theorem dX7_init_19 : decode cX7_init 19 = .ok (.dup, 1) := by decide +kernel
theorem dX7_init_20 : decode cX7_init 20 = .ok (.invokespecial 18, 3) := by decide +kernel
theorem dX7_init_23 : decode cX7_init 23 = .ok (.putfield 19, 3) := by decide +kernel
theorem dX7_init_26 : decode cX7_init 26 = .ok (.aload_n 0, 1) := by decide +kernel
theorem dX7_init_27 : decode cX7_init 27 = .ok (.new 16, 3) := by decide +kernel
theorem dX7_init_30 : decode cX7_init 30 = .ok (.dup, 1) := by decide +kernel
theorem dX7_init_31 : decode cX7_init 31 = .ok (.invokespecial 18, 3) := by decide +kernel
theorem dX7_init_34 : decode cX7_init 34 = .ok (.putfield 23, 3) := by decide +kernel
theorem dX7_init_37 : decode cX7_init 37 = .ok (.aload_n 0, 1) := by decide +kernel
theorem dX7_init_38 : decode cX7_init 38 = .ok (.new 26, 3) := by decide +kernel
theorem dX7_init_41 : decode cX7_init 41 = .ok (.dup, 1) := by decide +kernel
theorem dX7_init_42 : decode cX7_init 42 = .ok (.invokespecial 28, 3) := by decide +kernel
theorem dX7_init_45 : decode cX7_init 45 = .ok (.putfield 29, 3) := by decide +kernel
theorem dX7_init_48 : decode cX7_init 48 = .ok (.aload_n 0, 1) := by decide +kernel
theorem dX7_init_49 : decode cX7_init 49 = .ok (.new 33, 3) := by decide +kernel
theorem dX7_init_52 : decode cX7_init 52 = .ok (.dup, 1) := by decide +kernel
theorem dX7_init_53 : decode cX7_init 53 = .ok (.invokespecial 35, 3) := by decide +kernel
theorem dX7_init_56 : decode cX7_init 56 = .ok (.putfield 36, 3) := by decide +kernel
theorem dX7_init_59 : decode cX7_init 59 = .ok (.aload_n 0, 1) := by decide +kernel
theorem dX7_init_60 : decode cX7_init 60 = .ok (.new 40, 3) := by decide +kernel
theorem dX7_init_63 : decode cX7_init 63 = .ok (.dup, 1) := by decide +kernel
theorem dX7_init_64 : decode cX7_init 64 = .ok (.invokespecial 42, 3) := by decide +kernel
theorem dX7_init_67 : decode cX7_init 67 = .ok (.putfield 43, 3) := by decide +kernel
theorem dX7_init_70 : decode cX7_init 70 = .ok (.aload_n 0, 1) := by decide +kernel
theorem dX7_init_71 : decode cX7_init 71 = .ok (.new 47, 3) := by decide +kernel
theorem dX7_init_74 : decode cX7_init 74 = .ok (.dup, 1) := by decide +kernel
theorem dX7_init_75 : decode cX7_init 75 = .ok (.invokespecial 49, 3) := by decide +kernel
theorem dX7_init_78 : decode cX7_init 78 = .ok (.putfield 50, 3) := by decide +kernel
theorem dX7_init_81 : decode cX7_init 81 = .ok (.aload_n 0, 1) := by decide +kernel
theorem dX7_init_82 : decode cX7_init 82 = .ok (.new 54, 3) := by decide +kernel
theorem dX7_init_85 : decode cX7_init 85 = .ok (.dup, 1) := by decide +kernel
theorem dX7_init_86 : decode cX7_init 86 = .ok (.invokespecial 56, 3) := by decide +kernel
theorem dX7_init_89 : decode cX7_init 89 = .ok (.putfield 57, 3) := by decide +kernel
theorem dX7_init_92 : decode cX7_init 92 = .ok (.return_, 1) := by decide +kernel
set_option maxRecDepth 20000 in
theorem ggX7_feed_X6_add : GoodIn wsX7_feed wsX6_add := goodIn_r _ [9, 10, 11, 21, 22, 23, 24, 25, 26] (by decide +kernel) (by decide +kernel)
set_option maxRecDepth 20000 in
theorem gX7_feed_X6_add : GoodIn wsX7_feed (wsV RX7 67 RX6 yX6_add wsX6_add) := goodIn_app (goodIn_of _ (by decide +kernel)) ggX7_feed_X6_add
theorem dX7_feed_0 : decode cX7_feed 0 = .ok (.iload_n 1, 1) := by decide +kernel
theorem dX7_feed_1 : decode cX7_feed 1 = .ok (.ifCond .lt 10, 3) := by decide +kernel
theorem dX7_feed_4 : decode cX7_feed 4 = .ok (.iload_n 1, 1) := by decide +kernel
theorem dX7_feed_5 : decode cX7_feed 5 = .ok (.sipush 255, 3) := by decide +kernel
theorem dX7_feed_8 : decode cX7_feed 8 = .ok (.if_icmp .le 6, 3) := by decide +kernel
theorem dX7_feed_11 : decode cX7_feed 11 = .ok (.ldc 61, 2) := by decide +kernel
theorem dX7_feed_13 : decode cX7_feed 13 = .ok (.ireturn, 1) := by decide +kernel
theorem dX7_feed_14 : decode cX7_feed 14 = .ok (.aload_n 0, 1) := by decide +kernel
theorem dX7_feed_15 : decode cX7_feed 15 = .ok (.getfield 10, 3) := by decide +kernel
theorem dX7_feed_18 : decode cX7_feed 18 = .ok (.getfield 62, 3) := by decide +kernel
theorem dX7_feed_21 : decode cX7_feed 21 = .ok (.sipush 240, 3) := by decide +kernel
theorem dX7_feed_24 : decode cX7_feed 24 = .ok (.if_icmp .lt 6, 3) := by decide +kernel
theorem dX7_feed_27 : decode cX7_feed 27 = .ok (.ldc 66, 2) := by decide +kernel
theorem dX7_feed_29 : decode cX7_feed 29 = .ok (.ireturn, 1) := by decide +kernel
theorem dX7_feed_30 : decode cX7_feed 30 = .ok (.aload_n 0, 1) := by decide +kernel
theorem dX7_feed_31 : decode cX7_feed 31 = .ok (.getfield 10, 3) := by decide +kernel
theorem dX7_feed_34 : decode cX7_feed 34 = .ok (.iload_n 1, 1) := by decide +kernel
theorem dX7_feed_35 : decode cX7_feed 35 = .ok (.invokevirtual 67, 3) := by decide +kernel
theorem dX7_feed_38 : decode cX7_feed 38 = .ok (.aload_n 0, 1) := by decide +kernel
theorem dX7_feed_39 : decode cX7_feed 39 = .ok (.getfield 10, 3) := by decide +kernel
theorem dX7_feed_42 : decode cX7_feed 42 = .ok (.getfield 62, 3) := by decide +kernel
theorem dX7_feed_45 : decode cX7_feed 45 = .ok (.ireturn, 1) := by decide +kernel
set_option maxRecDepth 20000 in
theorem ggX7_shore_X6_readInto : GoodIn wsX7_shore wsX6_readInto := goodIn_r _ [15, 16, 17, 18, 19, 20, 21, 22, 23, 24, 25, 26, 27, 28, 29, 30, 31, 14, 32, 33, 34, 35, 36, 37, 38, 39, 40, 41, 42, 43, 44, 45, 46, 47, 48, 49, 50, 51, 52, 53, 54, 55, 56, 57, 58, 59, 60, 61, 62, 63, 64, 65, 66, 67, 68, 69, 70, 71, 72, 73, 74, 75, 76, 77, 78, 79, 80, 81, 82, 83, 84, 85, 86, 87, 88, 89, 90, 91, 92, 93, 94, 95, 96, 97, 98, 99, 100, 101, 102, 103, 104, 105, 106, 107, 108, 109, 110, 111, 112, 113, 114, 115, 116, 117, 118, 119, 120, 121, 122, 123, 124, 125, 126, 127, 128, 129, 130, 131, 132, 133, 134, 135, 136, 137, 138, 139, 140, 141, 142, 143, 144, 145, 146, 147, 148, 149, 150, 151, 152, 153, 154, 155, 156, 157, 158, 159, 160, 161, 162, 163, 164, 165, 166, 167, 168, 169, 170, 171, 172, 173, 174, 175, 176, 235, 236, 237, 238, 239, 240, 241, 242, 243, 244, 245, 246, 247, 248, 249, 250, 251] (by decide +kernel) (by decide +kernel)
set_option maxRecDepth 20000 in
theorem gX7_shore_X6_readInto : GoodIn wsX7_shore (wsV RX7 71 RX6 yX6_readInto wsX6_readInto) := goodIn_app (goodIn_of _ (by decide +kernel)) ggX7_shore_X6_readInto
set_option maxRecDepth 20000 in
theorem ggX7_shore_X6_empty : GoodIn wsX7_shore wsX6_empty := goodIn_r _ [180, 41, 235, 236, 237, 238, 239, 240] (by decide +kernel) (by decide +kernel)
set_option maxRecDepth 20000 in
theorem gX7_shore_X6_empty : GoodIn wsX7_shore (wsV RX7 75 RX6 yX6_empty wsX6_empty) := goodIn_app (goodIn_of _ (by decide +kernel)) ggX7_shore_X6_empty
set_option maxRecDepth 20000 in
theorem ggX7_shore_X3_begin : GoodIn wsX7_shore wsX3_begin := goodIn_r _ [185, 186, 187, 188, 189, 190, 191, 192, 193, 184, 194, 195, 252, 241, 242, 243, 244, 245, 246, 247, 248, 249, 250, 251] (by decide +kernel) (by decide +kernel)
set_option maxRecDepth 20000 in
theorem gX7_shore_X3_begin : GoodIn wsX7_shore (wsV RX7 81 RX3 yX3_begin wsX3_begin) := goodIn_app (goodIn_of _ (by decide +kernel)) ggX7_shore_X3_begin
set_option maxRecDepth 20000 in
theorem ggX7_shore_X4_forget : GoodIn wsX7_shore wsX4_forget := goodIn_r _ [200, 201, 253, 254, 255] (by decide +kernel) (by decide +kernel)
set_option maxRecDepth 20000 in
theorem gX7_shore_X4_forget : GoodIn wsX7_shore (wsV RX7 84 RX4 yX4_forget wsX4_forget) := goodIn_app (goodIn_of _ (by decide +kernel)) ggX7_shore_X4_forget
set_option maxRecDepth 20000 in
theorem ggX7_shore_X2_forget : GoodIn wsX7_shore wsX2_forget := goodIn_r _ [206, 207, 256, 257, 258] (by decide +kernel) (by decide +kernel)
set_option maxRecDepth 20000 in
theorem gX7_shore_X2_forget : GoodIn wsX7_shore (wsV RX7 87 RX2 yX2_forget wsX2_forget) := goodIn_app (goodIn_of _ (by decide +kernel)) ggX7_shore_X2_forget
set_option maxRecDepth 20000 in
theorem ggX7_shore_X1_beginAnew : GoodIn wsX7_shore wsX1_beginAnew := goodIn_r _ [212, 213, 214, 215, 216, 211, 217, 218, 219, 259, 260, 261, 262, 263, 264, 265, 266, 267] (by decide +kernel) (by decide +kernel)
set_option maxRecDepth 20000 in
theorem gX7_shore_X1_beginAnew : GoodIn wsX7_shore (wsV RX7 88 RX1 yX1_beginAnew wsX1_beginAnew) := goodIn_app (goodIn_of _ (by decide +kernel)) ggX7_shore_X1_beginAnew
set_option maxRecDepth 20000 in
theorem ggX7_shore_X0_empty : GoodIn wsX7_shore wsX0_empty := goodIn_r _ [224, 225, 268, 269, 270] (by decide +kernel) (by decide +kernel)
set_option maxRecDepth 20000 in
theorem gX7_shore_X0_empty : GoodIn wsX7_shore (wsV RX7 91 RX0 yX0_empty wsX0_empty) := goodIn_app (goodIn_of _ (by decide +kernel)) ggX7_shore_X0_empty
theorem dX7_shore_0 : decode cX7_shore 0 = .ok (.aload_n 0, 1) := by decide +kernel
theorem dX7_shore_1 : decode cX7_shore 1 = .ok (.getfield 10, 3) := by decide +kernel
theorem dX7_shore_4 : decode cX7_shore 4 = .ok (.aload_n 0, 1) := by decide +kernel
theorem dX7_shore_5 : decode cX7_shore 5 = .ok (.getfield 23, 3) := by decide +kernel
theorem dX7_shore_8 : decode cX7_shore 8 = .ok (.invokevirtual 71, 3) := by decide +kernel
theorem dX7_shore_11 : decode cX7_shore 11 = .ok (.aload_n 0, 1) := by decide +kernel
theorem dX7_shore_12 : decode cX7_shore 12 = .ok (.getfield 10, 3) := by decide +kernel
theorem dX7_shore_15 : decode cX7_shore 15 = .ok (.invokevirtual 75, 3) := by decide +kernel
theorem dX7_shore_18 : decode cX7_shore 18 = .ok (.aload_n 0, 1) := by decide +kernel
theorem dX7_shore_19 : decode cX7_shore 19 = .ok (.getfield 10, 3) := by decide +kernel
theorem dX7_shore_22 : decode cX7_shore 22 = .ok (.getfield 78, 3) := by decide +kernel
theorem dX7_shore_25 : decode cX7_shore 25 = .ok (.ifCond .eq 14, 3) := by decide +kernel
theorem dX7_shore_28 : decode cX7_shore 28 = .ok (.bipush (-10), 2) := by decide +kernel
theorem dX7_shore_30 : decode cX7_shore 30 = .ok (.aload_n 0, 1) := by decide +kernel
theorem dX7_shore_31 : decode cX7_shore 31 = .ok (.getfield 10, 3) := by decide +kernel
theorem dX7_shore_34 : decode cX7_shore 34 = .ok (.getfield 78, 3) := by decide +kernel
theorem dX7_shore_37 : decode cX7_shore 37 = .ok (.isub, 1) := by decide +kernel
theorem dX7_shore_38 : decode cX7_shore 38 = .ok (.ireturn, 1) := by decide +kernel
theorem dX7_shore_39 : decode cX7_shore 39 = .ok (.aload_n 0, 1) := by decide +kernel
theorem dX7_shore_40 : decode cX7_shore 40 = .ok (.getfield 19, 3) := by decide +kernel
theorem dX7_shore_43 : decode cX7_shore 43 = .ok (.astore_n 1, 1) := by decide +kernel
theorem dX7_shore_44 : decode cX7_shore 44 = .ok (.aload_n 0, 1) := by decide +kernel
theorem dX7_shore_45 : decode cX7_shore 45 = .ok (.aload_n 0, 1) := by decide +kernel
theorem dX7_shore_46 : decode cX7_shore 46 = .ok (.getfield 23, 3) := by decide +kernel
theorem dX7_shore_49 : decode cX7_shore 49 = .ok (.putfield 19, 3) := by decide +kernel
theorem dX7_shore_52 : decode cX7_shore 52 = .ok (.aload_n 0, 1) := by decide +kernel
theorem dX7_shore_53 : decode cX7_shore 53 = .ok (.aload_n 1, 1) := by decide +kernel
theorem dX7_shore_54 : decode cX7_shore 54 = .ok (.putfield 23, 3) := by decide +kernel
theorem dX7_shore_57 : decode cX7_shore 57 = .ok (.aload_n 0, 1) := by decide +kernel
theorem dX7_shore_58 : decode cX7_shore 58 = .ok (.getfield 29, 3) := by decide +kernel
theorem dX7_shore_61 : decode cX7_shore 61 = .ok (.aload_n 0, 1) := by decide +kernel
theorem dX7_shore_62 : decode cX7_shore 62 = .ok (.getfield 19, 3) := by decide +kernel
theorem dX7_shore_65 : decode cX7_shore 65 = .ok (.invokevirtual 81, 3) := by decide +kernel
theorem dX7_shore_68 : decode cX7_shore 68 = .ok (.aload_n 0, 1) := by decide +kernel
theorem dX7_shore_69 : decode cX7_shore 69 = .ok (.getfield 36, 3) := by decide +kernel
theorem dX7_shore_72 : decode cX7_shore 72 = .ok (.invokevirtual 84, 3) := by decide +kernel
theorem dX7_shore_75 : decode cX7_shore 75 = .ok (.aload_n 0, 1) := by decide +kernel
theorem dX7_shore_76 : decode cX7_shore 76 = .ok (.getfield 43, 3) := by decide +kernel
theorem dX7_shore_79 : decode cX7_shore 79 = .ok (.invokevirtual 87, 3) := by decide +kernel
theorem dX7_shore_82 : decode cX7_shore 82 = .ok (.aload_n 0, 1) := by decide +kernel
theorem dX7_shore_83 : decode cX7_shore 83 = .ok (.getfield 50, 3) := by decide +kernel
theorem dX7_shore_86 : decode cX7_shore 86 = .ok (.invokevirtual 88, 3) := by decide +kernel
theorem dX7_shore_89 : decode cX7_shore 89 = .ok (.aload_n 0, 1) := by decide +kernel
theorem dX7_shore_90 : decode cX7_shore 90 = .ok (.getfield 57, 3) := by decide +kernel
theorem dX7_shore_93 : decode cX7_shore 93 = .ok (.invokevirtual 91, 3) := by decide +kernel
theorem dX7_shore_96 : decode cX7_shore 96 = .ok (.aload_n 0, 1) := by decide +kernel
theorem dX7_shore_97 : decode cX7_shore 97 = .ok (.getfield 19, 3) := by decide +kernel
theorem dX7_shore_100 : decode cX7_shore 100 = .ok (.getfield 92, 3) := by decide +kernel
theorem dX7_shore_103 : decode cX7_shore 103 = .ok (.ireturn, 1) := by decide +kernel
theorem dX7_fault_0 : decode cX7_fault 0 = .ok (.aload_n 0, 1) := by decide +kernel
theorem dX7_fault_1 : decode cX7_fault 1 = .ok (.getfield 10, 3) := by decide +kernel
theorem dX7_fault_4 : decode cX7_fault 4 = .ok (.getfield 95, 3) := by decide +kernel
theorem dX7_fault_7 : decode cX7_fault 7 = .ok (.ireturn, 1) := by decide +kernel
set_option maxRecDepth 20000 in
theorem ggX7_told_X3_years : GoodIn wsX7_told wsX3_years := goodIn_r _ [21, 22, 90] (by decide +kernel) (by decide +kernel)
set_option maxRecDepth 20000 in
theorem gX7_told_X3_years : GoodIn wsX7_told (wsV RX7 110 RX3 yX3_years wsX3_years) := goodIn_app (goodIn_of _ (by decide +kernel)) ggX7_told_X3_years
set_option maxRecDepth 20000 in
theorem ggX7_told_X5_kingAt : GoodIn wsX7_told wsX5_kingAt := goodIn_r _ [27, 28, 58, 59, 60, 61, 62, 63, 64, 65, 66, 67, 68] (by decide +kernel) (by decide +kernel)
set_option maxRecDepth 20000 in
theorem gX7_told_X5_kingAt : GoodIn wsX7_told (wsV RX7 114 RX5 yX5_kingAt wsX5_kingAt) := goodIn_app (goodIn_of _ (by decide +kernel)) ggX7_told_X5_kingAt
set_option maxRecDepth 20000 in
theorem ggX7_told_X3_deadOnes : GoodIn wsX7_told wsX3_deadOnes := goodIn_r _ [32, 33, 34, 35, 36, 20, 37, 22, 38, 39, 40, 58, 59, 60, 61, 62, 63, 64, 65, 66, 67, 68, 90] (by decide +kernel) (by decide +kernel)
set_option maxRecDepth 20000 in
theorem gX7_told_X3_deadOnes : GoodIn wsX7_told (wsV RX7 118 RX3 yX3_deadOnes wsX3_deadOnes) := goodIn_app (goodIn_of _ (by decide +kernel)) ggX7_told_X3_deadOnes
set_option maxRecDepth 20000 in
theorem ggX7_told_X3_stayersOf : GoodIn wsX7_told wsX3_stayersOf := goodIn_r _ [44, 33, 22, 45, 46, 47, 20, 48, 34, 35, 36, 37, 38, 39, 40, 58, 59, 60, 61, 62, 63, 64, 65, 66, 67, 68, 90] (by decide +kernel) (by decide +kernel)
set_option maxRecDepth 20000 in
theorem gX7_told_X3_stayersOf : GoodIn wsX7_told (wsV RX7 122 RX3 yX3_stayersOf wsX3_stayersOf) := goodIn_app (goodIn_of _ (by decide +kernel)) ggX7_told_X3_stayersOf
theorem dX7_told_0 : decode cX7_told 0 = .ok (.iload_n 1, 1) := by decide +kernel
theorem dX7_told_1 : decode cX7_told 1 = .ok (.tableswitch 210 0 13 #[71, 79, 87, 95, 103, 111, 119, 127, 142, 154, 167, 186, 194, 202], 71) := by decide +kernel
theorem dX7_told_72 : decode cX7_told 72 = .ok (.aload_n 0, 1) := by decide +kernel
theorem dX7_told_73 : decode cX7_told 73 = .ok (.getfield 19, 3) := by decide +kernel
theorem dX7_told_76 : decode cX7_told 76 = .ok (.getfield 98, 3) := by decide +kernel
theorem dX7_told_79 : decode cX7_told 79 = .ok (.ireturn, 1) := by decide +kernel
theorem dX7_told_80 : decode cX7_told 80 = .ok (.aload_n 0, 1) := by decide +kernel
theorem dX7_told_81 : decode cX7_told 81 = .ok (.getfield 19, 3) := by decide +kernel
theorem dX7_told_84 : decode cX7_told 84 = .ok (.getfield 101, 3) := by decide +kernel
theorem dX7_told_87 : decode cX7_told 87 = .ok (.ireturn, 1) := by decide +kernel
theorem dX7_told_88 : decode cX7_told 88 = .ok (.aload_n 0, 1) := by decide +kernel
theorem dX7_told_89 : decode cX7_told 89 = .ok (.getfield 19, 3) := by decide +kernel
theorem dX7_told_92 : decode cX7_told 92 = .ok (.getfield 104, 3) := by decide +kernel
theorem dX7_told_95 : decode cX7_told 95 = .ok (.ireturn, 1) := by decide +kernel
theorem dX7_told_96 : decode cX7_told 96 = .ok (.aload_n 0, 1) := by decide +kernel
theorem dX7_told_97 : decode cX7_told 97 = .ok (.getfield 19, 3) := by decide +kernel
theorem dX7_told_100 : decode cX7_told 100 = .ok (.getfield 92, 3) := by decide +kernel
theorem dX7_told_103 : decode cX7_told 103 = .ok (.ireturn, 1) := by decide +kernel
theorem dX7_told_104 : decode cX7_told 104 = .ok (.aload_n 0, 1) := by decide +kernel
theorem dX7_told_105 : decode cX7_told 105 = .ok (.getfield 19, 3) := by decide +kernel
theorem dX7_told_108 : decode cX7_told 108 = .ok (.getfield 107, 3) := by decide +kernel
theorem dX7_told_111 : decode cX7_told 111 = .ok (.ireturn, 1) := by decide +kernel
theorem dX7_told_112 : decode cX7_told 112 = .ok (.aload_n 0, 1) := by decide +kernel
theorem dX7_told_113 : decode cX7_told 113 = .ok (.getfield 10, 3) := by decide +kernel
theorem dX7_told_116 : decode cX7_told 116 = .ok (.getfield 62, 3) := by decide +kernel
theorem dX7_told_119 : decode cX7_told 119 = .ok (.ireturn, 1) := by decide +kernel
theorem dX7_told_120 : decode cX7_told 120 = .ok (.aload_n 0, 1) := by decide +kernel
theorem dX7_told_121 : decode cX7_told 121 = .ok (.getfield 29, 3) := by decide +kernel
theorem dX7_told_124 : decode cX7_told 124 = .ok (.invokevirtual 110, 3) := by decide +kernel
theorem dX7_told_127 : decode cX7_told 127 = .ok (.ireturn, 1) := by decide +kernel
theorem dX7_told_128 : decode cX7_told 128 = .ok (.aload_n 0, 1) := by decide +kernel
theorem dX7_told_129 : decode cX7_told 129 = .ok (.getfield 19, 3) := by decide +kernel
theorem dX7_told_132 : decode cX7_told 132 = .ok (.aload_n 0, 1) := by decide +kernel
theorem dX7_told_133 : decode cX7_told 133 = .ok (.getfield 29, 3) := by decide +kernel
theorem dX7_told_136 : decode cX7_told 136 = .ok (.invokevirtual 110, 3) := by decide +kernel
theorem dX7_told_139 : decode cX7_told 139 = .ok (.invokevirtual 114, 3) := by decide +kernel
theorem dX7_told_142 : decode cX7_told 142 = .ok (.ireturn, 1) := by decide +kernel
theorem dX7_told_143 : decode cX7_told 143 = .ok (.aload_n 0, 1) := by decide +kernel
theorem dX7_told_144 : decode cX7_told 144 = .ok (.getfield 29, 3) := by decide +kernel
theorem dX7_told_147 : decode cX7_told 147 = .ok (.aload_n 0, 1) := by decide +kernel
theorem dX7_told_148 : decode cX7_told 148 = .ok (.getfield 19, 3) := by decide +kernel
theorem dX7_told_151 : decode cX7_told 151 = .ok (.invokevirtual 118, 3) := by decide +kernel
theorem dX7_told_154 : decode cX7_told 154 = .ok (.ireturn, 1) := by decide +kernel
theorem dX7_told_155 : decode cX7_told 155 = .ok (.aload_n 0, 1) := by decide +kernel
theorem dX7_told_156 : decode cX7_told 156 = .ok (.getfield 29, 3) := by decide +kernel
theorem dX7_told_159 : decode cX7_told 159 = .ok (.aload_n 0, 1) := by decide +kernel
theorem dX7_told_160 : decode cX7_told 160 = .ok (.getfield 19, 3) := by decide +kernel
theorem dX7_told_163 : decode cX7_told 163 = .ok (.iconst 0, 1) := by decide +kernel
theorem dX7_told_164 : decode cX7_told 164 = .ok (.invokevirtual 122, 3) := by decide +kernel
theorem dX7_told_167 : decode cX7_told 167 = .ok (.ireturn, 1) := by decide +kernel
theorem dX7_told_168 : decode cX7_told 168 = .ok (.aload_n 0, 1) := by decide +kernel
theorem dX7_told_169 : decode cX7_told 169 = .ok (.getfield 29, 3) := by decide +kernel
theorem dX7_told_172 : decode cX7_told 172 = .ok (.aload_n 0, 1) := by decide +kernel
theorem dX7_told_173 : decode cX7_told 173 = .ok (.getfield 19, 3) := by decide +kernel
theorem dX7_told_176 : decode cX7_told 176 = .ok (.aload_n 0, 1) := by decide +kernel
theorem dX7_told_177 : decode cX7_told 177 = .ok (.getfield 19, 3) := by decide +kernel
theorem dX7_told_180 : decode cX7_told 180 = .ok (.getfield 98, 3) := by decide +kernel
theorem dX7_told_183 : decode cX7_told 183 = .ok (.invokevirtual 122, 3) := by decide +kernel
theorem dX7_told_186 : decode cX7_told 186 = .ok (.ireturn, 1) := by decide +kernel
theorem dX7_told_187 : decode cX7_told 187 = .ok (.aload_n 0, 1) := by decide +kernel
theorem dX7_told_188 : decode cX7_told 188 = .ok (.getfield 50, 3) := by decide +kernel
theorem dX7_told_191 : decode cX7_told 191 = .ok (.getfield 126, 3) := by decide +kernel
theorem dX7_told_194 : decode cX7_told 194 = .ok (.ireturn, 1) := by decide +kernel
theorem dX7_told_195 : decode cX7_told 195 = .ok (.aload_n 0, 1) := by decide +kernel
theorem dX7_told_196 : decode cX7_told 196 = .ok (.getfield 57, 3) := by decide +kernel
theorem dX7_told_199 : decode cX7_told 199 = .ok (.getfield 129, 3) := by decide +kernel
theorem dX7_told_202 : decode cX7_told 202 = .ok (.ireturn, 1) := by decide +kernel
theorem dX7_told_203 : decode cX7_told 203 = .ok (.aload_n 0, 1) := by decide +kernel
theorem dX7_told_204 : decode cX7_told 204 = .ok (.getfield 36, 3) := by decide +kernel
theorem dX7_told_207 : decode cX7_told 207 = .ok (.getfield 130, 3) := by decide +kernel
theorem dX7_told_210 : decode cX7_told 210 = .ok (.ireturn, 1) := by decide +kernel
theorem dX7_told_211 : decode cX7_told 211 = .ok (.ldc 61, 2) := by decide +kernel
theorem dX7_told_213 : decode cX7_told 213 = .ok (.ireturn, 1) := by decide +kernel
set_option maxRecDepth 20000 in
theorem ggX7_depth_X5_hasDepth : GoodIn wsX7_depth wsX5_hasDepth := goodIn_r _ [8, 9, 19, 20, 21, 22, 23, 24, 25, 26, 27, 28, 29] (by decide +kernel) (by decide +kernel)
set_option maxRecDepth 20000 in
theorem gX7_depth_X5_hasDepth : GoodIn wsX7_depth (wsV RX7 131 RX5 yX5_hasDepth wsX5_hasDepth) := goodIn_app (goodIn_of _ (by decide +kernel)) ggX7_depth_X5_hasDepth
theorem dX7_depth_0 : decode cX7_depth 0 = .ok (.aload_n 0, 1) := by decide +kernel
theorem dX7_depth_1 : decode cX7_depth 1 = .ok (.getfield 19, 3) := by decide +kernel
theorem dX7_depth_4 : decode cX7_depth 4 = .ok (.iload_n 1, 1) := by decide +kernel
theorem dX7_depth_5 : decode cX7_depth 5 = .ok (.invokevirtual 131, 3) := by decide +kernel
theorem dX7_depth_8 : decode cX7_depth 8 = .ok (.ifCond .eq 15, 3) := by decide +kernel
theorem dX7_depth_11 : decode cX7_depth 11 = .ok (.aload_n 0, 1) := by decide +kernel
theorem dX7_depth_12 : decode cX7_depth 12 = .ok (.getfield 19, 3) := by decide +kernel
theorem dX7_depth_15 : decode cX7_depth 15 = .ok (.getfield 135, 3) := by decide +kernel
theorem dX7_depth_18 : decode cX7_depth 18 = .ok (.iload_n 1, 1) := by decide +kernel
theorem dX7_depth_19 : decode cX7_depth 19 = .ok (.iaload, 1) := by decide +kernel
theorem dX7_depth_20 : decode cX7_depth 20 = .ok (.goto 5, 3) := by decide +kernel
theorem dX7_depth_23 : decode cX7_depth 23 = .ok (.ldc 139, 2) := by decide +kernel
theorem dX7_depth_25 : decode cX7_depth 25 = .ok (.ireturn, 1) := by decide +kernel
set_option maxRecDepth 20000 in
theorem ggX7_person_X5_hasPerson : GoodIn wsX7_person wsX5_hasPerson := goodIn_r _ [10, 11, 57, 58, 59, 60, 61, 62, 63, 64, 65, 66, 67] (by decide +kernel) (by decide +kernel)
set_option maxRecDepth 20000 in
theorem gX7_person_X5_hasPerson : GoodIn wsX7_person (wsV RX7 140 RX5 yX5_hasPerson wsX5_hasPerson) := goodIn_app (goodIn_of _ (by decide +kernel)) ggX7_person_X5_hasPerson
set_option maxRecDepth 20000 in
theorem ggX7_person_X3_age : GoodIn wsX7_person wsX3_age := goodIn_r _ [16, 17, 18, 19, 15, 20, 68] (by decide +kernel) (by decide +kernel)
set_option maxRecDepth 20000 in
theorem gX7_person_X3_age : GoodIn wsX7_person (wsV RX7 143 RX3 yX3_age wsX3_age) := goodIn_app (goodIn_of _ (by decide +kernel)) ggX7_person_X3_age
set_option maxRecDepth 20000 in
theorem ggX7_person_X3_place : GoodIn wsX7_person wsX3_place := goodIn_r _ [24, 17, 18, 19, 15, 20, 68] (by decide +kernel) (by decide +kernel)
set_option maxRecDepth 20000 in
theorem gX7_person_X3_place : GoodIn wsX7_person (wsV RX7 149 RX3 yX3_place wsX3_place) := goodIn_app (goodIn_of _ (by decide +kernel)) ggX7_person_X3_place
set_option maxRecDepth 20000 in
theorem ggX7_person_X3_box : GoodIn wsX7_person wsX3_box := goodIn_r _ [28, 17, 18, 19, 15, 20, 68] (by decide +kernel) (by decide +kernel)
set_option maxRecDepth 20000 in
theorem gX7_person_X3_box : GoodIn wsX7_person (wsV RX7 152 RX3 yX3_box wsX3_box) := goodIn_app (goodIn_of _ (by decide +kernel)) ggX7_person_X3_box
set_option maxRecDepth 20000 in
theorem ggX7_person_X3_daysBelow : GoodIn wsX7_person wsX3_daysBelow := goodIn_r _ [32, 17, 33, 34, 35, 15, 36, 37, 22, 23, 24, 18, 19, 20, 38, 39, 40, 9, 41, 42, 43, 44, 45, 46, 47, 68, 57, 58, 59, 60, 61, 62, 63, 64, 65, 66, 67] (by decide +kernel) (by decide +kernel)
set_option maxRecDepth 20000 in
theorem gX7_person_X3_daysBelow : GoodIn wsX7_person (wsV RX7 155 RX3 yX3_daysBelow wsX3_daysBelow) := goodIn_app (goodIn_of _ (by decide +kernel)) ggX7_person_X3_daysBelow
theorem dX7_person_0 : decode cX7_person 0 = .ok (.aload_n 0, 1) := by decide +kernel
theorem dX7_person_1 : decode cX7_person 1 = .ok (.getfield 19, 3) := by decide +kernel
theorem dX7_person_4 : decode cX7_person 4 = .ok (.iload_n 1, 1) := by decide +kernel
theorem dX7_person_5 : decode cX7_person 5 = .ok (.invokevirtual 140, 3) := by decide +kernel
theorem dX7_person_8 : decode cX7_person 8 = .ok (.ifCond .ne 6, 3) := by decide +kernel
theorem dX7_person_11 : decode cX7_person 11 = .ok (.ldc 139, 2) := by decide +kernel
theorem dX7_person_13 : decode cX7_person 13 = .ok (.ireturn, 1) := by decide +kernel
theorem dX7_person_14 : decode cX7_person 14 = .ok (.iload_n 2, 1) := by decide +kernel
theorem dX7_person_15 : decode cX7_person 15 = .ok (.tableswitch 83 0 4 #[33, 42, 52, 61, 70], 33) := by decide +kernel
theorem dX7_person_48 : decode cX7_person 48 = .ok (.aload_n 0, 1) := by decide +kernel
theorem dX7_person_49 : decode cX7_person 49 = .ok (.getfield 29, 3) := by decide +kernel
theorem dX7_person_52 : decode cX7_person 52 = .ok (.iload_n 1, 1) := by decide +kernel
theorem dX7_person_53 : decode cX7_person 53 = .ok (.invokevirtual 143, 3) := by decide +kernel
theorem dX7_person_56 : decode cX7_person 56 = .ok (.ireturn, 1) := by decide +kernel
theorem dX7_person_57 : decode cX7_person 57 = .ok (.aload_n 0, 1) := by decide +kernel
theorem dX7_person_58 : decode cX7_person 58 = .ok (.getfield 19, 3) := by decide +kernel
theorem dX7_person_61 : decode cX7_person 61 = .ok (.getfield 146, 3) := by decide +kernel
theorem dX7_person_64 : decode cX7_person 64 = .ok (.iload_n 1, 1) := by decide +kernel
theorem dX7_person_65 : decode cX7_person 65 = .ok (.iaload, 1) := by decide +kernel
theorem dX7_person_66 : decode cX7_person 66 = .ok (.ireturn, 1) := by decide +kernel
theorem dX7_person_67 : decode cX7_person 67 = .ok (.aload_n 0, 1) := by decide +kernel
theorem dX7_person_68 : decode cX7_person 68 = .ok (.getfield 29, 3) := by decide +kernel
theorem dX7_person_71 : decode cX7_person 71 = .ok (.iload_n 1, 1) := by decide +kernel
theorem dX7_person_72 : decode cX7_person 72 = .ok (.invokevirtual 149, 3) := by decide +kernel
theorem dX7_person_75 : decode cX7_person 75 = .ok (.ireturn, 1) := by decide +kernel
theorem dX7_person_76 : decode cX7_person 76 = .ok (.aload_n 0, 1) := by decide +kernel
theorem dX7_person_77 : decode cX7_person 77 = .ok (.getfield 29, 3) := by decide +kernel
theorem dX7_person_80 : decode cX7_person 80 = .ok (.iload_n 1, 1) := by decide +kernel
theorem dX7_person_81 : decode cX7_person 81 = .ok (.invokevirtual 152, 3) := by decide +kernel
theorem dX7_person_84 : decode cX7_person 84 = .ok (.ireturn, 1) := by decide +kernel
theorem dX7_person_85 : decode cX7_person 85 = .ok (.aload_n 0, 1) := by decide +kernel
theorem dX7_person_86 : decode cX7_person 86 = .ok (.getfield 29, 3) := by decide +kernel
theorem dX7_person_89 : decode cX7_person 89 = .ok (.aload_n 0, 1) := by decide +kernel
theorem dX7_person_90 : decode cX7_person 90 = .ok (.getfield 19, 3) := by decide +kernel
theorem dX7_person_93 : decode cX7_person 93 = .ok (.iload_n 1, 1) := by decide +kernel
theorem dX7_person_94 : decode cX7_person 94 = .ok (.invokevirtual 155, 3) := by decide +kernel
theorem dX7_person_97 : decode cX7_person 97 = .ok (.ireturn, 1) := by decide +kernel
theorem dX7_person_98 : decode cX7_person 98 = .ok (.ldc 61, 2) := by decide +kernel
theorem dX7_person_100 : decode cX7_person 100 = .ok (.ireturn, 1) := by decide +kernel
set_option maxRecDepth 20000 in
theorem ggX7_good_X5_hasGood : GoodIn wsX7_good wsX5_hasGood := goodIn_r _ [12, 13, 32, 33, 34, 35, 36, 37, 38, 39, 40, 41, 42] (by decide +kernel) (by decide +kernel)
set_option maxRecDepth 20000 in
theorem gX7_good_X5_hasGood : GoodIn wsX7_good (wsV RX7 158 RX5 yX5_hasGood wsX5_hasGood) := goodIn_app (goodIn_of _ (by decide +kernel)) ggX7_good_X5_hasGood
set_option maxRecDepth 20000 in
theorem ggX7_good_X3_worth : GoodIn wsX7_good wsX3_worth := goodIn_r _ [18, 19, 20, 21, 17, 22, 43] (by decide +kernel) (by decide +kernel)
set_option maxRecDepth 20000 in
theorem gX7_good_X3_worth : GoodIn wsX7_good (wsV RX7 161 RX3 yX3_worth wsX3_worth) := goodIn_app (goodIn_of _ (by decide +kernel)) ggX7_good_X3_worth
theorem dX7_good_0 : decode cX7_good 0 = .ok (.aload_n 0, 1) := by decide +kernel
theorem dX7_good_1 : decode cX7_good 1 = .ok (.getfield 19, 3) := by decide +kernel
theorem dX7_good_4 : decode cX7_good 4 = .ok (.iload_n 1, 1) := by decide +kernel
theorem dX7_good_5 : decode cX7_good 5 = .ok (.invokevirtual 158, 3) := by decide +kernel
theorem dX7_good_8 : decode cX7_good 8 = .ok (.ifCond .ne 6, 3) := by decide +kernel
theorem dX7_good_11 : decode cX7_good 11 = .ok (.ldc 139, 2) := by decide +kernel
theorem dX7_good_13 : decode cX7_good 13 = .ok (.ireturn, 1) := by decide +kernel
theorem dX7_good_14 : decode cX7_good 14 = .ok (.iload_n 2, 1) := by decide +kernel
theorem dX7_good_15 : decode cX7_good 15 = .ok (.tableswitch 68 0 3 #[29, 38, 48, 58], 29) := by decide +kernel
theorem dX7_good_44 : decode cX7_good 44 = .ok (.aload_n 0, 1) := by decide +kernel
theorem dX7_good_45 : decode cX7_good 45 = .ok (.getfield 29, 3) := by decide +kernel
theorem dX7_good_48 : decode cX7_good 48 = .ok (.iload_n 1, 1) := by decide +kernel
theorem dX7_good_49 : decode cX7_good 49 = .ok (.invokevirtual 161, 3) := by decide +kernel
theorem dX7_good_52 : decode cX7_good 52 = .ok (.ireturn, 1) := by decide +kernel
theorem dX7_good_53 : decode cX7_good 53 = .ok (.aload_n 0, 1) := by decide +kernel
theorem dX7_good_54 : decode cX7_good 54 = .ok (.getfield 19, 3) := by decide +kernel
theorem dX7_good_57 : decode cX7_good 57 = .ok (.getfield 164, 3) := by decide +kernel
theorem dX7_good_60 : decode cX7_good 60 = .ok (.iload_n 1, 1) := by decide +kernel
theorem dX7_good_61 : decode cX7_good 61 = .ok (.iaload, 1) := by decide +kernel
theorem dX7_good_62 : decode cX7_good 62 = .ok (.ireturn, 1) := by decide +kernel
theorem dX7_good_63 : decode cX7_good 63 = .ok (.aload_n 0, 1) := by decide +kernel
theorem dX7_good_64 : decode cX7_good 64 = .ok (.getfield 19, 3) := by decide +kernel
theorem dX7_good_67 : decode cX7_good 67 = .ok (.getfield 167, 3) := by decide +kernel
theorem dX7_good_70 : decode cX7_good 70 = .ok (.iload_n 1, 1) := by decide +kernel
theorem dX7_good_71 : decode cX7_good 71 = .ok (.iaload, 1) := by decide +kernel
theorem dX7_good_72 : decode cX7_good 72 = .ok (.ireturn, 1) := by decide +kernel
theorem dX7_good_73 : decode cX7_good 73 = .ok (.aload_n 0, 1) := by decide +kernel
theorem dX7_good_74 : decode cX7_good 74 = .ok (.getfield 19, 3) := by decide +kernel
theorem dX7_good_77 : decode cX7_good 77 = .ok (.getfield 170, 3) := by decide +kernel
theorem dX7_good_80 : decode cX7_good 80 = .ok (.iload_n 1, 1) := by decide +kernel
theorem dX7_good_81 : decode cX7_good 81 = .ok (.iaload, 1) := by decide +kernel
theorem dX7_good_82 : decode cX7_good 82 = .ok (.ireturn, 1) := by decide +kernel
theorem dX7_good_83 : decode cX7_good 83 = .ok (.ldc 61, 2) := by decide +kernel
theorem dX7_good_85 : decode cX7_good 85 = .ok (.ireturn, 1) := by decide +kernel
set_option maxRecDepth 20000 in
theorem ggX7_year_X7_refuseYears : GoodIn wsX7_year wsX7_refuseYears := goodIn_r _ [8, 9, 3, 10, 2, 11, 12, 13, 14, 15, 16, 17, 18, 19, 20, 21, 22, 23, 24, 87, 88, 89, 90, 91, 92, 93, 94, 95, 96, 97, 98, 99, 100, 101, 102, 103, 104, 105, 106, 107] (by decide +kernel) (by decide +kernel)
set_option maxRecDepth 20000 in
theorem gX7_year_X7_refuseYears : GoodIn wsX7_year (wsV RX7 173 RX7 yX7_refuseYears wsX7_refuseYears) := goodIn_app (goodIn_of _ (by decide +kernel)) ggX7_year_X7_refuseYears
set_option maxRecDepth 20000 in
theorem ggX7_year_X4_remember : GoodIn wsX7_year wsX4_remember := goodIn_r _ [29, 30, 31, 32, 33, 34, 35, 36, 37, 38, 39, 22, 40, 24, 41, 42, 43, 44, 45, 108, 109, 110, 107] (by decide +kernel) (by decide +kernel)
set_option maxRecDepth 20000 in
theorem gX7_year_X4_remember : GoodIn wsX7_year (wsV RX7 177 RX4 yX4_remember wsX4_remember) := goodIn_app (goodIn_of _ (by decide +kernel)) ggX7_year_X4_remember
set_option maxRecDepth 20000 in
theorem ggX7_year_X3_passYears : GoodIn wsX7_year wsX3_passYears := goodIn_r _ [49, 24, 50, 51, 41, 34, 35, 36, 52, 53, 54, 55, 22, 56, 57, 58, 59, 60, 61, 62, 63, 64, 65, 66, 67, 68, 69, 70, 71, 72, 73, 74, 16, 75, 76, 77, 78, 79, 80, 81, 82, 83, 84, 85, 86, 107, 96, 97, 98, 99, 100, 101, 102, 103, 104, 105, 106] (by decide +kernel) (by decide +kernel)
set_option maxRecDepth 20000 in
theorem gX7_year_X3_passYears : GoodIn wsX7_year (wsV RX7 181 RX3 yX3_passYears wsX3_passYears) := goodIn_app (goodIn_of _ (by decide +kernel)) ggX7_year_X3_passYears
set_option maxRecDepth 20000 in
theorem ggX7_year_X3_years : GoodIn wsX7_year wsX3_years := goodIn_r _ [23, 24, 107] (by decide +kernel) (by decide +kernel)
set_option maxRecDepth 20000 in
theorem gX7_year_X3_years : GoodIn wsX7_year (wsV RX7 110 RX3 yX3_years wsX3_years) := goodIn_app (goodIn_of _ (by decide +kernel)) ggX7_year_X3_years
theorem dX7_year_0 : decode cX7_year 0 = .ok (.aload_n 0, 1) := by decide +kernel
theorem dX7_year_1 : decode cX7_year 1 = .ok (.iload_n 1, 1) := by decide +kernel
theorem dX7_year_2 : decode cX7_year 2 = .ok (.sipush 300, 3) := by decide +kernel
theorem dX7_year_5 : decode cX7_year 5 = .ok (.invokevirtual 173, 3) := by decide +kernel
theorem dX7_year_8 : decode cX7_year 8 = .ok (.istore_n 2, 1) := by decide +kernel
theorem dX7_year_9 : decode cX7_year 9 = .ok (.iload_n 2, 1) := by decide +kernel
theorem dX7_year_10 : decode cX7_year 10 = .ok (.ifCond .eq 5, 3) := by decide +kernel
theorem dX7_year_13 : decode cX7_year 13 = .ok (.iload_n 2, 1) := by decide +kernel
theorem dX7_year_14 : decode cX7_year 14 = .ok (.ireturn, 1) := by decide +kernel
theorem dX7_year_15 : decode cX7_year 15 = .ok (.aload_n 0, 1) := by decide +kernel
theorem dX7_year_16 : decode cX7_year 16 = .ok (.getfield 36, 3) := by decide +kernel
theorem dX7_year_19 : decode cX7_year 19 = .ok (.aload_n 0, 1) := by decide +kernel
theorem dX7_year_20 : decode cX7_year 20 = .ok (.getfield 29, 3) := by decide +kernel
theorem dX7_year_23 : decode cX7_year 23 = .ok (.invokevirtual 177, 3) := by decide +kernel
theorem dX7_year_26 : decode cX7_year 26 = .ok (.aload_n 0, 1) := by decide +kernel
theorem dX7_year_27 : decode cX7_year 27 = .ok (.getfield 29, 3) := by decide +kernel
theorem dX7_year_30 : decode cX7_year 30 = .ok (.aload_n 0, 1) := by decide +kernel
theorem dX7_year_31 : decode cX7_year 31 = .ok (.getfield 19, 3) := by decide +kernel
theorem dX7_year_34 : decode cX7_year 34 = .ok (.iload_n 1, 1) := by decide +kernel
theorem dX7_year_35 : decode cX7_year 35 = .ok (.invokevirtual 181, 3) := by decide +kernel
theorem dX7_year_38 : decode cX7_year 38 = .ok (.aload_n 0, 1) := by decide +kernel
theorem dX7_year_39 : decode cX7_year 39 = .ok (.getfield 29, 3) := by decide +kernel
theorem dX7_year_42 : decode cX7_year 42 = .ok (.invokevirtual 110, 3) := by decide +kernel
theorem dX7_year_45 : decode cX7_year 45 = .ok (.ireturn, 1) := by decide +kernel
set_option maxRecDepth 20000 in
theorem ggX7_down_X5_hasPerson : GoodIn wsX7_down wsX5_hasPerson := goodIn_r _ [10, 11, 68, 69, 70, 71, 72, 73, 74, 75, 76, 77, 78] (by decide +kernel) (by decide +kernel)
set_option maxRecDepth 20000 in
theorem gX7_down_X5_hasPerson : GoodIn wsX7_down (wsV RX7 140 RX5 yX5_hasPerson wsX5_hasPerson) := goodIn_app (goodIn_of _ (by decide +kernel)) ggX7_down_X5_hasPerson
set_option maxRecDepth 20000 in
theorem ggX7_down_X5_hasDepth : GoodIn wsX7_down wsX5_hasDepth := goodIn_r _ [15, 16, 68, 69, 70, 71, 72, 73, 74, 75, 76, 77, 78] (by decide +kernel) (by decide +kernel)
set_option maxRecDepth 20000 in
theorem gX7_down_X5_hasDepth : GoodIn wsX7_down (wsV RX7 131 RX5 yX5_hasDepth wsX5_hasDepth) := goodIn_app (goodIn_of _ (by decide +kernel)) ggX7_down_X5_hasDepth
set_option maxRecDepth 20000 in
theorem ggX7_down_X3_isAbove : GoodIn wsX7_down wsX3_isAbove := goodIn_r _ [21, 22, 23, 24, 20, 25, 26, 27, 28, 29, 79] (by decide +kernel) (by decide +kernel)
set_option maxRecDepth 20000 in
theorem gX7_down_X3_isAbove : GoodIn wsX7_down (wsV RX7 185 RX3 yX3_isAbove wsX3_isAbove) := goodIn_app (goodIn_of _ (by decide +kernel)) ggX7_down_X3_isAbove
set_option maxRecDepth 20000 in
theorem ggX7_down_X4_remember : GoodIn wsX7_down wsX4_remember := goodIn_r _ [34, 35, 36, 37, 38, 39, 40, 41, 42, 43, 44, 20, 45, 26, 46, 47, 48, 49, 50, 80, 81, 82, 79] (by decide +kernel) (by decide +kernel)
set_option maxRecDepth 20000 in
theorem gX7_down_X4_remember : GoodIn wsX7_down (wsV RX7 177 RX4 yX4_remember wsX4_remember) := goodIn_app (goodIn_of _ (by decide +kernel)) ggX7_down_X4_remember
set_option maxRecDepth 20000 in
theorem ggX7_down_X3_goDown : GoodIn wsX7_down wsX3_goDown := goodIn_r _ [54, 26, 27, 28, 20, 29, 79] (by decide +kernel) (by decide +kernel)
set_option maxRecDepth 20000 in
theorem gX7_down_X3_goDown : GoodIn wsX7_down (wsV RX7 189 RX3 yX3_goDown wsX3_goDown) := goodIn_app (goodIn_of _ (by decide +kernel)) ggX7_down_X3_goDown
set_option maxRecDepth 20000 in
theorem ggX7_down_X3_age : GoodIn wsX7_down wsX3_age := goodIn_r _ [58, 26, 27, 28, 20, 29, 79] (by decide +kernel) (by decide +kernel)
set_option maxRecDepth 20000 in
theorem gX7_down_X3_age : GoodIn wsX7_down (wsV RX7 143 RX3 yX3_age wsX3_age) := goodIn_app (goodIn_of _ (by decide +kernel)) ggX7_down_X3_age
theorem dX7_down_0 : decode cX7_down 0 = .ok (.aload_n 0, 1) := by decide +kernel
theorem dX7_down_1 : decode cX7_down 1 = .ok (.getfield 19, 3) := by decide +kernel
theorem dX7_down_4 : decode cX7_down 4 = .ok (.iload_n 1, 1) := by decide +kernel
theorem dX7_down_5 : decode cX7_down 5 = .ok (.invokevirtual 140, 3) := by decide +kernel
theorem dX7_down_8 : decode cX7_down 8 = .ok (.ifCond .eq 14, 3) := by decide +kernel
theorem dX7_down_11 : decode cX7_down 11 = .ok (.aload_n 0, 1) := by decide +kernel
theorem dX7_down_12 : decode cX7_down 12 = .ok (.getfield 19, 3) := by decide +kernel
theorem dX7_down_15 : decode cX7_down 15 = .ok (.iload_n 2, 1) := by decide +kernel
theorem dX7_down_16 : decode cX7_down 16 = .ok (.invokevirtual 131, 3) := by decide +kernel
theorem dX7_down_19 : decode cX7_down 19 = .ok (.ifCond .ne 6, 3) := by decide +kernel
theorem dX7_down_22 : decode cX7_down 22 = .ok (.ldc 139, 2) := by decide +kernel
theorem dX7_down_24 : decode cX7_down 24 = .ok (.ireturn, 1) := by decide +kernel
theorem dX7_down_25 : decode cX7_down 25 = .ok (.aload_n 0, 1) := by decide +kernel
theorem dX7_down_26 : decode cX7_down 26 = .ok (.getfield 29, 3) := by decide +kernel
theorem dX7_down_29 : decode cX7_down 29 = .ok (.iload_n 1, 1) := by decide +kernel
theorem dX7_down_30 : decode cX7_down 30 = .ok (.invokevirtual 185, 3) := by decide +kernel
theorem dX7_down_33 : decode cX7_down 33 = .ok (.ifCond .ne 6, 3) := by decide +kernel
theorem dX7_down_36 : decode cX7_down 36 = .ok (.ldc 188, 2) := by decide +kernel
theorem dX7_down_38 : decode cX7_down 38 = .ok (.ireturn, 1) := by decide +kernel
theorem dX7_down_39 : decode cX7_down 39 = .ok (.aload_n 0, 1) := by decide +kernel
theorem dX7_down_40 : decode cX7_down 40 = .ok (.getfield 36, 3) := by decide +kernel
theorem dX7_down_43 : decode cX7_down 43 = .ok (.aload_n 0, 1) := by decide +kernel
theorem dX7_down_44 : decode cX7_down 44 = .ok (.getfield 29, 3) := by decide +kernel
theorem dX7_down_47 : decode cX7_down 47 = .ok (.invokevirtual 177, 3) := by decide +kernel
theorem dX7_down_50 : decode cX7_down 50 = .ok (.aload_n 0, 1) := by decide +kernel
theorem dX7_down_51 : decode cX7_down 51 = .ok (.getfield 29, 3) := by decide +kernel
theorem dX7_down_54 : decode cX7_down 54 = .ok (.iload_n 1, 1) := by decide +kernel
theorem dX7_down_55 : decode cX7_down 55 = .ok (.iload_n 2, 1) := by decide +kernel
theorem dX7_down_56 : decode cX7_down 56 = .ok (.invokevirtual 189, 3) := by decide +kernel
theorem dX7_down_59 : decode cX7_down 59 = .ok (.aload_n 0, 1) := by decide +kernel
theorem dX7_down_60 : decode cX7_down 60 = .ok (.getfield 29, 3) := by decide +kernel
theorem dX7_down_63 : decode cX7_down 63 = .ok (.iload_n 1, 1) := by decide +kernel
theorem dX7_down_64 : decode cX7_down 64 = .ok (.invokevirtual 143, 3) := by decide +kernel
theorem dX7_down_67 : decode cX7_down 67 = .ok (.ireturn, 1) := by decide +kernel
set_option maxRecDepth 20000 in
theorem ggX7_up_X5_hasPerson : GoodIn wsX7_up wsX5_hasPerson := goodIn_r _ [10, 11, 74, 75, 76, 77, 78, 79, 80, 81, 82, 83, 84] (by decide +kernel) (by decide +kernel)
set_option maxRecDepth 20000 in
theorem gX7_up_X5_hasPerson : GoodIn wsX7_up (wsV RX7 140 RX5 yX5_hasPerson wsX5_hasPerson) := goodIn_app (goodIn_of _ (by decide +kernel)) ggX7_up_X5_hasPerson
set_option maxRecDepth 20000 in
theorem ggX7_up_X3_isBelow : GoodIn wsX7_up wsX3_isBelow := goodIn_r _ [16, 17, 18, 19, 15, 20, 21, 22, 23, 24, 85] (by decide +kernel) (by decide +kernel)
set_option maxRecDepth 20000 in
theorem gX7_up_X3_isBelow : GoodIn wsX7_up (wsV RX7 193 RX3 yX3_isBelow wsX3_isBelow) := goodIn_app (goodIn_of _ (by decide +kernel)) ggX7_up_X3_isBelow
set_option maxRecDepth 20000 in
theorem ggX7_up_X4_remember : GoodIn wsX7_up wsX4_remember := goodIn_r _ [29, 30, 31, 32, 33, 34, 35, 36, 37, 38, 39, 15, 40, 21, 41, 42, 43, 44, 45, 86, 87, 88, 85] (by decide +kernel) (by decide +kernel)
set_option maxRecDepth 20000 in
theorem gX7_up_X4_remember : GoodIn wsX7_up (wsV RX7 177 RX4 yX4_remember wsX4_remember) := goodIn_app (goodIn_of _ (by decide +kernel)) ggX7_up_X4_remember
set_option maxRecDepth 20000 in
theorem ggX7_up_X3_daysBelow : GoodIn wsX7_up wsX3_daysBelow := goodIn_r _ [49, 21, 50, 13, 14, 15, 16, 17, 18, 19, 20, 22, 23, 24, 51, 52, 53, 9, 54, 55, 56, 57, 58, 59, 60, 85, 74, 75, 76, 77, 78, 79, 80, 81, 82, 83, 84] (by decide +kernel) (by decide +kernel)
set_option maxRecDepth 20000 in
theorem gX7_up_X3_daysBelow : GoodIn wsX7_up (wsV RX7 155 RX3 yX3_daysBelow wsX3_daysBelow) := goodIn_app (goodIn_of _ (by decide +kernel)) ggX7_up_X3_daysBelow
set_option maxRecDepth 20000 in
theorem ggX7_up_X3_comeUp : GoodIn wsX7_up wsX3_comeUp := goodIn_r _ [64, 21, 22, 23, 15, 24, 85] (by decide +kernel) (by decide +kernel)
set_option maxRecDepth 20000 in
theorem gX7_up_X3_comeUp : GoodIn wsX7_up (wsV RX7 196 RX3 yX3_comeUp wsX3_comeUp) := goodIn_app (goodIn_of _ (by decide +kernel)) ggX7_up_X3_comeUp
theorem dX7_up_0 : decode cX7_up 0 = .ok (.aload_n 0, 1) := by decide +kernel
theorem dX7_up_1 : decode cX7_up 1 = .ok (.getfield 19, 3) := by decide +kernel
theorem dX7_up_4 : decode cX7_up 4 = .ok (.iload_n 1, 1) := by decide +kernel
theorem dX7_up_5 : decode cX7_up 5 = .ok (.invokevirtual 140, 3) := by decide +kernel
theorem dX7_up_8 : decode cX7_up 8 = .ok (.ifCond .ne 6, 3) := by decide +kernel
theorem dX7_up_11 : decode cX7_up 11 = .ok (.ldc 139, 2) := by decide +kernel
theorem dX7_up_13 : decode cX7_up 13 = .ok (.ireturn, 1) := by decide +kernel
theorem dX7_up_14 : decode cX7_up 14 = .ok (.aload_n 0, 1) := by decide +kernel
theorem dX7_up_15 : decode cX7_up 15 = .ok (.getfield 29, 3) := by decide +kernel
theorem dX7_up_18 : decode cX7_up 18 = .ok (.iload_n 1, 1) := by decide +kernel
theorem dX7_up_19 : decode cX7_up 19 = .ok (.invokevirtual 193, 3) := by decide +kernel
theorem dX7_up_22 : decode cX7_up 22 = .ok (.ifCond .ne 6, 3) := by decide +kernel
theorem dX7_up_25 : decode cX7_up 25 = .ok (.ldc 188, 2) := by decide +kernel
theorem dX7_up_27 : decode cX7_up 27 = .ok (.ireturn, 1) := by decide +kernel
theorem dX7_up_28 : decode cX7_up 28 = .ok (.aload_n 0, 1) := by decide +kernel
theorem dX7_up_29 : decode cX7_up 29 = .ok (.getfield 36, 3) := by decide +kernel
theorem dX7_up_32 : decode cX7_up 32 = .ok (.aload_n 0, 1) := by decide +kernel
theorem dX7_up_33 : decode cX7_up 33 = .ok (.getfield 29, 3) := by decide +kernel
theorem dX7_up_36 : decode cX7_up 36 = .ok (.invokevirtual 177, 3) := by decide +kernel
theorem dX7_up_39 : decode cX7_up 39 = .ok (.aload_n 0, 1) := by decide +kernel
theorem dX7_up_40 : decode cX7_up 40 = .ok (.getfield 29, 3) := by decide +kernel
theorem dX7_up_43 : decode cX7_up 43 = .ok (.aload_n 0, 1) := by decide +kernel
theorem dX7_up_44 : decode cX7_up 44 = .ok (.getfield 19, 3) := by decide +kernel
theorem dX7_up_47 : decode cX7_up 47 = .ok (.iload_n 1, 1) := by decide +kernel
theorem dX7_up_48 : decode cX7_up 48 = .ok (.invokevirtual 155, 3) := by decide +kernel
theorem dX7_up_51 : decode cX7_up 51 = .ok (.istore_n 2, 1) := by decide +kernel
theorem dX7_up_52 : decode cX7_up 52 = .ok (.aload_n 0, 1) := by decide +kernel
theorem dX7_up_53 : decode cX7_up 53 = .ok (.getfield 29, 3) := by decide +kernel
theorem dX7_up_56 : decode cX7_up 56 = .ok (.iload_n 1, 1) := by decide +kernel
theorem dX7_up_57 : decode cX7_up 57 = .ok (.invokevirtual 196, 3) := by decide +kernel
theorem dX7_up_60 : decode cX7_up 60 = .ok (.iload_n 2, 1) := by decide +kernel
theorem dX7_up_61 : decode cX7_up 61 = .ok (.ireturn, 1) := by decide +kernel
set_option maxRecDepth 20000 in
theorem ggX7_open_X7_refuseUnlessAbove : GoodIn wsX7_open wsX7_refuseUnlessAbove := goodIn_r _ [8, 3, 9, 2, 10, 11, 12, 13, 14, 15, 16, 17, 18, 19, 20, 21, 22, 23, 24, 25, 26, 27, 28, 29, 64, 65, 66, 67, 68, 69, 70, 71, 72, 73, 74, 75, 76, 77, 78, 79, 80, 81, 82, 83, 84] (by decide +kernel) (by decide +kernel)
set_option maxRecDepth 20000 in
theorem gX7_open_X7_refuseUnlessAbove : GoodIn wsX7_open (wsV RX7 199 RX7 yX7_refuseUnlessAbove wsX7_refuseUnlessAbove) := goodIn_app (goodIn_of _ (by decide +kernel)) ggX7_open_X7_refuseUnlessAbove
set_option maxRecDepth 20000 in
theorem ggX7_open_X4_remember : GoodIn wsX7_open wsX4_remember := goodIn_r _ [34, 35, 36, 37, 38, 39, 40, 41, 42, 43, 44, 20, 45, 26, 46, 47, 48, 49, 50, 85, 86, 87, 84] (by decide +kernel) (by decide +kernel)
set_option maxRecDepth 20000 in
theorem gX7_open_X4_remember : GoodIn wsX7_open (wsV RX7 177 RX4 yX4_remember wsX4_remember) := goodIn_app (goodIn_of _ (by decide +kernel)) ggX7_open_X4_remember
set_option maxRecDepth 20000 in
theorem ggX7_open_X3_openBox : GoodIn wsX7_open wsX3_openBox := goodIn_r _ [54, 26, 27, 28, 20, 29, 55, 56, 57, 58, 59, 84, 73, 74, 75, 76, 77, 78, 79, 80, 81, 82, 83] (by decide +kernel) (by decide +kernel)
set_option maxRecDepth 20000 in
theorem gX7_open_X3_openBox : GoodIn wsX7_open (wsV RX7 202 RX3 yX3_openBox wsX3_openBox) := goodIn_app (goodIn_of _ (by decide +kernel)) ggX7_open_X3_openBox
set_option maxRecDepth 20000 in
theorem ggX7_open_X3_age : GoodIn wsX7_open wsX3_age := goodIn_r _ [63, 26, 27, 28, 20, 29, 84] (by decide +kernel) (by decide +kernel)
set_option maxRecDepth 20000 in
theorem gX7_open_X3_age : GoodIn wsX7_open (wsV RX7 143 RX3 yX3_age wsX3_age) := goodIn_app (goodIn_of _ (by decide +kernel)) ggX7_open_X3_age
theorem dX7_open_0 : decode cX7_open 0 = .ok (.aload_n 0, 1) := by decide +kernel
theorem dX7_open_1 : decode cX7_open 1 = .ok (.iload_n 1, 1) := by decide +kernel
theorem dX7_open_2 : decode cX7_open 2 = .ok (.invokevirtual 199, 3) := by decide +kernel
theorem dX7_open_5 : decode cX7_open 5 = .ok (.istore_n 2, 1) := by decide +kernel
theorem dX7_open_6 : decode cX7_open 6 = .ok (.iload_n 2, 1) := by decide +kernel
theorem dX7_open_7 : decode cX7_open 7 = .ok (.ifCond .eq 5, 3) := by decide +kernel
theorem dX7_open_10 : decode cX7_open 10 = .ok (.iload_n 2, 1) := by decide +kernel
theorem dX7_open_11 : decode cX7_open 11 = .ok (.ireturn, 1) := by decide +kernel
theorem dX7_open_12 : decode cX7_open 12 = .ok (.aload_n 0, 1) := by decide +kernel
theorem dX7_open_13 : decode cX7_open 13 = .ok (.getfield 36, 3) := by decide +kernel
theorem dX7_open_16 : decode cX7_open 16 = .ok (.aload_n 0, 1) := by decide +kernel
theorem dX7_open_17 : decode cX7_open 17 = .ok (.getfield 29, 3) := by decide +kernel
theorem dX7_open_20 : decode cX7_open 20 = .ok (.invokevirtual 177, 3) := by decide +kernel
theorem dX7_open_23 : decode cX7_open 23 = .ok (.aload_n 0, 1) := by decide +kernel
theorem dX7_open_24 : decode cX7_open 24 = .ok (.getfield 29, 3) := by decide +kernel
theorem dX7_open_27 : decode cX7_open 27 = .ok (.aload_n 0, 1) := by decide +kernel
theorem dX7_open_28 : decode cX7_open 28 = .ok (.getfield 19, 3) := by decide +kernel
theorem dX7_open_31 : decode cX7_open 31 = .ok (.iload_n 1, 1) := by decide +kernel
theorem dX7_open_32 : decode cX7_open 32 = .ok (.invokevirtual 202, 3) := by decide +kernel
theorem dX7_open_35 : decode cX7_open 35 = .ok (.aload_n 0, 1) := by decide +kernel
theorem dX7_open_36 : decode cX7_open 36 = .ok (.getfield 29, 3) := by decide +kernel
theorem dX7_open_39 : decode cX7_open 39 = .ok (.iload_n 1, 1) := by decide +kernel
theorem dX7_open_40 : decode cX7_open 40 = .ok (.invokevirtual 143, 3) := by decide +kernel
theorem dX7_open_43 : decode cX7_open 43 = .ok (.ireturn, 1) := by decide +kernel
set_option maxRecDepth 20000 in
theorem ggX7_take_X5_hasGood : GoodIn wsX7_take wsX5_hasGood := goodIn_r _ [10, 11, 55, 56, 57, 58, 59, 60, 61, 62, 63, 64, 65] (by decide +kernel) (by decide +kernel)
set_option maxRecDepth 20000 in
theorem gX7_take_X5_hasGood : GoodIn wsX7_take (wsV RX7 158 RX5 yX5_hasGood wsX5_hasGood) := goodIn_app (goodIn_of _ (by decide +kernel)) ggX7_take_X5_hasGood
set_option maxRecDepth 20000 in
theorem ggX7_take_X3_worth : GoodIn wsX7_take wsX3_worth := goodIn_r _ [16, 17, 18, 19, 15, 20, 66] (by decide +kernel) (by decide +kernel)
set_option maxRecDepth 20000 in
theorem gX7_take_X3_worth : GoodIn wsX7_take (wsV RX7 161 RX3 yX3_worth wsX3_worth) := goodIn_app (goodIn_of _ (by decide +kernel)) ggX7_take_X3_worth
set_option maxRecDepth 20000 in
theorem ggX7_take_X4_remember : GoodIn wsX7_take wsX4_remember := goodIn_r _ [25, 26, 27, 28, 29, 30, 31, 32, 33, 34, 35, 15, 36, 17, 37, 38, 39, 40, 41, 67, 68, 69, 66] (by decide +kernel) (by decide +kernel)
set_option maxRecDepth 20000 in
theorem gX7_take_X4_remember : GoodIn wsX7_take (wsV RX7 177 RX4 yX4_remember wsX4_remember) := goodIn_app (goodIn_of _ (by decide +kernel)) ggX7_take_X4_remember
set_option maxRecDepth 20000 in
theorem ggX7_take_X3_takeGood : GoodIn wsX7_take wsX3_takeGood := goodIn_r _ [45, 17, 18, 19, 15, 20, 66] (by decide +kernel) (by decide +kernel)
set_option maxRecDepth 20000 in
theorem gX7_take_X3_takeGood : GoodIn wsX7_take (wsV RX7 205 RX3 yX3_takeGood wsX3_takeGood) := goodIn_app (goodIn_of _ (by decide +kernel)) ggX7_take_X3_takeGood
theorem dX7_take_0 : decode cX7_take 0 = .ok (.aload_n 0, 1) := by decide +kernel
theorem dX7_take_1 : decode cX7_take 1 = .ok (.getfield 19, 3) := by decide +kernel
theorem dX7_take_4 : decode cX7_take 4 = .ok (.iload_n 1, 1) := by decide +kernel
theorem dX7_take_5 : decode cX7_take 5 = .ok (.invokevirtual 158, 3) := by decide +kernel
theorem dX7_take_8 : decode cX7_take 8 = .ok (.ifCond .ne 6, 3) := by decide +kernel
theorem dX7_take_11 : decode cX7_take 11 = .ok (.ldc 139, 2) := by decide +kernel
theorem dX7_take_13 : decode cX7_take 13 = .ok (.ireturn, 1) := by decide +kernel
theorem dX7_take_14 : decode cX7_take 14 = .ok (.aload_n 0, 1) := by decide +kernel
theorem dX7_take_15 : decode cX7_take 15 = .ok (.getfield 29, 3) := by decide +kernel
theorem dX7_take_18 : decode cX7_take 18 = .ok (.iload_n 1, 1) := by decide +kernel
theorem dX7_take_19 : decode cX7_take 19 = .ok (.invokevirtual 161, 3) := by decide +kernel
theorem dX7_take_22 : decode cX7_take 22 = .ok (.istore_n 2, 1) := by decide +kernel
theorem dX7_take_23 : decode cX7_take 23 = .ok (.iload_n 2, 1) := by decide +kernel
theorem dX7_take_24 : decode cX7_take 24 = .ok (.ifCond .ne 6, 3) := by decide +kernel
theorem dX7_take_27 : decode cX7_take 27 = .ok (.ldc 188, 2) := by decide +kernel
theorem dX7_take_29 : decode cX7_take 29 = .ok (.ireturn, 1) := by decide +kernel
theorem dX7_take_30 : decode cX7_take 30 = .ok (.aload_n 0, 1) := by decide +kernel
theorem dX7_take_31 : decode cX7_take 31 = .ok (.getfield 36, 3) := by decide +kernel
theorem dX7_take_34 : decode cX7_take 34 = .ok (.aload_n 0, 1) := by decide +kernel
theorem dX7_take_35 : decode cX7_take 35 = .ok (.getfield 29, 3) := by decide +kernel
theorem dX7_take_38 : decode cX7_take 38 = .ok (.invokevirtual 177, 3) := by decide +kernel
theorem dX7_take_41 : decode cX7_take 41 = .ok (.aload_n 0, 1) := by decide +kernel
theorem dX7_take_42 : decode cX7_take 42 = .ok (.getfield 29, 3) := by decide +kernel
theorem dX7_take_45 : decode cX7_take 45 = .ok (.iload_n 1, 1) := by decide +kernel
theorem dX7_take_46 : decode cX7_take 46 = .ok (.invokevirtual 205, 3) := by decide +kernel
theorem dX7_take_49 : decode cX7_take 49 = .ok (.iload_n 2, 1) := by decide +kernel
theorem dX7_take_50 : decode cX7_take 50 = .ok (.ireturn, 1) := by decide +kernel
set_option maxRecDepth 20000 in
theorem ggX7_drift_X7_refuseYears : GoodIn wsX7_drift wsX7_refuseYears := goodIn_r _ [8, 9, 3, 10, 2, 11, 12, 13, 14, 15, 16, 17, 18, 19, 20, 21, 22, 23, 24, 111, 112, 113, 114, 115, 116, 117, 118, 119, 120, 121, 122, 123, 124, 125, 126, 127, 128, 129, 130, 131] (by decide +kernel) (by decide +kernel)
set_option maxRecDepth 20000 in
theorem gX7_drift_X7_refuseYears : GoodIn wsX7_drift (wsV RX7 173 RX7 yX7_refuseYears wsX7_refuseYears) := goodIn_app (goodIn_of _ (by decide +kernel)) ggX7_drift_X7_refuseYears
set_option maxRecDepth 20000 in
theorem ggX7_drift_X4_remember : GoodIn wsX7_drift wsX4_remember := goodIn_r _ [29, 30, 31, 32, 33, 34, 35, 36, 37, 38, 39, 22, 40, 24, 41, 42, 43, 44, 45, 132, 133, 134, 131] (by decide +kernel) (by decide +kernel)
set_option maxRecDepth 20000 in
theorem gX7_drift_X4_remember : GoodIn wsX7_drift (wsV RX7 177 RX4 yX4_remember wsX4_remember) := goodIn_app (goodIn_of _ (by decide +kernel)) ggX7_drift_X4_remember
set_option maxRecDepth 20000 in
theorem ggX7_drift_X7_driftOne : GoodIn wsX7_drift wsX7_driftOne := goodIn_r _ [49, 3, 50, 51, 2, 52, 53, 54, 7, 55, 56, 57, 58, 59, 60, 61, 62, 22, 63, 64, 65, 66, 67, 24, 68, 69, 70, 71, 72, 73, 74, 75, 76, 77, 78, 79, 80, 81, 82, 111, 112, 113, 114, 115, 116, 117, 118, 119, 120, 121, 122, 123, 124, 125, 126, 127, 128, 129, 130, 131] (by decide +kernel) (by decide +kernel)
set_option maxRecDepth 20000 in
theorem gX7_drift_X7_driftOne : GoodIn wsX7_drift (wsV RX7 208 RX7 yX7_driftOne wsX7_driftOne) := goodIn_app (goodIn_of _ (by decide +kernel)) ggX7_drift_X7_driftOne
set_option maxRecDepth 20000 in
theorem ggX7_drift_X3_passYears : GoodIn wsX7_drift wsX3_passYears := goodIn_r _ [86, 24, 87, 88, 41, 34, 35, 36, 89, 90, 61, 62, 22, 63, 64, 65, 66, 67, 68, 69, 70, 91, 92, 93, 94, 95, 76, 77, 78, 96, 97, 98, 16, 99, 100, 101, 102, 103, 104, 105, 106, 107, 108, 109, 110, 131, 120, 121, 122, 123, 124, 125, 126, 127, 128, 129, 130] (by decide +kernel) (by decide +kernel)
set_option maxRecDepth 20000 in
theorem gX7_drift_X3_passYears : GoodIn wsX7_drift (wsV RX7 181 RX3 yX3_passYears wsX3_passYears) := goodIn_app (goodIn_of _ (by decide +kernel)) ggX7_drift_X3_passYears
set_option maxRecDepth 20000 in
theorem ggX7_drift_X3_years : GoodIn wsX7_drift wsX3_years := goodIn_r _ [23, 24, 131] (by decide +kernel) (by decide +kernel)
set_option maxRecDepth 20000 in
theorem gX7_drift_X3_years : GoodIn wsX7_drift (wsV RX7 110 RX3 yX3_years wsX3_years) := goodIn_app (goodIn_of _ (by decide +kernel)) ggX7_drift_X3_years
theorem dX7_drift_0 : decode cX7_drift 0 = .ok (.aload_n 0, 1) := by decide +kernel
theorem dX7_drift_1 : decode cX7_drift 1 = .ok (.iload_n 1, 1) := by decide +kernel
theorem dX7_drift_2 : decode cX7_drift 2 = .ok (.bipush 60, 2) := by decide +kernel
theorem dX7_drift_4 : decode cX7_drift 4 = .ok (.invokevirtual 173, 3) := by decide +kernel
theorem dX7_drift_7 : decode cX7_drift 7 = .ok (.istore_n 2, 1) := by decide +kernel
theorem dX7_drift_8 : decode cX7_drift 8 = .ok (.iload_n 2, 1) := by decide +kernel
theorem dX7_drift_9 : decode cX7_drift 9 = .ok (.ifCond .eq 5, 3) := by decide +kernel
theorem dX7_drift_12 : decode cX7_drift 12 = .ok (.iload_n 2, 1) := by decide +kernel
theorem dX7_drift_13 : decode cX7_drift 13 = .ok (.ireturn, 1) := by decide +kernel
theorem dX7_drift_14 : decode cX7_drift 14 = .ok (.aload_n 0, 1) := by decide +kernel
theorem dX7_drift_15 : decode cX7_drift 15 = .ok (.getfield 36, 3) := by decide +kernel
theorem dX7_drift_18 : decode cX7_drift 18 = .ok (.aload_n 0, 1) := by decide +kernel
theorem dX7_drift_19 : decode cX7_drift 19 = .ok (.getfield 29, 3) := by decide +kernel
theorem dX7_drift_22 : decode cX7_drift 22 = .ok (.invokevirtual 177, 3) := by decide +kernel
theorem dX7_drift_25 : decode cX7_drift 25 = .ok (.iconst 0, 1) := by decide +kernel
theorem dX7_drift_26 : decode cX7_drift 26 = .ok (.istore_n 3, 1) := by decide +kernel
theorem dX7_drift_27 : decode cX7_drift 27 = .ok (.iload_n 3, 1) := by decide +kernel
theorem dX7_drift_28 : decode cX7_drift 28 = .ok (.iload_n 1, 1) := by decide +kernel
theorem dX7_drift_29 : decode cX7_drift 29 = .ok (.if_icmp .ge 25, 3) := by decide +kernel
theorem dX7_drift_32 : decode cX7_drift 32 = .ok (.aload_n 0, 1) := by decide +kernel
theorem dX7_drift_33 : decode cX7_drift 33 = .ok (.invokevirtual 208, 3) := by decide +kernel
theorem dX7_drift_36 : decode cX7_drift 36 = .ok (.aload_n 0, 1) := by decide +kernel
theorem dX7_drift_37 : decode cX7_drift 37 = .ok (.getfield 29, 3) := by decide +kernel
theorem dX7_drift_40 : decode cX7_drift 40 = .ok (.aload_n 0, 1) := by decide +kernel
theorem dX7_drift_41 : decode cX7_drift 41 = .ok (.getfield 19, 3) := by decide +kernel
theorem dX7_drift_44 : decode cX7_drift 44 = .ok (.iconst 1, 1) := by decide +kernel
theorem dX7_drift_45 : decode cX7_drift 45 = .ok (.invokevirtual 181, 3) := by decide +kernel
theorem dX7_drift_48 : decode cX7_drift 48 = .ok (.iinc 3 1, 3) := by decide +kernel
theorem dX7_drift_51 : decode cX7_drift 51 = .ok (.goto (-24), 3) := by decide +kernel
theorem dX7_drift_54 : decode cX7_drift 54 = .ok (.aload_n 0, 1) := by decide +kernel
theorem dX7_drift_55 : decode cX7_drift 55 = .ok (.getfield 29, 3) := by decide +kernel
theorem dX7_drift_58 : decode cX7_drift 58 = .ok (.invokevirtual 110, 3) := by decide +kernel
theorem dX7_drift_61 : decode cX7_drift 61 = .ok (.ireturn, 1) := by decide +kernel
set_option maxRecDepth 20000 in
theorem ggX7_undo_X4_bringBack : GoodIn wsX7_undo wsX4_bringBack := goodIn_r _ [9, 10, 11, 12, 13, 14, 15, 16, 17, 18, 19, 20, 21, 22, 23, 24, 25, 26, 36, 37, 38, 39] (by decide +kernel) (by decide +kernel)
set_option maxRecDepth 20000 in
theorem gX7_undo_X4_bringBack : GoodIn wsX7_undo (wsV RX7 211 RX4 yX4_bringBack wsX4_bringBack) := goodIn_app (goodIn_of _ (by decide +kernel)) ggX7_undo_X4_bringBack
theorem dX7_undo_0 : decode cX7_undo 0 = .ok (.aload_n 0, 1) := by decide +kernel
theorem dX7_undo_1 : decode cX7_undo 1 = .ok (.getfield 36, 3) := by decide +kernel
theorem dX7_undo_4 : decode cX7_undo 4 = .ok (.getfield 130, 3) := by decide +kernel
theorem dX7_undo_7 : decode cX7_undo 7 = .ok (.ifCond .ne 6, 3) := by decide +kernel
theorem dX7_undo_10 : decode cX7_undo 10 = .ok (.ldc 188, 2) := by decide +kernel
theorem dX7_undo_12 : decode cX7_undo 12 = .ok (.ireturn, 1) := by decide +kernel
theorem dX7_undo_13 : decode cX7_undo 13 = .ok (.aload_n 0, 1) := by decide +kernel
theorem dX7_undo_14 : decode cX7_undo 14 = .ok (.getfield 36, 3) := by decide +kernel
theorem dX7_undo_17 : decode cX7_undo 17 = .ok (.aload_n 0, 1) := by decide +kernel
theorem dX7_undo_18 : decode cX7_undo 18 = .ok (.getfield 29, 3) := by decide +kernel
theorem dX7_undo_21 : decode cX7_undo 21 = .ok (.invokevirtual 211, 3) := by decide +kernel
theorem dX7_undo_24 : decode cX7_undo 24 = .ok (.aload_n 0, 1) := by decide +kernel
theorem dX7_undo_25 : decode cX7_undo 25 = .ok (.getfield 36, 3) := by decide +kernel
theorem dX7_undo_28 : decode cX7_undo 28 = .ok (.getfield 130, 3) := by decide +kernel
theorem dX7_undo_31 : decode cX7_undo 31 = .ok (.ireturn, 1) := by decide +kernel
set_option maxRecDepth 20000 in
theorem ggX7_refuseYears_X5_isTold : GoodIn wsX7_refuseYears wsX5_isTold := goodIn_r _ [11, 12, 28, 29, 30, 31, 32, 33, 34, 35, 36, 37, 38] (by decide +kernel) (by decide +kernel)
set_option maxRecDepth 20000 in
theorem gX7_refuseYears_X5_isTold : GoodIn wsX7_refuseYears (wsV RX7 214 RX5 yX5_isTold wsX5_isTold) := goodIn_app (goodIn_of _ (by decide +kernel)) ggX7_refuseYears_X5_isTold
set_option maxRecDepth 20000 in
theorem ggX7_refuseYears_X3_years : GoodIn wsX7_refuseYears wsX3_years := goodIn_r _ [17, 18, 39] (by decide +kernel) (by decide +kernel)
set_option maxRecDepth 20000 in
theorem gX7_refuseYears_X3_years : GoodIn wsX7_refuseYears (wsV RX7 110 RX3 yX3_years wsX3_years) := goodIn_app (goodIn_of _ (by decide +kernel)) ggX7_refuseYears_X3_years
theorem dX7_refuseYears_0 : decode cX7_refuseYears 0 = .ok (.iload_n 1, 1) := by decide +kernel
theorem dX7_refuseYears_1 : decode cX7_refuseYears 1 = .ok (.iconst 1, 1) := by decide +kernel
theorem dX7_refuseYears_2 : decode cX7_refuseYears 2 = .ok (.if_icmp .lt 8, 3) := by decide +kernel
theorem dX7_refuseYears_5 : decode cX7_refuseYears 5 = .ok (.iload_n 1, 1) := by decide +kernel
theorem dX7_refuseYears_6 : decode cX7_refuseYears 6 = .ok (.iload_n 2, 1) := by decide +kernel
theorem dX7_refuseYears_7 : decode cX7_refuseYears 7 = .ok (.if_icmp .le 6, 3) := by decide +kernel
theorem dX7_refuseYears_10 : decode cX7_refuseYears 10 = .ok (.ldc 61, 2) := by decide +kernel
theorem dX7_refuseYears_12 : decode cX7_refuseYears 12 = .ok (.ireturn, 1) := by decide +kernel
theorem dX7_refuseYears_13 : decode cX7_refuseYears 13 = .ok (.aload_n 0, 1) := by decide +kernel
theorem dX7_refuseYears_14 : decode cX7_refuseYears 14 = .ok (.getfield 19, 3) := by decide +kernel
theorem dX7_refuseYears_17 : decode cX7_refuseYears 17 = .ok (.invokevirtual 214, 3) := by decide +kernel
theorem dX7_refuseYears_20 : decode cX7_refuseYears 20 = .ok (.ifCond .ne 6, 3) := by decide +kernel
theorem dX7_refuseYears_23 : decode cX7_refuseYears 23 = .ok (.ldc 188, 2) := by decide +kernel
theorem dX7_refuseYears_25 : decode cX7_refuseYears 25 = .ok (.ireturn, 1) := by decide +kernel
theorem dX7_refuseYears_26 : decode cX7_refuseYears 26 = .ok (.aload_n 0, 1) := by decide +kernel
theorem dX7_refuseYears_27 : decode cX7_refuseYears 27 = .ok (.getfield 29, 3) := by decide +kernel
theorem dX7_refuseYears_30 : decode cX7_refuseYears 30 = .ok (.invokevirtual 110, 3) := by decide +kernel
theorem dX7_refuseYears_33 : decode cX7_refuseYears 33 = .ok (.ldc 218, 2) := by decide +kernel
theorem dX7_refuseYears_35 : decode cX7_refuseYears 35 = .ok (.if_icmp .le 8, 3) := by decide +kernel
theorem dX7_refuseYears_38 : decode cX7_refuseYears 38 = .ok (.ldc 66, 2) := by decide +kernel
theorem dX7_refuseYears_40 : decode cX7_refuseYears 40 = .ok (.goto 4, 3) := by decide +kernel
theorem dX7_refuseYears_43 : decode cX7_refuseYears 43 = .ok (.iconst 0, 1) := by decide +kernel
theorem dX7_refuseYears_44 : decode cX7_refuseYears 44 = .ok (.ireturn, 1) := by decide +kernel
set_option maxRecDepth 20000 in
theorem ggX7_refuseUnlessAbove_X5_hasPerson : GoodIn wsX7_refuseUnlessAbove wsX5_hasPerson := goodIn_r _ [9, 10, 33, 34, 35, 36, 37, 38, 39, 40, 41, 42, 43] (by decide +kernel) (by decide +kernel)
set_option maxRecDepth 20000 in
theorem gX7_refuseUnlessAbove_X5_hasPerson : GoodIn wsX7_refuseUnlessAbove (wsV RX7 140 RX5 yX5_hasPerson wsX5_hasPerson) := goodIn_app (goodIn_of _ (by decide +kernel)) ggX7_refuseUnlessAbove_X5_hasPerson
set_option maxRecDepth 20000 in
theorem ggX7_refuseUnlessAbove_X3_isAbove : GoodIn wsX7_refuseUnlessAbove wsX3_isAbove := goodIn_r _ [15, 16, 17, 18, 14, 19, 20, 21, 22, 23, 44] (by decide +kernel) (by decide +kernel)
set_option maxRecDepth 20000 in
theorem gX7_refuseUnlessAbove_X3_isAbove : GoodIn wsX7_refuseUnlessAbove (wsV RX7 185 RX3 yX3_isAbove wsX3_isAbove) := goodIn_app (goodIn_of _ (by decide +kernel)) ggX7_refuseUnlessAbove_X3_isAbove
theorem dX7_refuseUnlessAbove_0 : decode cX7_refuseUnlessAbove 0 = .ok (.aload_n 0, 1) := by decide +kernel
theorem dX7_refuseUnlessAbove_1 : decode cX7_refuseUnlessAbove 1 = .ok (.getfield 19, 3) := by decide +kernel
theorem dX7_refuseUnlessAbove_4 : decode cX7_refuseUnlessAbove 4 = .ok (.iload_n 1, 1) := by decide +kernel
theorem dX7_refuseUnlessAbove_5 : decode cX7_refuseUnlessAbove 5 = .ok (.invokevirtual 140, 3) := by decide +kernel
theorem dX7_refuseUnlessAbove_8 : decode cX7_refuseUnlessAbove 8 = .ok (.ifCond .ne 6, 3) := by decide +kernel
theorem dX7_refuseUnlessAbove_11 : decode cX7_refuseUnlessAbove 11 = .ok (.ldc 139, 2) := by decide +kernel
theorem dX7_refuseUnlessAbove_13 : decode cX7_refuseUnlessAbove 13 = .ok (.ireturn, 1) := by decide +kernel
theorem dX7_refuseUnlessAbove_14 : decode cX7_refuseUnlessAbove 14 = .ok (.aload_n 0, 1) := by decide +kernel
theorem dX7_refuseUnlessAbove_15 : decode cX7_refuseUnlessAbove 15 = .ok (.getfield 29, 3) := by decide +kernel
theorem dX7_refuseUnlessAbove_18 : decode cX7_refuseUnlessAbove 18 = .ok (.iload_n 1, 1) := by decide +kernel
theorem dX7_refuseUnlessAbove_19 : decode cX7_refuseUnlessAbove 19 = .ok (.invokevirtual 185, 3) := by decide +kernel
theorem dX7_refuseUnlessAbove_22 : decode cX7_refuseUnlessAbove 22 = .ok (.ifCond .eq 7, 3) := by decide +kernel
theorem dX7_refuseUnlessAbove_25 : decode cX7_refuseUnlessAbove 25 = .ok (.iconst 0, 1) := by decide +kernel
theorem dX7_refuseUnlessAbove_26 : decode cX7_refuseUnlessAbove 26 = .ok (.goto 5, 3) := by decide +kernel
theorem dX7_refuseUnlessAbove_29 : decode cX7_refuseUnlessAbove 29 = .ok (.ldc 188, 2) := by decide +kernel
theorem dX7_refuseUnlessAbove_31 : decode cX7_refuseUnlessAbove 31 = .ok (.ireturn, 1) := by decide +kernel
set_option maxRecDepth 20000 in
theorem ggX7_areTwoPersons_X5_hasPerson : GoodIn wsX7_areTwoPersons wsX5_hasPerson := goodIn_r _ [6, 7, 17, 18, 19, 20, 21, 22, 23, 24, 25, 26, 27] (by decide +kernel) (by decide +kernel)
set_option maxRecDepth 20000 in
theorem gX7_areTwoPersons_X5_hasPerson : GoodIn wsX7_areTwoPersons (wsV RX7 140 RX5 yX5_hasPerson wsX5_hasPerson) := goodIn_app (goodIn_of _ (by decide +kernel)) ggX7_areTwoPersons_X5_hasPerson
theorem dX7_areTwoPersons_0 : decode cX7_areTwoPersons 0 = .ok (.aload_n 0, 1) := by decide +kernel
theorem dX7_areTwoPersons_1 : decode cX7_areTwoPersons 1 = .ok (.getfield 19, 3) := by decide +kernel
theorem dX7_areTwoPersons_4 : decode cX7_areTwoPersons 4 = .ok (.iload_n 1, 1) := by decide +kernel
theorem dX7_areTwoPersons_5 : decode cX7_areTwoPersons 5 = .ok (.invokevirtual 140, 3) := by decide +kernel
theorem dX7_areTwoPersons_8 : decode cX7_areTwoPersons 8 = .ok (.ifCond .eq 23, 3) := by decide +kernel
theorem dX7_areTwoPersons_11 : decode cX7_areTwoPersons 11 = .ok (.aload_n 0, 1) := by decide +kernel
theorem dX7_areTwoPersons_12 : decode cX7_areTwoPersons 12 = .ok (.getfield 19, 3) := by decide +kernel
theorem dX7_areTwoPersons_15 : decode cX7_areTwoPersons 15 = .ok (.iload_n 2, 1) := by decide +kernel
theorem dX7_areTwoPersons_16 : decode cX7_areTwoPersons 16 = .ok (.invokevirtual 140, 3) := by decide +kernel
theorem dX7_areTwoPersons_19 : decode cX7_areTwoPersons 19 = .ok (.ifCond .eq 12, 3) := by decide +kernel
theorem dX7_areTwoPersons_22 : decode cX7_areTwoPersons 22 = .ok (.iload_n 1, 1) := by decide +kernel
theorem dX7_areTwoPersons_23 : decode cX7_areTwoPersons 23 = .ok (.iload_n 2, 1) := by decide +kernel
theorem dX7_areTwoPersons_24 : decode cX7_areTwoPersons 24 = .ok (.if_icmp .eq 7, 3) := by decide +kernel
theorem dX7_areTwoPersons_27 : decode cX7_areTwoPersons 27 = .ok (.iconst 1, 1) := by decide +kernel
theorem dX7_areTwoPersons_28 : decode cX7_areTwoPersons 28 = .ok (.goto 4, 3) := by decide +kernel
theorem dX7_areTwoPersons_31 : decode cX7_areTwoPersons 31 = .ok (.iconst 0, 1) := by decide +kernel
theorem dX7_areTwoPersons_32 : decode cX7_areTwoPersons 32 = .ok (.ireturn, 1) := by decide +kernel
set_option maxRecDepth 20000 in
theorem ggX7_driftOne_X7_draw : GoodIn wsX7_driftOne wsX7_draw := goodIn_r _ [9, 10, 11, 12, 13, 39, 40, 41, 42, 43, 44, 45, 46, 47] (by decide +kernel) (by decide +kernel)
set_option maxRecDepth 20000 in
theorem gX7_driftOne_X7_draw : GoodIn wsX7_driftOne (wsV RX7 219 RX7 yX7_draw wsX7_draw) := goodIn_app (goodIn_of _ (by decide +kernel)) ggX7_driftOne_X7_draw
set_option maxRecDepth 20000 in
theorem ggX7_driftOne_X3_isAbove : GoodIn wsX7_driftOne wsX3_isAbove := goodIn_r _ [18, 19, 20, 21, 17, 22, 23, 24, 25, 26, 59] (by decide +kernel) (by decide +kernel)
set_option maxRecDepth 20000 in
theorem gX7_driftOne_X3_isAbove : GoodIn wsX7_driftOne (wsV RX7 185 RX3 yX3_isAbove wsX3_isAbove) := goodIn_app (goodIn_of _ (by decide +kernel)) ggX7_driftOne_X3_isAbove
set_option maxRecDepth 20000 in
theorem ggX7_driftOne_X3_goDown : GoodIn wsX7_driftOne wsX3_goDown := goodIn_r _ [30, 23, 24, 25, 17, 26, 59] (by decide +kernel) (by decide +kernel)
set_option maxRecDepth 20000 in
theorem gX7_driftOne_X3_goDown : GoodIn wsX7_driftOne (wsV RX7 189 RX3 yX3_goDown wsX3_goDown) := goodIn_app (goodIn_of _ (by decide +kernel)) ggX7_driftOne_X3_goDown
set_option maxRecDepth 20000 in
theorem ggX7_driftOne_X3_isBelow : GoodIn wsX7_driftOne wsX3_isBelow := goodIn_r _ [34, 19, 20, 21, 17, 22, 23, 24, 25, 26, 59] (by decide +kernel) (by decide +kernel)
set_option maxRecDepth 20000 in
theorem gX7_driftOne_X3_isBelow : GoodIn wsX7_driftOne (wsV RX7 193 RX3 yX3_isBelow wsX3_isBelow) := goodIn_app (goodIn_of _ (by decide +kernel)) ggX7_driftOne_X3_isBelow
set_option maxRecDepth 20000 in
theorem ggX7_driftOne_X3_comeUp : GoodIn wsX7_driftOne wsX3_comeUp := goodIn_r _ [38, 23, 24, 25, 17, 26, 59] (by decide +kernel) (by decide +kernel)
set_option maxRecDepth 20000 in
theorem gX7_driftOne_X3_comeUp : GoodIn wsX7_driftOne (wsV RX7 196 RX3 yX3_comeUp wsX3_comeUp) := goodIn_app (goodIn_of _ (by decide +kernel)) ggX7_driftOne_X3_comeUp
theorem dX7_driftOne_0 : decode cX7_driftOne 0 = .ok (.aload_n 0, 1) := by decide +kernel
theorem dX7_driftOne_1 : decode cX7_driftOne 1 = .ok (.getfield 19, 3) := by decide +kernel
theorem dX7_driftOne_4 : decode cX7_driftOne 4 = .ok (.getfield 92, 3) := by decide +kernel
theorem dX7_driftOne_7 : decode cX7_driftOne 7 = .ok (.ifCond .eq 13, 3) := by decide +kernel
theorem dX7_driftOne_10 : decode cX7_driftOne 10 = .ok (.aload_n 0, 1) := by decide +kernel
theorem dX7_driftOne_11 : decode cX7_driftOne 11 = .ok (.getfield 19, 3) := by decide +kernel
theorem dX7_driftOne_14 : decode cX7_driftOne 14 = .ok (.getfield 104, 3) := by decide +kernel
theorem dX7_driftOne_17 : decode cX7_driftOne 17 = .ok (.ifCond .ne 4, 3) := by decide +kernel
theorem dX7_driftOne_20 : decode cX7_driftOne 20 = .ok (.return_, 1) := by decide +kernel
theorem dX7_driftOne_21 : decode cX7_driftOne 21 = .ok (.aload_n 0, 1) := by decide +kernel
theorem dX7_driftOne_22 : decode cX7_driftOne 22 = .ok (.aload_n 0, 1) := by decide +kernel
theorem dX7_driftOne_23 : decode cX7_driftOne 23 = .ok (.getfield 19, 3) := by decide +kernel
theorem dX7_driftOne_26 : decode cX7_driftOne 26 = .ok (.getfield 92, 3) := by decide +kernel
theorem dX7_driftOne_29 : decode cX7_driftOne 29 = .ok (.invokevirtual 219, 3) := by decide +kernel
theorem dX7_driftOne_32 : decode cX7_driftOne 32 = .ok (.istore_n 1, 1) := by decide +kernel
theorem dX7_driftOne_33 : decode cX7_driftOne 33 = .ok (.aload_n 0, 1) := by decide +kernel
theorem dX7_driftOne_34 : decode cX7_driftOne 34 = .ok (.aload_n 0, 1) := by decide +kernel
theorem dX7_driftOne_35 : decode cX7_driftOne 35 = .ok (.getfield 19, 3) := by decide +kernel
theorem dX7_driftOne_38 : decode cX7_driftOne 38 = .ok (.getfield 104, 3) := by decide +kernel
theorem dX7_driftOne_41 : decode cX7_driftOne 41 = .ok (.iconst 2, 1) := by decide +kernel
theorem dX7_driftOne_42 : decode cX7_driftOne 42 = .ok (.iadd, 1) := by decide +kernel
theorem dX7_driftOne_43 : decode cX7_driftOne 43 = .ok (.invokevirtual 219, 3) := by decide +kernel
theorem dX7_driftOne_46 : decode cX7_driftOne 46 = .ok (.istore_n 2, 1) := by decide +kernel
theorem dX7_driftOne_47 : decode cX7_driftOne 47 = .ok (.iload_n 2, 1) := by decide +kernel
theorem dX7_driftOne_48 : decode cX7_driftOne 48 = .ok (.aload_n 0, 1) := by decide +kernel
theorem dX7_driftOne_49 : decode cX7_driftOne 49 = .ok (.getfield 19, 3) := by decide +kernel
theorem dX7_driftOne_52 : decode cX7_driftOne 52 = .ok (.getfield 104, 3) := by decide +kernel
theorem dX7_driftOne_55 : decode cX7_driftOne 55 = .ok (.if_icmp .ge 26, 3) := by decide +kernel
theorem dX7_driftOne_58 : decode cX7_driftOne 58 = .ok (.aload_n 0, 1) := by decide +kernel
theorem dX7_driftOne_59 : decode cX7_driftOne 59 = .ok (.getfield 29, 3) := by decide +kernel
theorem dX7_driftOne_62 : decode cX7_driftOne 62 = .ok (.iload_n 1, 1) := by decide +kernel
theorem dX7_driftOne_63 : decode cX7_driftOne 63 = .ok (.invokevirtual 185, 3) := by decide +kernel
theorem dX7_driftOne_66 : decode cX7_driftOne 66 = .ok (.ifCond .eq 34, 3) := by decide +kernel
theorem dX7_driftOne_69 : decode cX7_driftOne 69 = .ok (.aload_n 0, 1) := by decide +kernel
theorem dX7_driftOne_70 : decode cX7_driftOne 70 = .ok (.getfield 29, 3) := by decide +kernel
theorem dX7_driftOne_73 : decode cX7_driftOne 73 = .ok (.iload_n 1, 1) := by decide +kernel
theorem dX7_driftOne_74 : decode cX7_driftOne 74 = .ok (.iload_n 2, 1) := by decide +kernel
theorem dX7_driftOne_75 : decode cX7_driftOne 75 = .ok (.invokevirtual 189, 3) := by decide +kernel
theorem dX7_driftOne_78 : decode cX7_driftOne 78 = .ok (.goto 22, 3) := by decide +kernel
theorem dX7_driftOne_81 : decode cX7_driftOne 81 = .ok (.aload_n 0, 1) := by decide +kernel
theorem dX7_driftOne_82 : decode cX7_driftOne 82 = .ok (.getfield 29, 3) := by decide +kernel
theorem dX7_driftOne_85 : decode cX7_driftOne 85 = .ok (.iload_n 1, 1) := by decide +kernel
theorem dX7_driftOne_86 : decode cX7_driftOne 86 = .ok (.invokevirtual 193, 3) := by decide +kernel
theorem dX7_driftOne_89 : decode cX7_driftOne 89 = .ok (.ifCond .eq 11, 3) := by decide +kernel
theorem dX7_driftOne_92 : decode cX7_driftOne 92 = .ok (.aload_n 0, 1) := by decide +kernel
theorem dX7_driftOne_93 : decode cX7_driftOne 93 = .ok (.getfield 29, 3) := by decide +kernel
theorem dX7_driftOne_96 : decode cX7_driftOne 96 = .ok (.iload_n 1, 1) := by decide +kernel
theorem dX7_driftOne_97 : decode cX7_driftOne 97 = .ok (.invokevirtual 196, 3) := by decide +kernel
theorem dX7_driftOne_100 : decode cX7_driftOne 100 = .ok (.return_, 1) := by decide +kernel
theorem dX7_draw_0 : decode cX7_draw 0 = .ok (.aload_n 0, 1) := by decide +kernel
theorem dX7_draw_1 : decode cX7_draw 1 = .ok (.aload_n 0, 1) := by decide +kernel
theorem dX7_draw_2 : decode cX7_draw 2 = .ok (.getfield 222, 3) := by decide +kernel
theorem dX7_draw_5 : decode cX7_draw 5 = .ok (.ldc 225, 2) := by decide +kernel
theorem dX7_draw_7 : decode cX7_draw 7 = .ok (.imul, 1) := by decide +kernel
theorem dX7_draw_8 : decode cX7_draw 8 = .ok (.sipush 12345, 3) := by decide +kernel
theorem dX7_draw_11 : decode cX7_draw 11 = .ok (.iadd, 1) := by decide +kernel
theorem dX7_draw_12 : decode cX7_draw 12 = .ok (.ldc 226, 2) := by decide +kernel
theorem dX7_draw_14 : decode cX7_draw 14 = .ok (.iand, 1) := by decide +kernel
theorem dX7_draw_15 : decode cX7_draw 15 = .ok (.putfield 222, 3) := by decide +kernel
theorem dX7_draw_18 : decode cX7_draw 18 = .ok (.iload_n 1, 1) := by decide +kernel
theorem dX7_draw_19 : decode cX7_draw 19 = .ok (.iconst 1, 1) := by decide +kernel
theorem dX7_draw_20 : decode cX7_draw 20 = .ok (.if_icmp .ge 7, 3) := by decide +kernel
theorem dX7_draw_23 : decode cX7_draw 23 = .ok (.iconst 0, 1) := by decide +kernel
theorem dX7_draw_24 : decode cX7_draw 24 = .ok (.goto 12, 3) := by decide +kernel
theorem dX7_draw_27 : decode cX7_draw 27 = .ok (.aload_n 0, 1) := by decide +kernel
theorem dX7_draw_28 : decode cX7_draw 28 = .ok (.getfield 222, 3) := by decide +kernel
theorem dX7_draw_31 : decode cX7_draw 31 = .ok (.ldc 227, 2) := by decide +kernel
theorem dX7_draw_33 : decode cX7_draw 33 = .ok (.idiv, 1) := by decide +kernel
theorem dX7_draw_34 : decode cX7_draw 34 = .ok (.iload_n 1, 1) := by decide +kernel
theorem dX7_draw_35 : decode cX7_draw 35 = .ok (.irem, 1) := by decide +kernel
theorem dX7_draw_36 : decode cX7_draw 36 = .ok (.ireturn, 1) := by decide +kernel
set_option maxRecDepth 20000 in
theorem ggX7_meet_X7_areTwoPersons : GoodIn wsX7_meet wsX7_areTwoPersons := goodIn_r _ [20, 1, 21, 22, 23, 24, 25, 26, 49, 50, 51, 52, 53, 54, 55, 56, 57, 58, 59, 60, 61, 62, 63, 64, 65, 66, 67, 68] (by decide +kernel) (by decide +kernel)
set_option maxRecDepth 20000 in
theorem gX7_meet_X7_areTwoPersons : GoodIn wsX7_meet (wsV RX7 228 RX7 yX7_areTwoPersons wsX7_areTwoPersons) := goodIn_app (goodIn_of _ (by decide +kernel)) ggX7_meet_X7_areTwoPersons
set_option maxRecDepth 20000 in
theorem ggX7_meet_X5_hasDepth : GoodIn wsX7_meet wsX5_hasDepth := goodIn_r _ [30, 31, 58, 59, 60, 61, 62, 63, 64, 65, 66, 67, 68] (by decide +kernel) (by decide +kernel)
set_option maxRecDepth 20000 in
theorem gX7_meet_X5_hasDepth : GoodIn wsX7_meet (wsV RX7 131 RX5 yX5_hasDepth wsX5_hasDepth) := goodIn_app (goodIn_of _ (by decide +kernel)) ggX7_meet_X5_hasDepth
set_option maxRecDepth 20000 in
theorem ggX7_meet_X3_isAbove : GoodIn wsX7_meet wsX3_isAbove := goodIn_r _ [36, 37, 38, 39, 35, 40, 41, 42, 43, 44, 69] (by decide +kernel) (by decide +kernel)
set_option maxRecDepth 20000 in
theorem gX7_meet_X3_isAbove : GoodIn wsX7_meet (wsV RX7 185 RX3 yX3_isAbove wsX3_isAbove) := goodIn_app (goodIn_of _ (by decide +kernel)) ggX7_meet_X3_isAbove
set_option maxRecDepth 20000 in
theorem ggX7_meet_X3_age : GoodIn wsX7_meet wsX3_age := goodIn_r _ [48, 41, 42, 43, 35, 44, 69] (by decide +kernel) (by decide +kernel)
set_option maxRecDepth 20000 in
theorem gX7_meet_X3_age : GoodIn wsX7_meet (wsV RX7 143 RX3 yX3_age wsX3_age) := goodIn_app (goodIn_of _ (by decide +kernel)) ggX7_meet_X3_age
theorem dX7_meet_0 : decode cX7_meet 0 = .ok (.aload_n 0, 1) := by decide +kernel
theorem dX7_meet_1 : decode cX7_meet 1 = .ok (.iload_n 1, 1) := by decide +kernel
theorem dX7_meet_2 : decode cX7_meet 2 = .ok (.iload_n 2, 1) := by decide +kernel
theorem dX7_meet_3 : decode cX7_meet 3 = .ok (.invokevirtual 228, 3) := by decide +kernel
theorem dX7_meet_6 : decode cX7_meet 6 = .ok (.ifCond .eq 14, 3) := by decide +kernel
theorem dX7_meet_9 : decode cX7_meet 9 = .ok (.aload_n 0, 1) := by decide +kernel
theorem dX7_meet_10 : decode cX7_meet 10 = .ok (.getfield 19, 3) := by decide +kernel
theorem dX7_meet_13 : decode cX7_meet 13 = .ok (.iload_n 3, 1) := by decide +kernel
theorem dX7_meet_14 : decode cX7_meet 14 = .ok (.invokevirtual 131, 3) := by decide +kernel
theorem dX7_meet_17 : decode cX7_meet 17 = .ok (.ifCond .ne 6, 3) := by decide +kernel
theorem dX7_meet_20 : decode cX7_meet 20 = .ok (.ldc 139, 2) := by decide +kernel
theorem dX7_meet_22 : decode cX7_meet 22 = .ok (.ireturn, 1) := by decide +kernel
theorem dX7_meet_23 : decode cX7_meet 23 = .ok (.iload 4, 2) := by decide +kernel
theorem dX7_meet_25 : decode cX7_meet 25 = .ok (.sipush (-199), 3) := by decide +kernel
theorem dX7_meet_28 : decode cX7_meet 28 = .ok (.if_icmp .lt 22, 3) := by decide +kernel
theorem dX7_meet_31 : decode cX7_meet 31 = .ok (.iload 4, 2) := by decide +kernel
theorem dX7_meet_33 : decode cX7_meet 33 = .ok (.sipush 199, 3) := by decide +kernel
theorem dX7_meet_36 : decode cX7_meet 36 = .ok (.if_icmp .gt 14, 3) := by decide +kernel
theorem dX7_meet_39 : decode cX7_meet 39 = .ok (.iload 5, 2) := by decide +kernel
theorem dX7_meet_41 : decode cX7_meet 41 = .ok (.ifCond .lt 9, 3) := by decide +kernel
theorem dX7_meet_44 : decode cX7_meet 44 = .ok (.iload 5, 2) := by decide +kernel
theorem dX7_meet_46 : decode cX7_meet 46 = .ok (.iconst 1, 1) := by decide +kernel
theorem dX7_meet_47 : decode cX7_meet 47 = .ok (.if_icmp .le 6, 3) := by decide +kernel
theorem dX7_meet_50 : decode cX7_meet 50 = .ok (.ldc 61, 2) := by decide +kernel
theorem dX7_meet_52 : decode cX7_meet 52 = .ok (.ireturn, 1) := by decide +kernel
theorem dX7_meet_53 : decode cX7_meet 53 = .ok (.aload_n 0, 1) := by decide +kernel
theorem dX7_meet_54 : decode cX7_meet 54 = .ok (.getfield 29, 3) := by decide +kernel
theorem dX7_meet_57 : decode cX7_meet 57 = .ok (.iload_n 1, 1) := by decide +kernel
theorem dX7_meet_58 : decode cX7_meet 58 = .ok (.invokevirtual 185, 3) := by decide +kernel
theorem dX7_meet_61 : decode cX7_meet 61 = .ok (.ifCond .eq 14, 3) := by decide +kernel
theorem dX7_meet_64 : decode cX7_meet 64 = .ok (.aload_n 0, 1) := by decide +kernel
theorem dX7_meet_65 : decode cX7_meet 65 = .ok (.getfield 29, 3) := by decide +kernel
theorem dX7_meet_68 : decode cX7_meet 68 = .ok (.iload_n 2, 1) := by decide +kernel
theorem dX7_meet_69 : decode cX7_meet 69 = .ok (.invokevirtual 185, 3) := by decide +kernel
theorem dX7_meet_72 : decode cX7_meet 72 = .ok (.ifCond .ne 6, 3) := by decide +kernel
theorem dX7_meet_75 : decode cX7_meet 75 = .ok (.ldc 188, 2) := by decide +kernel
theorem dX7_meet_77 : decode cX7_meet 77 = .ok (.ireturn, 1) := by decide +kernel
theorem dX7_meet_78 : decode cX7_meet 78 = .ok (.ldc 226, 2) := by decide +kernel
theorem dX7_meet_80 : decode cX7_meet 80 = .ok (.istore 6, 2) := by decide +kernel
theorem dX7_meet_82 : decode cX7_meet 82 = .ok (.iconst 0, 1) := by decide +kernel
theorem dX7_meet_83 : decode cX7_meet 83 = .ok (.istore 7, 2) := by decide +kernel
theorem dX7_meet_85 : decode cX7_meet 85 = .ok (.iload 7, 2) := by decide +kernel
theorem dX7_meet_87 : decode cX7_meet 87 = .ok (.bipush 99, 2) := by decide +kernel
theorem dX7_meet_89 : decode cX7_meet 89 = .ok (.if_icmp .gt 80, 3) := by decide +kernel
theorem dX7_meet_92 : decode cX7_meet 92 = .ok (.aload_n 0, 1) := by decide +kernel
theorem dX7_meet_93 : decode cX7_meet 93 = .ok (.getfield 29, 3) := by decide +kernel
theorem dX7_meet_96 : decode cX7_meet 96 = .ok (.iload_n 1, 1) := by decide +kernel
theorem dX7_meet_97 : decode cX7_meet 97 = .ok (.invokevirtual 143, 3) := by decide +kernel
theorem dX7_meet_100 : decode cX7_meet 100 = .ok (.iload 7, 2) := by decide +kernel
theorem dX7_meet_102 : decode cX7_meet 102 = .ok (.aload_n 0, 1) := by decide +kernel
theorem dX7_meet_103 : decode cX7_meet 103 = .ok (.getfield 19, 3) := by decide +kernel
theorem dX7_meet_106 : decode cX7_meet 106 = .ok (.getfield 135, 3) := by decide +kernel
theorem dX7_meet_109 : decode cX7_meet 109 = .ok (.iload_n 3, 1) := by decide +kernel
theorem dX7_meet_110 : decode cX7_meet 110 = .ok (.iaload, 1) := by decide +kernel
theorem dX7_meet_111 : decode cX7_meet 111 = .ok (.imul, 1) := by decide +kernel
theorem dX7_meet_112 : decode cX7_meet 112 = .ok (.iadd, 1) := by decide +kernel
theorem dX7_meet_113 : decode cX7_meet 113 = .ok (.istore 8, 2) := by decide +kernel
theorem dX7_meet_115 : decode cX7_meet 115 = .ok (.iload 8, 2) := by decide +kernel
theorem dX7_meet_117 : decode cX7_meet 117 = .ok (.aload_n 0, 1) := by decide +kernel
theorem dX7_meet_118 : decode cX7_meet 118 = .ok (.getfield 19, 3) := by decide +kernel
theorem dX7_meet_121 : decode cX7_meet 121 = .ok (.getfield 146, 3) := by decide +kernel
theorem dX7_meet_124 : decode cX7_meet 124 = .ok (.iload_n 1, 1) := by decide +kernel
theorem dX7_meet_125 : decode cX7_meet 125 = .ok (.iaload, 1) := by decide +kernel
theorem dX7_meet_126 : decode cX7_meet 126 = .ok (.if_icmp .ge 37, 3) := by decide +kernel
theorem dX7_meet_129 : decode cX7_meet 129 = .ok (.iload 8, 2) := by decide +kernel
theorem dX7_meet_131 : decode cX7_meet 131 = .ok (.aload_n 0, 1) := by decide +kernel
theorem dX7_meet_132 : decode cX7_meet 132 = .ok (.getfield 29, 3) := by decide +kernel
theorem dX7_meet_135 : decode cX7_meet 135 = .ok (.iload_n 2, 1) := by decide +kernel
theorem dX7_meet_136 : decode cX7_meet 136 = .ok (.invokevirtual 143, 3) := by decide +kernel
theorem dX7_meet_139 : decode cX7_meet 139 = .ok (.isub, 1) := by decide +kernel
theorem dX7_meet_140 : decode cX7_meet 140 = .ok (.iload 4, 2) := by decide +kernel
theorem dX7_meet_142 : decode cX7_meet 142 = .ok (.isub, 1) := by decide +kernel
theorem dX7_meet_143 : decode cX7_meet 143 = .ok (.invokestatic 232, 3) := by decide +kernel
theorem dX7_meet_146 : decode cX7_meet 146 = .ok (.istore 9, 2) := by decide +kernel
theorem dX7_meet_148 : decode cX7_meet 148 = .ok (.iload 6, 2) := by decide +kernel
theorem dX7_meet_150 : decode cX7_meet 150 = .ok (.iload 9, 2) := by decide +kernel
theorem dX7_meet_152 : decode cX7_meet 152 = .ok (.bipush 100, 2) := by decide +kernel
theorem dX7_meet_154 : decode cX7_meet 154 = .ok (.imul, 1) := by decide +kernel
theorem dX7_meet_155 : decode cX7_meet 155 = .ok (.iload 7, 2) := by decide +kernel
theorem dX7_meet_157 : decode cX7_meet 157 = .ok (.iadd, 1) := by decide +kernel
theorem dX7_meet_158 : decode cX7_meet 158 = .ok (.invokestatic 237, 3) := by decide +kernel
theorem dX7_meet_161 : decode cX7_meet 161 = .ok (.istore 6, 2) := by decide +kernel
theorem dX7_meet_163 : decode cX7_meet 163 = .ok (.iinc 7 1, 3) := by decide +kernel
theorem dX7_meet_166 : decode cX7_meet 166 = .ok (.goto (-81), 3) := by decide +kernel
theorem dX7_meet_169 : decode cX7_meet 169 = .ok (.iload 6, 2) := by decide +kernel
theorem dX7_meet_171 : decode cX7_meet 171 = .ok (.ldc 226, 2) := by decide +kernel
theorem dX7_meet_173 : decode cX7_meet 173 = .ok (.if_icmp .ne 5, 3) := by decide +kernel
theorem dX7_meet_176 : decode cX7_meet 176 = .ok (.iconst (-1), 1) := by decide +kernel
theorem dX7_meet_177 : decode cX7_meet 177 = .ok (.ireturn, 1) := by decide +kernel
theorem dX7_meet_178 : decode cX7_meet 178 = .ok (.iload 5, 2) := by decide +kernel
theorem dX7_meet_180 : decode cX7_meet 180 = .ok (.ifCond .ne 11, 3) := by decide +kernel
theorem dX7_meet_183 : decode cX7_meet 183 = .ok (.iload 6, 2) := by decide +kernel
theorem dX7_meet_185 : decode cX7_meet 185 = .ok (.bipush 100, 2) := by decide +kernel
theorem dX7_meet_187 : decode cX7_meet 187 = .ok (.irem, 1) := by decide +kernel
theorem dX7_meet_188 : decode cX7_meet 188 = .ok (.goto 8, 3) := by decide +kernel
theorem dX7_meet_191 : decode cX7_meet 191 = .ok (.iload 6, 2) := by decide +kernel
theorem dX7_meet_193 : decode cX7_meet 193 = .ok (.bipush 100, 2) := by decide +kernel
theorem dX7_meet_195 : decode cX7_meet 195 = .ok (.idiv, 1) := by decide +kernel
theorem dX7_meet_196 : decode cX7_meet 196 = .ok (.ireturn, 1) := by decide +kernel
set_option maxRecDepth 20000 in
theorem ggX7_both_X7_areTwoPersons : GoodIn wsX7_both wsX7_areTwoPersons := goodIn_r _ [16, 6, 17, 18, 19, 20, 21, 22, 62, 63, 64, 65, 66, 67, 68, 69, 70, 71, 72, 73, 74, 75, 76, 77, 78, 79, 80, 81] (by decide +kernel) (by decide +kernel)
set_option maxRecDepth 20000 in
theorem gX7_both_X7_areTwoPersons : GoodIn wsX7_both (wsV RX7 228 RX7 yX7_areTwoPersons wsX7_areTwoPersons) := goodIn_app (goodIn_of _ (by decide +kernel)) ggX7_both_X7_areTwoPersons
set_option maxRecDepth 20000 in
theorem ggX7_both_X3_isAbove : GoodIn wsX7_both wsX3_isAbove := goodIn_r _ [27, 28, 29, 30, 26, 31, 32, 33, 34, 35, 82] (by decide +kernel) (by decide +kernel)
set_option maxRecDepth 20000 in
theorem gX7_both_X3_isAbove : GoodIn wsX7_both (wsV RX7 185 RX3 yX3_isAbove wsX3_isAbove) := goodIn_app (goodIn_of _ (by decide +kernel)) ggX7_both_X3_isAbove
set_option maxRecDepth 20000 in
theorem ggX7_both_X7_bothBy : GoodIn wsX7_both wsX7_bothBy := goodIn_r _ [39, 40, 41, 10, 42, 3, 6, 43, 5, 44, 45, 46, 15, 47, 48, 49, 50, 51, 20, 52, 53, 54, 55, 56, 26, 57, 32, 33, 34, 35, 58, 59, 60, 61, 62, 63, 64, 65, 66, 67, 68, 69, 70, 71, 72, 73, 74, 75, 76, 77, 78, 79, 80, 81, 82] (by decide +kernel) (by decide +kernel)
set_option maxRecDepth 20000 in
theorem gX7_both_X7_bothBy : GoodIn wsX7_both (wsV RX7 240 RX7 yX7_bothBy wsX7_bothBy) := goodIn_app (goodIn_of _ (by decide +kernel)) ggX7_both_X7_bothBy
theorem dX7_both_0 : decode cX7_both 0 = .ok (.aload_n 0, 1) := by decide +kernel
theorem dX7_both_1 : decode cX7_both 1 = .ok (.iload_n 1, 1) := by decide +kernel
theorem dX7_both_2 : decode cX7_both 2 = .ok (.iload_n 2, 1) := by decide +kernel
theorem dX7_both_3 : decode cX7_both 3 = .ok (.invokevirtual 228, 3) := by decide +kernel
theorem dX7_both_6 : decode cX7_both 6 = .ok (.ifCond .ne 6, 3) := by decide +kernel
theorem dX7_both_9 : decode cX7_both 9 = .ok (.ldc 139, 2) := by decide +kernel
theorem dX7_both_11 : decode cX7_both 11 = .ok (.ireturn, 1) := by decide +kernel
theorem dX7_both_12 : decode cX7_both 12 = .ok (.iload_n 3, 1) := by decide +kernel
theorem dX7_both_13 : decode cX7_both 13 = .ok (.ifCond .lt 8, 3) := by decide +kernel
theorem dX7_both_16 : decode cX7_both 16 = .ok (.iload_n 3, 1) := by decide +kernel
theorem dX7_both_17 : decode cX7_both 17 = .ok (.iconst 1, 1) := by decide +kernel
theorem dX7_both_18 : decode cX7_both 18 = .ok (.if_icmp .le 6, 3) := by decide +kernel
theorem dX7_both_21 : decode cX7_both 21 = .ok (.ldc 61, 2) := by decide +kernel
theorem dX7_both_23 : decode cX7_both 23 = .ok (.ireturn, 1) := by decide +kernel
theorem dX7_both_24 : decode cX7_both 24 = .ok (.aload_n 0, 1) := by decide +kernel
theorem dX7_both_25 : decode cX7_both 25 = .ok (.getfield 29, 3) := by decide +kernel
theorem dX7_both_28 : decode cX7_both 28 = .ok (.iload_n 1, 1) := by decide +kernel
theorem dX7_both_29 : decode cX7_both 29 = .ok (.invokevirtual 185, 3) := by decide +kernel
theorem dX7_both_32 : decode cX7_both 32 = .ok (.ifCond .eq 14, 3) := by decide +kernel
theorem dX7_both_35 : decode cX7_both 35 = .ok (.aload_n 0, 1) := by decide +kernel
theorem dX7_both_36 : decode cX7_both 36 = .ok (.getfield 29, 3) := by decide +kernel
theorem dX7_both_39 : decode cX7_both 39 = .ok (.iload_n 2, 1) := by decide +kernel
theorem dX7_both_40 : decode cX7_both 40 = .ok (.invokevirtual 185, 3) := by decide +kernel
theorem dX7_both_43 : decode cX7_both 43 = .ok (.ifCond .ne 6, 3) := by decide +kernel
theorem dX7_both_46 : decode cX7_both 46 = .ok (.ldc 188, 2) := by decide +kernel
theorem dX7_both_48 : decode cX7_both 48 = .ok (.ireturn, 1) := by decide +kernel
theorem dX7_both_49 : decode cX7_both 49 = .ok (.ldc 226, 2) := by decide +kernel
theorem dX7_both_51 : decode cX7_both 51 = .ok (.istore 4, 2) := by decide +kernel
theorem dX7_both_53 : decode cX7_both 53 = .ok (.iconst 0, 1) := by decide +kernel
theorem dX7_both_54 : decode cX7_both 54 = .ok (.istore 5, 2) := by decide +kernel
theorem dX7_both_56 : decode cX7_both 56 = .ok (.iload 5, 2) := by decide +kernel
theorem dX7_both_58 : decode cX7_both 58 = .ok (.bipush 9, 2) := by decide +kernel
theorem dX7_both_60 : decode cX7_both 60 = .ok (.aload_n 0, 1) := by decide +kernel
theorem dX7_both_61 : decode cX7_both 61 = .ok (.getfield 19, 3) := by decide +kernel
theorem dX7_both_64 : decode cX7_both 64 = .ok (.getfield 104, 3) := by decide +kernel
theorem dX7_both_67 : decode cX7_both 67 = .ok (.imul, 1) := by decide +kernel
theorem dX7_both_68 : decode cX7_both 68 = .ok (.if_icmp .gt 50, 3) := by decide +kernel
theorem dX7_both_71 : decode cX7_both 71 = .ok (.iconst 0, 1) := by decide +kernel
theorem dX7_both_72 : decode cX7_both 72 = .ok (.istore 6, 2) := by decide +kernel
theorem dX7_both_74 : decode cX7_both 74 = .ok (.iload 6, 2) := by decide +kernel
theorem dX7_both_76 : decode cX7_both 76 = .ok (.bipush 9, 2) := by decide +kernel
theorem dX7_both_78 : decode cX7_both 78 = .ok (.aload_n 0, 1) := by decide +kernel
theorem dX7_both_79 : decode cX7_both 79 = .ok (.getfield 19, 3) := by decide +kernel
theorem dX7_both_82 : decode cX7_both 82 = .ok (.getfield 104, 3) := by decide +kernel
theorem dX7_both_85 : decode cX7_both 85 = .ok (.imul, 1) := by decide +kernel
theorem dX7_both_86 : decode cX7_both 86 = .ok (.if_icmp .gt 26, 3) := by decide +kernel
theorem dX7_both_89 : decode cX7_both 89 = .ok (.iload 4, 2) := by decide +kernel
theorem dX7_both_91 : decode cX7_both 91 = .ok (.aload_n 0, 1) := by decide +kernel
theorem dX7_both_92 : decode cX7_both 92 = .ok (.iload_n 1, 1) := by decide +kernel
theorem dX7_both_93 : decode cX7_both 93 = .ok (.iload 5, 2) := by decide +kernel
theorem dX7_both_95 : decode cX7_both 95 = .ok (.iload_n 2, 1) := by decide +kernel
theorem dX7_both_96 : decode cX7_both 96 = .ok (.iload 6, 2) := by decide +kernel
theorem dX7_both_98 : decode cX7_both 98 = .ok (.invokevirtual 240, 3) := by decide +kernel
theorem dX7_both_101 : decode cX7_both 101 = .ok (.invokestatic 237, 3) := by decide +kernel
theorem dX7_both_104 : decode cX7_both 104 = .ok (.istore 4, 2) := by decide +kernel
theorem dX7_both_106 : decode cX7_both 106 = .ok (.iinc 6 1, 3) := by decide +kernel
theorem dX7_both_109 : decode cX7_both 109 = .ok (.goto (-35), 3) := by decide +kernel
theorem dX7_both_112 : decode cX7_both 112 = .ok (.iinc 5 1, 3) := by decide +kernel
theorem dX7_both_115 : decode cX7_both 115 = .ok (.goto (-59), 3) := by decide +kernel
theorem dX7_both_118 : decode cX7_both 118 = .ok (.iload 4, 2) := by decide +kernel
theorem dX7_both_120 : decode cX7_both 120 = .ok (.ldc 226, 2) := by decide +kernel
theorem dX7_both_122 : decode cX7_both 122 = .ok (.if_icmp .ne 5, 3) := by decide +kernel
theorem dX7_both_125 : decode cX7_both 125 = .ok (.iconst (-1), 1) := by decide +kernel
theorem dX7_both_126 : decode cX7_both 126 = .ok (.ireturn, 1) := by decide +kernel
theorem dX7_both_127 : decode cX7_both 127 = .ok (.iload_n 3, 1) := by decide +kernel
theorem dX7_both_128 : decode cX7_both 128 = .ok (.ifCond .ne 12, 3) := by decide +kernel
theorem dX7_both_131 : decode cX7_both 131 = .ok (.iload 4, 2) := by decide +kernel
theorem dX7_both_133 : decode cX7_both 133 = .ok (.sipush 10000, 3) := by decide +kernel
theorem dX7_both_136 : decode cX7_both 136 = .ok (.idiv, 1) := by decide +kernel
theorem dX7_both_137 : decode cX7_both 137 = .ok (.goto 9, 3) := by decide +kernel
theorem dX7_both_140 : decode cX7_both 140 = .ok (.iload 4, 2) := by decide +kernel
theorem dX7_both_142 : decode cX7_both 142 = .ok (.sipush 10000, 3) := by decide +kernel
theorem dX7_both_145 : decode cX7_both 145 = .ok (.irem, 1) := by decide +kernel
theorem dX7_both_146 : decode cX7_both 146 = .ok (.ireturn, 1) := by decide +kernel
set_option maxRecDepth 20000 in
theorem ggX7_bothBy_X7_yearsOfStay : GoodIn wsX7_bothBy wsX7_yearsOfStay := goodIn_r _ [13, 6, 14, 15, 16, 17, 18, 19, 20, 34, 35, 36, 37, 38, 39, 40, 41, 42, 43, 44, 45, 46, 47, 48, 49, 50, 51, 52, 53] (by decide +kernel) (by decide +kernel)
set_option maxRecDepth 20000 in
theorem gX7_bothBy_X7_yearsOfStay : GoodIn wsX7_bothBy (wsV RX7 244 RX7 yX7_yearsOfStay wsX7_yearsOfStay) := goodIn_app (goodIn_of _ (by decide +kernel)) ggX7_bothBy_X7_yearsOfStay
set_option maxRecDepth 20000 in
theorem ggX7_bothBy_X3_age : GoodIn wsX7_bothBy wsX3_age := goodIn_r _ [25, 26, 27, 28, 24, 29, 54] (by decide +kernel) (by decide +kernel)
set_option maxRecDepth 20000 in
theorem gX7_bothBy_X3_age : GoodIn wsX7_bothBy (wsV RX7 143 RX3 yX3_age wsX3_age) := goodIn_app (goodIn_of _ (by decide +kernel)) ggX7_bothBy_X3_age
set_option maxRecDepth 20000 in
theorem ggX7_bothBy_X7_figuresOfStay : GoodIn wsX7_bothBy wsX7_figuresOfStay := goodIn_r _ [33] (by decide +kernel) (by decide +kernel)
set_option maxRecDepth 20000 in
theorem gX7_bothBy_X7_figuresOfStay : GoodIn wsX7_bothBy (wsV RX7 250 RX7 yX7_figuresOfStay wsX7_figuresOfStay) := goodIn_app (goodIn_of _ (by decide +kernel)) ggX7_bothBy_X7_figuresOfStay
theorem dX7_bothBy_0 : decode cX7_bothBy 0 = .ok (.aload_n 0, 1) := by decide +kernel
theorem dX7_bothBy_1 : decode cX7_bothBy 1 = .ok (.iload_n 2, 1) := by decide +kernel
theorem dX7_bothBy_2 : decode cX7_bothBy 2 = .ok (.invokevirtual 244, 3) := by decide +kernel
theorem dX7_bothBy_5 : decode cX7_bothBy 5 = .ok (.istore 5, 2) := by decide +kernel
theorem dX7_bothBy_7 : decode cX7_bothBy 7 = .ok (.aload_n 0, 1) := by decide +kernel
theorem dX7_bothBy_8 : decode cX7_bothBy 8 = .ok (.iload 4, 2) := by decide +kernel
theorem dX7_bothBy_10 : decode cX7_bothBy 10 = .ok (.invokevirtual 244, 3) := by decide +kernel
theorem dX7_bothBy_13 : decode cX7_bothBy 13 = .ok (.istore 6, 2) := by decide +kernel
theorem dX7_bothBy_15 : decode cX7_bothBy 15 = .ok (.iload 5, 2) := by decide +kernel
theorem dX7_bothBy_17 : decode cX7_bothBy 17 = .ok (.iload 6, 2) := by decide +kernel
theorem dX7_bothBy_19 : decode cX7_bothBy 19 = .ok (.invokestatic 247, 3) := by decide +kernel
theorem dX7_bothBy_22 : decode cX7_bothBy 22 = .ok (.istore 7, 2) := by decide +kernel
theorem dX7_bothBy_24 : decode cX7_bothBy 24 = .ok (.aload_n 0, 1) := by decide +kernel
theorem dX7_bothBy_25 : decode cX7_bothBy 25 = .ok (.getfield 29, 3) := by decide +kernel
theorem dX7_bothBy_28 : decode cX7_bothBy 28 = .ok (.iload_n 1, 1) := by decide +kernel
theorem dX7_bothBy_29 : decode cX7_bothBy 29 = .ok (.invokevirtual 143, 3) := by decide +kernel
theorem dX7_bothBy_32 : decode cX7_bothBy 32 = .ok (.iload 7, 2) := by decide +kernel
theorem dX7_bothBy_34 : decode cX7_bothBy 34 = .ok (.iadd, 1) := by decide +kernel
theorem dX7_bothBy_35 : decode cX7_bothBy 35 = .ok (.iload 5, 2) := by decide +kernel
theorem dX7_bothBy_37 : decode cX7_bothBy 37 = .ok (.isub, 1) := by decide +kernel
theorem dX7_bothBy_38 : decode cX7_bothBy 38 = .ok (.istore 8, 2) := by decide +kernel
theorem dX7_bothBy_40 : decode cX7_bothBy 40 = .ok (.aload_n 0, 1) := by decide +kernel
theorem dX7_bothBy_41 : decode cX7_bothBy 41 = .ok (.getfield 29, 3) := by decide +kernel
theorem dX7_bothBy_44 : decode cX7_bothBy 44 = .ok (.iload_n 3, 1) := by decide +kernel
theorem dX7_bothBy_45 : decode cX7_bothBy 45 = .ok (.invokevirtual 143, 3) := by decide +kernel
theorem dX7_bothBy_48 : decode cX7_bothBy 48 = .ok (.iload 7, 2) := by decide +kernel
theorem dX7_bothBy_50 : decode cX7_bothBy 50 = .ok (.iadd, 1) := by decide +kernel
theorem dX7_bothBy_51 : decode cX7_bothBy 51 = .ok (.iload 6, 2) := by decide +kernel
theorem dX7_bothBy_53 : decode cX7_bothBy 53 = .ok (.isub, 1) := by decide +kernel
theorem dX7_bothBy_54 : decode cX7_bothBy 54 = .ok (.istore 9, 2) := by decide +kernel
theorem dX7_bothBy_56 : decode cX7_bothBy 56 = .ok (.iload 8, 2) := by decide +kernel
theorem dX7_bothBy_58 : decode cX7_bothBy 58 = .ok (.iload 9, 2) := by decide +kernel
theorem dX7_bothBy_60 : decode cX7_bothBy 60 = .ok (.if_icmp .ne 31, 3) := by decide +kernel
theorem dX7_bothBy_63 : decode cX7_bothBy 63 = .ok (.iload 8, 2) := by decide +kernel
theorem dX7_bothBy_65 : decode cX7_bothBy 65 = .ok (.aload_n 0, 1) := by decide +kernel
theorem dX7_bothBy_66 : decode cX7_bothBy 66 = .ok (.getfield 19, 3) := by decide +kernel
theorem dX7_bothBy_69 : decode cX7_bothBy 69 = .ok (.getfield 146, 3) := by decide +kernel
theorem dX7_bothBy_72 : decode cX7_bothBy 72 = .ok (.iload_n 1, 1) := by decide +kernel
theorem dX7_bothBy_73 : decode cX7_bothBy 73 = .ok (.iaload, 1) := by decide +kernel
theorem dX7_bothBy_74 : decode cX7_bothBy 74 = .ok (.if_icmp .ge 17, 3) := by decide +kernel
theorem dX7_bothBy_77 : decode cX7_bothBy 77 = .ok (.iload 9, 2) := by decide +kernel
theorem dX7_bothBy_79 : decode cX7_bothBy 79 = .ok (.aload_n 0, 1) := by decide +kernel
theorem dX7_bothBy_80 : decode cX7_bothBy 80 = .ok (.getfield 19, 3) := by decide +kernel
theorem dX7_bothBy_83 : decode cX7_bothBy 83 = .ok (.getfield 146, 3) := by decide +kernel
theorem dX7_bothBy_86 : decode cX7_bothBy 86 = .ok (.iload_n 3, 1) := by decide +kernel
theorem dX7_bothBy_87 : decode cX7_bothBy 87 = .ok (.iaload, 1) := by decide +kernel
theorem dX7_bothBy_88 : decode cX7_bothBy 88 = .ok (.if_icmp .lt 6, 3) := by decide +kernel
theorem dX7_bothBy_91 : decode cX7_bothBy 91 = .ok (.ldc 226, 2) := by decide +kernel
theorem dX7_bothBy_93 : decode cX7_bothBy 93 = .ok (.ireturn, 1) := by decide +kernel
theorem dX7_bothBy_94 : decode cX7_bothBy 94 = .ok (.iload 7, 2) := by decide +kernel
theorem dX7_bothBy_96 : decode cX7_bothBy 96 = .ok (.sipush 10000, 3) := by decide +kernel
theorem dX7_bothBy_99 : decode cX7_bothBy 99 = .ok (.imul, 1) := by decide +kernel
theorem dX7_bothBy_100 : decode cX7_bothBy 100 = .ok (.aload_n 0, 1) := by decide +kernel
theorem dX7_bothBy_101 : decode cX7_bothBy 101 = .ok (.iload_n 2, 1) := by decide +kernel
theorem dX7_bothBy_102 : decode cX7_bothBy 102 = .ok (.invokevirtual 250, 3) := by decide +kernel
theorem dX7_bothBy_105 : decode cX7_bothBy 105 = .ok (.bipush 100, 2) := by decide +kernel
theorem dX7_bothBy_107 : decode cX7_bothBy 107 = .ok (.imul, 1) := by decide +kernel
theorem dX7_bothBy_108 : decode cX7_bothBy 108 = .ok (.iadd, 1) := by decide +kernel
theorem dX7_bothBy_109 : decode cX7_bothBy 109 = .ok (.aload_n 0, 1) := by decide +kernel
theorem dX7_bothBy_110 : decode cX7_bothBy 110 = .ok (.iload 4, 2) := by decide +kernel
theorem dX7_bothBy_112 : decode cX7_bothBy 112 = .ok (.invokevirtual 250, 3) := by decide +kernel
theorem dX7_bothBy_115 : decode cX7_bothBy 115 = .ok (.iadd, 1) := by decide +kernel
theorem dX7_bothBy_116 : decode cX7_bothBy 116 = .ok (.ireturn, 1) := by decide +kernel
set_option maxRecDepth 20000 in
theorem ggX7_yearsOfStay_X5_hasDepth : GoodIn wsX7_yearsOfStay wsX5_hasDepth := goodIn_r _ [7, 8, 18, 19, 20, 21, 22, 23, 24, 25, 26, 27, 28] (by decide +kernel) (by decide +kernel)
set_option maxRecDepth 20000 in
theorem gX7_yearsOfStay_X5_hasDepth : GoodIn wsX7_yearsOfStay (wsV RX7 131 RX5 yX5_hasDepth wsX5_hasDepth) := goodIn_app (goodIn_of _ (by decide +kernel)) ggX7_yearsOfStay_X5_hasDepth
theorem dX7_yearsOfStay_0 : decode cX7_yearsOfStay 0 = .ok (.iload_n 1, 1) := by decide +kernel
theorem dX7_yearsOfStay_1 : decode cX7_yearsOfStay 1 = .ok (.iconst 1, 1) := by decide +kernel
theorem dX7_yearsOfStay_2 : decode cX7_yearsOfStay 2 = .ok (.isub, 1) := by decide +kernel
theorem dX7_yearsOfStay_3 : decode cX7_yearsOfStay 3 = .ok (.bipush 9, 2) := by decide +kernel
theorem dX7_yearsOfStay_5 : decode cX7_yearsOfStay 5 = .ok (.idiv, 1) := by decide +kernel
theorem dX7_yearsOfStay_6 : decode cX7_yearsOfStay 6 = .ok (.istore_n 2, 1) := by decide +kernel
theorem dX7_yearsOfStay_7 : decode cX7_yearsOfStay 7 = .ok (.iload_n 1, 1) := by decide +kernel
theorem dX7_yearsOfStay_8 : decode cX7_yearsOfStay 8 = .ok (.iconst 1, 1) := by decide +kernel
theorem dX7_yearsOfStay_9 : decode cX7_yearsOfStay 9 = .ok (.if_icmp .lt 14, 3) := by decide +kernel
theorem dX7_yearsOfStay_12 : decode cX7_yearsOfStay 12 = .ok (.aload_n 0, 1) := by decide +kernel
theorem dX7_yearsOfStay_13 : decode cX7_yearsOfStay 13 = .ok (.getfield 19, 3) := by decide +kernel
theorem dX7_yearsOfStay_16 : decode cX7_yearsOfStay 16 = .ok (.iload_n 2, 1) := by decide +kernel
theorem dX7_yearsOfStay_17 : decode cX7_yearsOfStay 17 = .ok (.invokevirtual 131, 3) := by decide +kernel
theorem dX7_yearsOfStay_20 : decode cX7_yearsOfStay 20 = .ok (.ifCond .ne 7, 3) := by decide +kernel
theorem dX7_yearsOfStay_23 : decode cX7_yearsOfStay 23 = .ok (.iconst 0, 1) := by decide +kernel
theorem dX7_yearsOfStay_24 : decode cX7_yearsOfStay 24 = .ok (.goto 21, 3) := by decide +kernel
theorem dX7_yearsOfStay_27 : decode cX7_yearsOfStay 27 = .ok (.aload_n 0, 1) := by decide +kernel
theorem dX7_yearsOfStay_28 : decode cX7_yearsOfStay 28 = .ok (.getfield 19, 3) := by decide +kernel
theorem dX7_yearsOfStay_31 : decode cX7_yearsOfStay 31 = .ok (.getfield 135, 3) := by decide +kernel
theorem dX7_yearsOfStay_34 : decode cX7_yearsOfStay 34 = .ok (.iload_n 2, 1) := by decide +kernel
theorem dX7_yearsOfStay_35 : decode cX7_yearsOfStay 35 = .ok (.iaload, 1) := by decide +kernel
theorem dX7_yearsOfStay_36 : decode cX7_yearsOfStay 36 = .ok (.iload_n 1, 1) := by decide +kernel
theorem dX7_yearsOfStay_37 : decode cX7_yearsOfStay 37 = .ok (.iconst 1, 1) := by decide +kernel
theorem dX7_yearsOfStay_38 : decode cX7_yearsOfStay 38 = .ok (.isub, 1) := by decide +kernel
theorem dX7_yearsOfStay_39 : decode cX7_yearsOfStay 39 = .ok (.bipush 9, 2) := by decide +kernel
theorem dX7_yearsOfStay_41 : decode cX7_yearsOfStay 41 = .ok (.irem, 1) := by decide +kernel
theorem dX7_yearsOfStay_42 : decode cX7_yearsOfStay 42 = .ok (.iconst 1, 1) := by decide +kernel
theorem dX7_yearsOfStay_43 : decode cX7_yearsOfStay 43 = .ok (.iadd, 1) := by decide +kernel
theorem dX7_yearsOfStay_44 : decode cX7_yearsOfStay 44 = .ok (.imul, 1) := by decide +kernel
theorem dX7_yearsOfStay_45 : decode cX7_yearsOfStay 45 = .ok (.ireturn, 1) := by decide +kernel
theorem dX7_figuresOfStay_0 : decode cX7_figuresOfStay 0 = .ok (.iload_n 1, 1) := by decide +kernel
theorem dX7_figuresOfStay_1 : decode cX7_figuresOfStay 1 = .ok (.iconst 1, 1) := by decide +kernel
theorem dX7_figuresOfStay_2 : decode cX7_figuresOfStay 2 = .ok (.if_icmp .ge 7, 3) := by decide +kernel
theorem dX7_figuresOfStay_5 : decode cX7_figuresOfStay 5 = .ok (.iconst 0, 1) := by decide +kernel
theorem dX7_figuresOfStay_6 : decode cX7_figuresOfStay 6 = .ok (.goto 23, 3) := by decide +kernel
theorem dX7_figuresOfStay_9 : decode cX7_figuresOfStay 9 = .ok (.bipush 10, 2) := by decide +kernel
theorem dX7_figuresOfStay_11 : decode cX7_figuresOfStay 11 = .ok (.iload_n 1, 1) := by decide +kernel
theorem dX7_figuresOfStay_12 : decode cX7_figuresOfStay 12 = .ok (.iconst 1, 1) := by decide +kernel
theorem dX7_figuresOfStay_13 : decode cX7_figuresOfStay 13 = .ok (.isub, 1) := by decide +kernel
theorem dX7_figuresOfStay_14 : decode cX7_figuresOfStay 14 = .ok (.bipush 9, 2) := by decide +kernel
theorem dX7_figuresOfStay_16 : decode cX7_figuresOfStay 16 = .ok (.idiv, 1) := by decide +kernel
theorem dX7_figuresOfStay_17 : decode cX7_figuresOfStay 17 = .ok (.iconst 1, 1) := by decide +kernel
theorem dX7_figuresOfStay_18 : decode cX7_figuresOfStay 18 = .ok (.iadd, 1) := by decide +kernel
theorem dX7_figuresOfStay_19 : decode cX7_figuresOfStay 19 = .ok (.imul, 1) := by decide +kernel
theorem dX7_figuresOfStay_20 : decode cX7_figuresOfStay 20 = .ok (.iload_n 1, 1) := by decide +kernel
theorem dX7_figuresOfStay_21 : decode cX7_figuresOfStay 21 = .ok (.iconst 1, 1) := by decide +kernel
theorem dX7_figuresOfStay_22 : decode cX7_figuresOfStay 22 = .ok (.isub, 1) := by decide +kernel
theorem dX7_figuresOfStay_23 : decode cX7_figuresOfStay 23 = .ok (.bipush 9, 2) := by decide +kernel
theorem dX7_figuresOfStay_25 : decode cX7_figuresOfStay 25 = .ok (.irem, 1) := by decide +kernel
theorem dX7_figuresOfStay_26 : decode cX7_figuresOfStay 26 = .ok (.iadd, 1) := by decide +kernel
theorem dX7_figuresOfStay_27 : decode cX7_figuresOfStay 27 = .ok (.iconst 1, 1) := by decide +kernel
theorem dX7_figuresOfStay_28 : decode cX7_figuresOfStay 28 = .ok (.iadd, 1) := by decide +kernel
theorem dX7_figuresOfStay_29 : decode cX7_figuresOfStay 29 = .ok (.ireturn, 1) := by decide +kernel
set_option maxRecDepth 20000 in
theorem ggX7_leave_X3_worth : GoodIn wsX7_leave wsX3_worth := goodIn_r _ [9, 10, 11, 12, 8, 13, 50] (by decide +kernel) (by decide +kernel)
set_option maxRecDepth 20000 in
theorem gX7_leave_X3_worth : GoodIn wsX7_leave (wsV RX7 161 RX3 yX3_worth wsX3_worth) := goodIn_app (goodIn_of _ (by decide +kernel)) ggX7_leave_X3_worth
set_option maxRecDepth 20000 in
theorem ggX7_leave_X5_worthBehind : GoodIn wsX7_leave wsX5_worthBehind := goodIn_r _ [18, 19, 20, 21, 17, 22, 23, 24, 25, 26, 27, 28, 29, 39, 40, 41, 42, 43, 44, 45, 46, 47, 48, 49] (by decide +kernel) (by decide +kernel)
set_option maxRecDepth 20000 in
theorem gX7_leave_X5_worthBehind : GoodIn wsX7_leave (wsV RX7 253 RX5 yX5_worthBehind wsX5_worthBehind) := goodIn_app (goodIn_of _ (by decide +kernel)) ggX7_leave_X5_worthBehind
theorem dX7_leave_0 : decode cX7_leave 0 = .ok (.iload_n 1, 1) := by decide +kernel
theorem dX7_leave_1 : decode cX7_leave 1 = .ok (.ifCond .lt 19, 3) := by decide +kernel
theorem dX7_leave_4 : decode cX7_leave 4 = .ok (.iload_n 1, 1) := by decide +kernel
theorem dX7_leave_5 : decode cX7_leave 5 = .ok (.sipush 300, 3) := by decide +kernel
theorem dX7_leave_8 : decode cX7_leave 8 = .ok (.if_icmp .gt 12, 3) := by decide +kernel
theorem dX7_leave_11 : decode cX7_leave 11 = .ok (.iload_n 2, 1) := by decide +kernel
theorem dX7_leave_12 : decode cX7_leave 12 = .ok (.ifCond .lt 8, 3) := by decide +kernel
theorem dX7_leave_15 : decode cX7_leave 15 = .ok (.iload_n 2, 1) := by decide +kernel
theorem dX7_leave_16 : decode cX7_leave 16 = .ok (.iconst 1, 1) := by decide +kernel
theorem dX7_leave_17 : decode cX7_leave 17 = .ok (.if_icmp .le 6, 3) := by decide +kernel
theorem dX7_leave_20 : decode cX7_leave 20 = .ok (.ldc 61, 2) := by decide +kernel
theorem dX7_leave_22 : decode cX7_leave 22 = .ok (.ireturn, 1) := by decide +kernel
theorem dX7_leave_23 : decode cX7_leave 23 = .ok (.iconst (-1), 1) := by decide +kernel
theorem dX7_leave_24 : decode cX7_leave 24 = .ok (.istore_n 3, 1) := by decide +kernel
theorem dX7_leave_25 : decode cX7_leave 25 = .ok (.iconst (-1), 1) := by decide +kernel
theorem dX7_leave_26 : decode cX7_leave 26 = .ok (.istore 4, 2) := by decide +kernel
theorem dX7_leave_28 : decode cX7_leave 28 = .ok (.iconst 0, 1) := by decide +kernel
theorem dX7_leave_29 : decode cX7_leave 29 = .ok (.istore 5, 2) := by decide +kernel
theorem dX7_leave_31 : decode cX7_leave 31 = .ok (.iload 5, 2) := by decide +kernel
theorem dX7_leave_33 : decode cX7_leave 33 = .ok (.aload_n 0, 1) := by decide +kernel
theorem dX7_leave_34 : decode cX7_leave 34 = .ok (.getfield 19, 3) := by decide +kernel
theorem dX7_leave_37 : decode cX7_leave 37 = .ok (.getfield 107, 3) := by decide +kernel
theorem dX7_leave_40 : decode cX7_leave 40 = .ok (.if_icmp .ge 44, 3) := by decide +kernel
theorem dX7_leave_43 : decode cX7_leave 43 = .ok (.aload_n 0, 1) := by decide +kernel
theorem dX7_leave_44 : decode cX7_leave 44 = .ok (.getfield 19, 3) := by decide +kernel
theorem dX7_leave_47 : decode cX7_leave 47 = .ok (.iload 5, 2) := by decide +kernel
theorem dX7_leave_49 : decode cX7_leave 49 = .ok (.aload_n 0, 1) := by decide +kernel
theorem dX7_leave_50 : decode cX7_leave 50 = .ok (.getfield 29, 3) := by decide +kernel
theorem dX7_leave_53 : decode cX7_leave 53 = .ok (.iload 5, 2) := by decide +kernel
theorem dX7_leave_55 : decode cX7_leave 55 = .ok (.invokevirtual 161, 3) := by decide +kernel
theorem dX7_leave_58 : decode cX7_leave 58 = .ok (.iload_n 1, 1) := by decide +kernel
theorem dX7_leave_59 : decode cX7_leave 59 = .ok (.invokevirtual 253, 3) := by decide +kernel
theorem dX7_leave_62 : decode cX7_leave 62 = .ok (.istore 6, 2) := by decide +kernel
theorem dX7_leave_64 : decode cX7_leave 64 = .ok (.iload 6, 2) := by decide +kernel
theorem dX7_leave_66 : decode cX7_leave 66 = .ok (.iload 4, 2) := by decide +kernel
theorem dX7_leave_68 : decode cX7_leave 68 = .ok (.if_icmp .le 10, 3) := by decide +kernel
theorem dX7_leave_71 : decode cX7_leave 71 = .ok (.iload 5, 2) := by decide +kernel
theorem dX7_leave_73 : decode cX7_leave 73 = .ok (.istore_n 3, 1) := by decide +kernel
theorem dX7_leave_74 : decode cX7_leave 74 = .ok (.iload 6, 2) := by decide +kernel
theorem dX7_leave_76 : decode cX7_leave 76 = .ok (.istore 4, 2) := by decide +kernel
theorem dX7_leave_78 : decode cX7_leave 78 = .ok (.iinc 5 1, 3) := by decide +kernel
theorem dX7_leave_81 : decode cX7_leave 81 = .ok (.goto (-50), 3) := by decide +kernel
theorem dX7_leave_84 : decode cX7_leave 84 = .ok (.iload_n 2, 1) := by decide +kernel
theorem dX7_leave_85 : decode cX7_leave 85 = .ok (.ifCond .ne 7, 3) := by decide +kernel
theorem dX7_leave_88 : decode cX7_leave 88 = .ok (.iload_n 3, 1) := by decide +kernel
theorem dX7_leave_89 : decode cX7_leave 89 = .ok (.goto 5, 3) := by decide +kernel
theorem dX7_leave_92 : decode cX7_leave 92 = .ok (.iload 4, 2) := by decide +kernel
theorem dX7_leave_94 : decode cX7_leave 94 = .ok (.ireturn, 1) := by decide +kernel
set_option maxRecDepth 20000 in
theorem ggX7_when_X5_hasGood : GoodIn wsX7_when wsX5_hasGood := goodIn_r _ [9, 10, 36, 37, 38, 39, 40, 41, 42, 43, 44, 45, 46] (by decide +kernel) (by decide +kernel)
set_option maxRecDepth 20000 in
theorem gX7_when_X5_hasGood : GoodIn wsX7_when (wsV RX7 158 RX5 yX5_hasGood wsX5_hasGood) := goodIn_app (goodIn_of _ (by decide +kernel)) ggX7_when_X5_hasGood
set_option maxRecDepth 20000 in
theorem ggX7_when_X3_worth : GoodIn wsX7_when wsX3_worth := goodIn_r _ [15, 16, 17, 18, 14, 19, 47] (by decide +kernel) (by decide +kernel)
set_option maxRecDepth 20000 in
theorem gX7_when_X3_worth : GoodIn wsX7_when (wsV RX7 161 RX3 yX3_worth wsX3_worth) := goodIn_app (goodIn_of _ (by decide +kernel)) ggX7_when_X3_worth
set_option maxRecDepth 20000 in
theorem ggX7_when_X5_worthNextYear : GoodIn wsX7_when wsX5_worthNextYear := goodIn_r _ [23, 24, 25, 26, 6, 7, 8, 9, 10, 36, 37, 38, 39, 40, 41, 42, 43, 44, 45, 46] (by decide +kernel) (by decide +kernel)
set_option maxRecDepth 20000 in
theorem gX7_when_X5_worthNextYear : GoodIn wsX7_when (wsV RX7 257 RX5 yX5_worthNextYear wsX5_worthNextYear) := goodIn_app (goodIn_of _ (by decide +kernel)) ggX7_when_X5_worthNextYear
theorem dX7_when_0 : decode cX7_when 0 = .ok (.aload_n 0, 1) := by decide +kernel
theorem dX7_when_1 : decode cX7_when 1 = .ok (.getfield 19, 3) := by decide +kernel
theorem dX7_when_4 : decode cX7_when 4 = .ok (.iload_n 1, 1) := by decide +kernel
theorem dX7_when_5 : decode cX7_when 5 = .ok (.invokevirtual 158, 3) := by decide +kernel
theorem dX7_when_8 : decode cX7_when 8 = .ok (.ifCond .ne 6, 3) := by decide +kernel
theorem dX7_when_11 : decode cX7_when 11 = .ok (.ldc 139, 2) := by decide +kernel
theorem dX7_when_13 : decode cX7_when 13 = .ok (.ireturn, 1) := by decide +kernel
theorem dX7_when_14 : decode cX7_when 14 = .ok (.iload_n 2, 1) := by decide +kernel
theorem dX7_when_15 : decode cX7_when 15 = .ok (.ifCond .lt 10, 3) := by decide +kernel
theorem dX7_when_18 : decode cX7_when 18 = .ok (.iload_n 2, 1) := by decide +kernel
theorem dX7_when_19 : decode cX7_when 19 = .ok (.sipush 9999, 3) := by decide +kernel
theorem dX7_when_22 : decode cX7_when 22 = .ok (.if_icmp .le 6, 3) := by decide +kernel
theorem dX7_when_25 : decode cX7_when 25 = .ok (.ldc 61, 2) := by decide +kernel
theorem dX7_when_27 : decode cX7_when 27 = .ok (.ireturn, 1) := by decide +kernel
theorem dX7_when_28 : decode cX7_when 28 = .ok (.aload_n 0, 1) := by decide +kernel
theorem dX7_when_29 : decode cX7_when 29 = .ok (.getfield 29, 3) := by decide +kernel
theorem dX7_when_32 : decode cX7_when 32 = .ok (.iload_n 1, 1) := by decide +kernel
theorem dX7_when_33 : decode cX7_when 33 = .ok (.invokevirtual 161, 3) := by decide +kernel
theorem dX7_when_36 : decode cX7_when 36 = .ok (.istore_n 3, 1) := by decide +kernel
theorem dX7_when_37 : decode cX7_when 37 = .ok (.iconst 0, 1) := by decide +kernel
theorem dX7_when_38 : decode cX7_when 38 = .ok (.istore 4, 2) := by decide +kernel
theorem dX7_when_40 : decode cX7_when 40 = .ok (.iload 4, 2) := by decide +kernel
theorem dX7_when_42 : decode cX7_when 42 = .ok (.sipush 300, 3) := by decide +kernel
theorem dX7_when_45 : decode cX7_when 45 = .ok (.if_icmp .gt 27, 3) := by decide +kernel
theorem dX7_when_48 : decode cX7_when 48 = .ok (.iload_n 3, 1) := by decide +kernel
theorem dX7_when_49 : decode cX7_when 49 = .ok (.iload_n 2, 1) := by decide +kernel
theorem dX7_when_50 : decode cX7_when 50 = .ok (.if_icmp .lt 6, 3) := by decide +kernel
theorem dX7_when_53 : decode cX7_when 53 = .ok (.iload 4, 2) := by decide +kernel
theorem dX7_when_55 : decode cX7_when 55 = .ok (.ireturn, 1) := by decide +kernel
theorem dX7_when_56 : decode cX7_when 56 = .ok (.aload_n 0, 1) := by decide +kernel
theorem dX7_when_57 : decode cX7_when 57 = .ok (.getfield 19, 3) := by decide +kernel
theorem dX7_when_60 : decode cX7_when 60 = .ok (.iload_n 1, 1) := by decide +kernel
theorem dX7_when_61 : decode cX7_when 61 = .ok (.iload_n 3, 1) := by decide +kernel
theorem dX7_when_62 : decode cX7_when 62 = .ok (.invokevirtual 257, 3) := by decide +kernel
theorem dX7_when_65 : decode cX7_when 65 = .ok (.istore_n 3, 1) := by decide +kernel
theorem dX7_when_66 : decode cX7_when 66 = .ok (.iinc 4 1, 3) := by decide +kernel
theorem dX7_when_69 : decode cX7_when 69 = .ok (.goto (-29), 3) := by decide +kernel
theorem dX7_when_72 : decode cX7_when 72 = .ok (.iconst (-1), 1) := by decide +kernel
theorem dX7_when_73 : decode cX7_when 73 = .ok (.ireturn, 1) := by decide +kernel
set_option maxRecDepth 20000 in
theorem ggX7_letters_X5_hasDepth : GoodIn wsX7_letters wsX5_hasDepth := goodIn_r _ [10, 11, 33, 34, 35, 36, 37, 38, 39, 40, 41, 42, 43] (by decide +kernel) (by decide +kernel)
set_option maxRecDepth 20000 in
theorem gX7_letters_X5_hasDepth : GoodIn wsX7_letters (wsV RX7 131 RX5 yX5_hasDepth wsX5_hasDepth) := goodIn_app (goodIn_of _ (by decide +kernel)) ggX7_letters_X5_hasDepth
set_option maxRecDepth 20000 in
theorem ggX7_letters_X3_years : GoodIn wsX7_letters wsX3_years := goodIn_r _ [16, 17, 44] (by decide +kernel) (by decide +kernel)
set_option maxRecDepth 20000 in
theorem gX7_letters_X3_years : GoodIn wsX7_letters (wsV RX7 110 RX3 yX3_years wsX3_years) := goodIn_app (goodIn_of _ (by decide +kernel)) ggX7_letters_X3_years
set_option maxRecDepth 20000 in
theorem ggX7_letters_X5_daysIn : GoodIn wsX7_letters wsX5_daysIn := goodIn_r _ [21, 22, 23, 7, 8, 9, 10, 11, 33, 34, 35, 36, 37, 38, 39, 40, 41, 42, 43] (by decide +kernel) (by decide +kernel)
set_option maxRecDepth 20000 in
theorem gX7_letters_X5_daysIn : GoodIn wsX7_letters (wsV RX7 260 RX5 yX5_daysIn wsX5_daysIn) := goodIn_app (goodIn_of _ (by decide +kernel)) ggX7_letters_X5_daysIn
theorem dX7_letters_0 : decode cX7_letters 0 = .ok (.aload_n 0, 1) := by decide +kernel
theorem dX7_letters_1 : decode cX7_letters 1 = .ok (.getfield 19, 3) := by decide +kernel
theorem dX7_letters_4 : decode cX7_letters 4 = .ok (.iload_n 1, 1) := by decide +kernel
theorem dX7_letters_5 : decode cX7_letters 5 = .ok (.invokevirtual 131, 3) := by decide +kernel
theorem dX7_letters_8 : decode cX7_letters 8 = .ok (.ifCond .ne 6, 3) := by decide +kernel
theorem dX7_letters_11 : decode cX7_letters 11 = .ok (.ldc 139, 2) := by decide +kernel
theorem dX7_letters_13 : decode cX7_letters 13 = .ok (.ireturn, 1) := by decide +kernel
theorem dX7_letters_14 : decode cX7_letters 14 = .ok (.iload_n 2, 1) := by decide +kernel
theorem dX7_letters_15 : decode cX7_letters 15 = .ok (.iconst 1, 1) := by decide +kernel
theorem dX7_letters_16 : decode cX7_letters 16 = .ok (.if_icmp .lt 9, 3) := by decide +kernel
theorem dX7_letters_19 : decode cX7_letters 19 = .ok (.iload_n 2, 1) := by decide +kernel
theorem dX7_letters_20 : decode cX7_letters 20 = .ok (.bipush 9, 2) := by decide +kernel
theorem dX7_letters_22 : decode cX7_letters 22 = .ok (.if_icmp .le 6, 3) := by decide +kernel
theorem dX7_letters_25 : decode cX7_letters 25 = .ok (.ldc 61, 2) := by decide +kernel
theorem dX7_letters_27 : decode cX7_letters 27 = .ok (.ireturn, 1) := by decide +kernel
theorem dX7_letters_28 : decode cX7_letters 28 = .ok (.aload_n 0, 1) := by decide +kernel
theorem dX7_letters_29 : decode cX7_letters 29 = .ok (.getfield 19, 3) := by decide +kernel
theorem dX7_letters_32 : decode cX7_letters 32 = .ok (.iload_n 1, 1) := by decide +kernel
theorem dX7_letters_33 : decode cX7_letters 33 = .ok (.aload_n 0, 1) := by decide +kernel
theorem dX7_letters_34 : decode cX7_letters 34 = .ok (.getfield 29, 3) := by decide +kernel
theorem dX7_letters_37 : decode cX7_letters 37 = .ok (.invokevirtual 110, 3) := by decide +kernel
theorem dX7_letters_40 : decode cX7_letters 40 = .ok (.invokevirtual 260, 3) := by decide +kernel
theorem dX7_letters_43 : decode cX7_letters 43 = .ok (.aload_n 0, 1) := by decide +kernel
theorem dX7_letters_44 : decode cX7_letters 44 = .ok (.getfield 19, 3) := by decide +kernel
theorem dX7_letters_47 : decode cX7_letters 47 = .ok (.getfield 135, 3) := by decide +kernel
theorem dX7_letters_50 : decode cX7_letters 50 = .ok (.iload_n 1, 1) := by decide +kernel
theorem dX7_letters_51 : decode cX7_letters 51 = .ok (.iaload, 1) := by decide +kernel
theorem dX7_letters_52 : decode cX7_letters 52 = .ok (.imul, 1) := by decide +kernel
theorem dX7_letters_53 : decode cX7_letters 53 = .ok (.iload_n 2, 1) := by decide +kernel
theorem dX7_letters_54 : decode cX7_letters 54 = .ok (.aload_n 0, 1) := by decide +kernel
theorem dX7_letters_55 : decode cX7_letters 55 = .ok (.getfield 19, 3) := by decide +kernel
theorem dX7_letters_58 : decode cX7_letters 58 = .ok (.getfield 135, 3) := by decide +kernel
theorem dX7_letters_61 : decode cX7_letters 61 = .ok (.iload_n 1, 1) := by decide +kernel
theorem dX7_letters_62 : decode cX7_letters 62 = .ok (.iaload, 1) := by decide +kernel
theorem dX7_letters_63 : decode cX7_letters 63 = .ok (.imul, 1) := by decide +kernel
theorem dX7_letters_64 : decode cX7_letters 64 = .ok (.iadd, 1) := by decide +kernel
theorem dX7_letters_65 : decode cX7_letters 65 = .ok (.aload_n 0, 1) := by decide +kernel
theorem dX7_letters_66 : decode cX7_letters 66 = .ok (.getfield 29, 3) := by decide +kernel
theorem dX7_letters_69 : decode cX7_letters 69 = .ok (.invokevirtual 110, 3) := by decide +kernel
theorem dX7_letters_72 : decode cX7_letters 72 = .ok (.isub, 1) := by decide +kernel
theorem dX7_letters_73 : decode cX7_letters 73 = .ok (.ireturn, 1) := by decide +kernel
set_option maxRecDepth 20000 in
theorem ggX7_wouldOpen_X7_refuseUnlessAbove : GoodIn wsX7_wouldOpen wsX7_refuseUnlessAbove := goodIn_r _ [8, 2, 9, 1, 10, 11, 12, 13, 14, 15, 16, 17, 18, 19, 20, 21, 22, 23, 24, 25, 26, 27, 28, 29, 38, 39, 40, 41, 42, 43, 44, 45, 46, 47, 48, 49, 50, 51, 52, 53, 54, 55, 56, 57, 58] (by decide +kernel) (by decide +kernel)
set_option maxRecDepth 20000 in
theorem gX7_wouldOpen_X7_refuseUnlessAbove : GoodIn wsX7_wouldOpen (wsV RX7 199 RX7 yX7_refuseUnlessAbove wsX7_refuseUnlessAbove) := goodIn_app (goodIn_of _ (by decide +kernel)) ggX7_wouldOpen_X7_refuseUnlessAbove
set_option maxRecDepth 20000 in
theorem ggX7_wouldOpen_X3_age : GoodIn wsX7_wouldOpen wsX3_age := goodIn_r _ [33, 26, 27, 28, 20, 29, 58] (by decide +kernel) (by decide +kernel)
set_option maxRecDepth 20000 in
theorem gX7_wouldOpen_X3_age : GoodIn wsX7_wouldOpen (wsV RX7 143 RX3 yX3_age wsX3_age) := goodIn_app (goodIn_of _ (by decide +kernel)) ggX7_wouldOpen_X3_age
set_option maxRecDepth 20000 in
theorem ggX7_wouldOpen_X3_box : GoodIn wsX7_wouldOpen wsX3_box := goodIn_r _ [37, 26, 27, 28, 20, 29, 58] (by decide +kernel) (by decide +kernel)
set_option maxRecDepth 20000 in
theorem gX7_wouldOpen_X3_box : GoodIn wsX7_wouldOpen (wsV RX7 152 RX3 yX3_box wsX3_box) := goodIn_app (goodIn_of _ (by decide +kernel)) ggX7_wouldOpen_X3_box
theorem dX7_wouldOpen_0 : decode cX7_wouldOpen 0 = .ok (.aload_n 0, 1) := by decide +kernel
theorem dX7_wouldOpen_1 : decode cX7_wouldOpen 1 = .ok (.iload_n 1, 1) := by decide +kernel
theorem dX7_wouldOpen_2 : decode cX7_wouldOpen 2 = .ok (.invokevirtual 199, 3) := by decide +kernel
theorem dX7_wouldOpen_5 : decode cX7_wouldOpen 5 = .ok (.istore_n 2, 1) := by decide +kernel
theorem dX7_wouldOpen_6 : decode cX7_wouldOpen 6 = .ok (.iload_n 2, 1) := by decide +kernel
theorem dX7_wouldOpen_7 : decode cX7_wouldOpen 7 = .ok (.ifCond .eq 5, 3) := by decide +kernel
theorem dX7_wouldOpen_10 : decode cX7_wouldOpen 10 = .ok (.iload_n 2, 1) := by decide +kernel
theorem dX7_wouldOpen_11 : decode cX7_wouldOpen 11 = .ok (.ireturn, 1) := by decide +kernel
theorem dX7_wouldOpen_12 : decode cX7_wouldOpen 12 = .ok (.aload_n 0, 1) := by decide +kernel
theorem dX7_wouldOpen_13 : decode cX7_wouldOpen 13 = .ok (.getfield 29, 3) := by decide +kernel
theorem dX7_wouldOpen_16 : decode cX7_wouldOpen 16 = .ok (.iload_n 1, 1) := by decide +kernel
theorem dX7_wouldOpen_17 : decode cX7_wouldOpen 17 = .ok (.invokevirtual 143, 3) := by decide +kernel
theorem dX7_wouldOpen_20 : decode cX7_wouldOpen 20 = .ok (.aload_n 0, 1) := by decide +kernel
theorem dX7_wouldOpen_21 : decode cX7_wouldOpen 21 = .ok (.getfield 29, 3) := by decide +kernel
theorem dX7_wouldOpen_24 : decode cX7_wouldOpen 24 = .ok (.iload_n 1, 1) := by decide +kernel
theorem dX7_wouldOpen_25 : decode cX7_wouldOpen 25 = .ok (.invokevirtual 152, 3) := by decide +kernel
theorem dX7_wouldOpen_28 : decode cX7_wouldOpen 28 = .ok (.iadd, 1) := by decide +kernel
theorem dX7_wouldOpen_29 : decode cX7_wouldOpen 29 = .ok (.istore_n 3, 1) := by decide +kernel
theorem dX7_wouldOpen_30 : decode cX7_wouldOpen 30 = .ok (.iload_n 3, 1) := by decide +kernel
theorem dX7_wouldOpen_31 : decode cX7_wouldOpen 31 = .ok (.aload_n 0, 1) := by decide +kernel
theorem dX7_wouldOpen_32 : decode cX7_wouldOpen 32 = .ok (.getfield 19, 3) := by decide +kernel
theorem dX7_wouldOpen_35 : decode cX7_wouldOpen 35 = .ok (.getfield 146, 3) := by decide +kernel
theorem dX7_wouldOpen_38 : decode cX7_wouldOpen 38 = .ok (.iload_n 1, 1) := by decide +kernel
theorem dX7_wouldOpen_39 : decode cX7_wouldOpen 39 = .ok (.iaload, 1) := by decide +kernel
theorem dX7_wouldOpen_40 : decode cX7_wouldOpen 40 = .ok (.if_icmp .ge 7, 3) := by decide +kernel
theorem dX7_wouldOpen_43 : decode cX7_wouldOpen 43 = .ok (.iload_n 3, 1) := by decide +kernel
theorem dX7_wouldOpen_44 : decode cX7_wouldOpen 44 = .ok (.goto 4, 3) := by decide +kernel
theorem dX7_wouldOpen_47 : decode cX7_wouldOpen 47 = .ok (.iconst (-1), 1) := by decide +kernel
theorem dX7_wouldOpen_48 : decode cX7_wouldOpen 48 = .ok (.ireturn, 1) := by decide +kernel
set_option maxRecDepth 20000 in
theorem ggX7_yearsLeft_X7_refuseUnlessAbove : GoodIn wsX7_yearsLeft wsX7_refuseUnlessAbove := goodIn_r _ [8, 1, 9, 3, 10, 11, 12, 13, 14, 15, 16, 17, 18, 19, 20, 21, 22, 23, 24, 25, 26, 27, 28, 29, 34, 35, 36, 37, 38, 39, 40, 41, 42, 43, 44, 45, 46, 47, 48, 49, 50, 51, 52, 53, 54] (by decide +kernel) (by decide +kernel)
set_option maxRecDepth 20000 in
theorem gX7_yearsLeft_X7_refuseUnlessAbove : GoodIn wsX7_yearsLeft (wsV RX7 199 RX7 yX7_refuseUnlessAbove wsX7_refuseUnlessAbove) := goodIn_app (goodIn_of _ (by decide +kernel)) ggX7_yearsLeft_X7_refuseUnlessAbove
set_option maxRecDepth 20000 in
theorem ggX7_yearsLeft_X3_age : GoodIn wsX7_yearsLeft wsX3_age := goodIn_r _ [33, 26, 27, 28, 20, 29, 54] (by decide +kernel) (by decide +kernel)
set_option maxRecDepth 20000 in
theorem gX7_yearsLeft_X3_age : GoodIn wsX7_yearsLeft (wsV RX7 143 RX3 yX3_age wsX3_age) := goodIn_app (goodIn_of _ (by decide +kernel)) ggX7_yearsLeft_X3_age
theorem dX7_yearsLeft_0 : decode cX7_yearsLeft 0 = .ok (.aload_n 0, 1) := by decide +kernel
theorem dX7_yearsLeft_1 : decode cX7_yearsLeft 1 = .ok (.iload_n 1, 1) := by decide +kernel
theorem dX7_yearsLeft_2 : decode cX7_yearsLeft 2 = .ok (.invokevirtual 199, 3) := by decide +kernel
theorem dX7_yearsLeft_5 : decode cX7_yearsLeft 5 = .ok (.istore_n 2, 1) := by decide +kernel
theorem dX7_yearsLeft_6 : decode cX7_yearsLeft 6 = .ok (.iload_n 2, 1) := by decide +kernel
theorem dX7_yearsLeft_7 : decode cX7_yearsLeft 7 = .ok (.ifCond .eq 7, 3) := by decide +kernel
theorem dX7_yearsLeft_10 : decode cX7_yearsLeft 10 = .ok (.iload_n 2, 1) := by decide +kernel
theorem dX7_yearsLeft_11 : decode cX7_yearsLeft 11 = .ok (.goto 21, 3) := by decide +kernel
theorem dX7_yearsLeft_14 : decode cX7_yearsLeft 14 = .ok (.aload_n 0, 1) := by decide +kernel
theorem dX7_yearsLeft_15 : decode cX7_yearsLeft 15 = .ok (.getfield 19, 3) := by decide +kernel
theorem dX7_yearsLeft_18 : decode cX7_yearsLeft 18 = .ok (.getfield 146, 3) := by decide +kernel
theorem dX7_yearsLeft_21 : decode cX7_yearsLeft 21 = .ok (.iload_n 1, 1) := by decide +kernel
theorem dX7_yearsLeft_22 : decode cX7_yearsLeft 22 = .ok (.iaload, 1) := by decide +kernel
theorem dX7_yearsLeft_23 : decode cX7_yearsLeft 23 = .ok (.aload_n 0, 1) := by decide +kernel
theorem dX7_yearsLeft_24 : decode cX7_yearsLeft 24 = .ok (.getfield 29, 3) := by decide +kernel
theorem dX7_yearsLeft_27 : decode cX7_yearsLeft 27 = .ok (.iload_n 1, 1) := by decide +kernel
theorem dX7_yearsLeft_28 : decode cX7_yearsLeft 28 = .ok (.invokevirtual 143, 3) := by decide +kernel
theorem dX7_yearsLeft_31 : decode cX7_yearsLeft 31 = .ok (.isub, 1) := by decide +kernel
theorem dX7_yearsLeft_32 : decode cX7_yearsLeft 32 = .ok (.ireturn, 1) := by decide +kernel
set_option maxRecDepth 20000 in
theorem ggX7_latest_X3_age : GoodIn wsX7_latest wsX3_age := goodIn_r _ [9, 10, 11, 12, 8, 13, 42] (by decide +kernel) (by decide +kernel)
set_option maxRecDepth 20000 in
theorem gX7_latest_X3_age : GoodIn wsX7_latest (wsV RX7 143 RX3 yX3_age wsX3_age) := goodIn_app (goodIn_of _ (by decide +kernel)) ggX7_latest_X3_age
set_option maxRecDepth 20000 in
theorem ggX7_latest_X3_isAbove : GoodIn wsX7_latest wsX3_isAbove := goodIn_r _ [17, 18, 19, 20, 8, 21, 10, 11, 12, 13, 42] (by decide +kernel) (by decide +kernel)
set_option maxRecDepth 20000 in
theorem gX7_latest_X3_isAbove : GoodIn wsX7_latest (wsV RX7 185 RX3 yX3_isAbove wsX3_isAbove) := goodIn_app (goodIn_of _ (by decide +kernel)) ggX7_latest_X3_isAbove
theorem dX7_latest_0 : decode cX7_latest 0 = .ok (.iconst (-1), 1) := by decide +kernel
theorem dX7_latest_1 : decode cX7_latest 1 = .ok (.istore_n 1, 1) := by decide +kernel
theorem dX7_latest_2 : decode cX7_latest 2 = .ok (.iconst 0, 1) := by decide +kernel
theorem dX7_latest_3 : decode cX7_latest 3 = .ok (.istore_n 2, 1) := by decide +kernel
theorem dX7_latest_4 : decode cX7_latest 4 = .ok (.iconst 0, 1) := by decide +kernel
theorem dX7_latest_5 : decode cX7_latest 5 = .ok (.istore_n 3, 1) := by decide +kernel
theorem dX7_latest_6 : decode cX7_latest 6 = .ok (.iload_n 3, 1) := by decide +kernel
theorem dX7_latest_7 : decode cX7_latest 7 = .ok (.aload_n 0, 1) := by decide +kernel
theorem dX7_latest_8 : decode cX7_latest 8 = .ok (.getfield 19, 3) := by decide +kernel
theorem dX7_latest_11 : decode cX7_latest 11 = .ok (.getfield 92, 3) := by decide +kernel
theorem dX7_latest_14 : decode cX7_latest 14 = .ok (.if_icmp .ge 51, 3) := by decide +kernel
theorem dX7_latest_17 : decode cX7_latest 17 = .ok (.aload_n 0, 1) := by decide +kernel
theorem dX7_latest_18 : decode cX7_latest 18 = .ok (.getfield 19, 3) := by decide +kernel
theorem dX7_latest_21 : decode cX7_latest 21 = .ok (.getfield 146, 3) := by decide +kernel
theorem dX7_latest_24 : decode cX7_latest 24 = .ok (.iload_n 3, 1) := by decide +kernel
theorem dX7_latest_25 : decode cX7_latest 25 = .ok (.iaload, 1) := by decide +kernel
theorem dX7_latest_26 : decode cX7_latest 26 = .ok (.aload_n 0, 1) := by decide +kernel
theorem dX7_latest_27 : decode cX7_latest 27 = .ok (.getfield 29, 3) := by decide +kernel
theorem dX7_latest_30 : decode cX7_latest 30 = .ok (.iload_n 3, 1) := by decide +kernel
theorem dX7_latest_31 : decode cX7_latest 31 = .ok (.invokevirtual 143, 3) := by decide +kernel
theorem dX7_latest_34 : decode cX7_latest 34 = .ok (.isub, 1) := by decide +kernel
theorem dX7_latest_35 : decode cX7_latest 35 = .ok (.istore 4, 2) := by decide +kernel
theorem dX7_latest_37 : decode cX7_latest 37 = .ok (.aload_n 0, 1) := by decide +kernel
theorem dX7_latest_38 : decode cX7_latest 38 = .ok (.getfield 29, 3) := by decide +kernel
theorem dX7_latest_41 : decode cX7_latest 41 = .ok (.iload_n 3, 1) := by decide +kernel
theorem dX7_latest_42 : decode cX7_latest 42 = .ok (.invokevirtual 185, 3) := by decide +kernel
theorem dX7_latest_45 : decode cX7_latest 45 = .ok (.ifCond .eq 14, 3) := by decide +kernel
theorem dX7_latest_48 : decode cX7_latest 48 = .ok (.iload 4, 2) := by decide +kernel
theorem dX7_latest_50 : decode cX7_latest 50 = .ok (.iload_n 2, 1) := by decide +kernel
theorem dX7_latest_51 : decode cX7_latest 51 = .ok (.if_icmp .le 8, 3) := by decide +kernel
theorem dX7_latest_54 : decode cX7_latest 54 = .ok (.iload_n 3, 1) := by decide +kernel
theorem dX7_latest_55 : decode cX7_latest 55 = .ok (.istore_n 1, 1) := by decide +kernel
theorem dX7_latest_56 : decode cX7_latest 56 = .ok (.iload 4, 2) := by decide +kernel
theorem dX7_latest_58 : decode cX7_latest 58 = .ok (.istore_n 2, 1) := by decide +kernel
theorem dX7_latest_59 : decode cX7_latest 59 = .ok (.iinc 3 1, 3) := by decide +kernel
theorem dX7_latest_62 : decode cX7_latest 62 = .ok (.goto (-56), 3) := by decide +kernel
theorem dX7_latest_65 : decode cX7_latest 65 = .ok (.iload_n 1, 1) := by decide +kernel
theorem dX7_latest_66 : decode cX7_latest 66 = .ok (.ireturn, 1) := by decide +kernel
theorem dX7_storm_0 : decode cX7_storm 0 = .ok (.iload_n 1, 1) := by decide +kernel
theorem dX7_storm_1 : decode cX7_storm 1 = .ok (.ifCond .lt 19, 3) := by decide +kernel
theorem dX7_storm_4 : decode cX7_storm 4 = .ok (.iload_n 1, 1) := by decide +kernel
theorem dX7_storm_5 : decode cX7_storm 5 = .ok (.bipush 60, 2) := by decide +kernel
theorem dX7_storm_7 : decode cX7_storm 7 = .ok (.if_icmp .gt 13, 3) := by decide +kernel
theorem dX7_storm_10 : decode cX7_storm 10 = .ok (.iload_n 2, 1) := by decide +kernel
theorem dX7_storm_11 : decode cX7_storm 11 = .ok (.ifCond .lt 9, 3) := by decide +kernel
theorem dX7_storm_14 : decode cX7_storm 14 = .ok (.iload_n 2, 1) := by decide +kernel
theorem dX7_storm_15 : decode cX7_storm 15 = .ok (.bipush 100, 2) := by decide +kernel
theorem dX7_storm_17 : decode cX7_storm 17 = .ok (.if_icmp .le 6, 3) := by decide +kernel
theorem dX7_storm_20 : decode cX7_storm 20 = .ok (.ldc 61, 2) := by decide +kernel
theorem dX7_storm_22 : decode cX7_storm 22 = .ok (.ireturn, 1) := by decide +kernel
theorem dX7_storm_23 : decode cX7_storm 23 = .ok (.ldc2_w 263, 3) := by decide +kernel
theorem dX7_storm_26 : decode cX7_storm 26 = .ok (.lstore_n 3, 1) := by decide +kernel
theorem dX7_storm_27 : decode cX7_storm 27 = .ok (.iconst 0, 1) := by decide +kernel
theorem dX7_storm_28 : decode cX7_storm 28 = .ok (.istore 5, 2) := by decide +kernel
theorem dX7_storm_30 : decode cX7_storm 30 = .ok (.iload 5, 2) := by decide +kernel
theorem dX7_storm_32 : decode cX7_storm 32 = .ok (.iload_n 1, 1) := by decide +kernel
theorem dX7_storm_33 : decode cX7_storm 33 = .ok (.if_icmp .ge 21, 3) := by decide +kernel
theorem dX7_storm_36 : decode cX7_storm 36 = .ok (.lload_n 3, 1) := by decide +kernel
theorem dX7_storm_37 : decode cX7_storm 37 = .ok (.bipush 100, 2) := by decide +kernel
theorem dX7_storm_39 : decode cX7_storm 39 = .ok (.iload_n 2, 1) := by decide +kernel
theorem dX7_storm_40 : decode cX7_storm 40 = .ok (.isub, 1) := by decide +kernel
theorem dX7_storm_41 : decode cX7_storm 41 = .ok (.i2l, 1) := by decide +kernel
theorem dX7_storm_42 : decode cX7_storm 42 = .ok (.lmul, 1) := by decide +kernel
theorem dX7_storm_43 : decode cX7_storm 43 = .ok (.ldc2_w 265, 3) := by decide +kernel
theorem dX7_storm_46 : decode cX7_storm 46 = .ok (.ldiv, 1) := by decide +kernel
theorem dX7_storm_47 : decode cX7_storm 47 = .ok (.lstore_n 3, 1) := by decide +kernel
theorem dX7_storm_48 : decode cX7_storm 48 = .ok (.iinc 5 1, 3) := by decide +kernel
theorem dX7_storm_51 : decode cX7_storm 51 = .ok (.goto (-21), 3) := by decide +kernel
theorem dX7_storm_54 : decode cX7_storm 54 = .ok (.lload_n 3, 1) := by decide +kernel
theorem dX7_storm_55 : decode cX7_storm 55 = .ok (.l2i, 1) := by decide +kernel
theorem dX7_storm_56 : decode cX7_storm 56 = .ok (.ireturn, 1) := by decide +kernel
set_option maxRecDepth 20000 in
theorem ggX7_find_X5_hasGood : GoodIn wsX7_find wsX5_hasGood := goodIn_r _ [11, 12, 41, 42, 43, 44, 45, 46, 47, 48, 49, 50, 51] (by decide +kernel) (by decide +kernel)
set_option maxRecDepth 20000 in
theorem gX7_find_X5_hasGood : GoodIn wsX7_find (wsV RX7 158 RX5 yX5_hasGood wsX5_hasGood) := goodIn_app (goodIn_of _ (by decide +kernel)) ggX7_find_X5_hasGood
set_option maxRecDepth 20000 in
theorem ggX7_find_X1_add : GoodIn wsX7_find wsX1_add := goodIn_r _ [17, 18, 19, 20, 21, 22, 32, 33, 34, 35, 36, 37, 38, 39, 40] (by decide +kernel) (by decide +kernel)
set_option maxRecDepth 20000 in
theorem gX7_find_X1_add : GoodIn wsX7_find (wsV RX7 267 RX1 yX1_add wsX1_add) := goodIn_app (goodIn_of _ (by decide +kernel)) ggX7_find_X1_add
theorem dX7_find_0 : decode cX7_find 0 = .ok (.iload_n 1, 1) := by decide +kernel
theorem dX7_find_1 : decode cX7_find 1 = .ok (.ifCond .ne 17, 3) := by decide +kernel
theorem dX7_find_4 : decode cX7_find 4 = .ok (.aload_n 0, 1) := by decide +kernel
theorem dX7_find_5 : decode cX7_find 5 = .ok (.getfield 19, 3) := by decide +kernel
theorem dX7_find_8 : decode cX7_find 8 = .ok (.iload_n 2, 1) := by decide +kernel
theorem dX7_find_9 : decode cX7_find 9 = .ok (.invokevirtual 158, 3) := by decide +kernel
theorem dX7_find_12 : decode cX7_find 12 = .ok (.ifCond .ne 6, 3) := by decide +kernel
theorem dX7_find_15 : decode cX7_find 15 = .ok (.ldc 139, 2) := by decide +kernel
theorem dX7_find_17 : decode cX7_find 17 = .ok (.ireturn, 1) := by decide +kernel
theorem dX7_find_18 : decode cX7_find 18 = .ok (.iload_n 1, 1) := by decide +kernel
theorem dX7_find_19 : decode cX7_find 19 = .ok (.ifCond .lt 28, 3) := by decide +kernel
theorem dX7_find_22 : decode cX7_find 22 = .ok (.iload_n 1, 1) := by decide +kernel
theorem dX7_find_23 : decode cX7_find 23 = .ok (.iconst 1, 1) := by decide +kernel
theorem dX7_find_24 : decode cX7_find 24 = .ok (.if_icmp .gt 23, 3) := by decide +kernel
theorem dX7_find_27 : decode cX7_find 27 = .ok (.iload_n 1, 1) := by decide +kernel
theorem dX7_find_28 : decode cX7_find 28 = .ok (.iconst 1, 1) := by decide +kernel
theorem dX7_find_29 : decode cX7_find 29 = .ok (.if_icmp .ne 7, 3) := by decide +kernel
theorem dX7_find_32 : decode cX7_find 32 = .ok (.iload_n 2, 1) := by decide +kernel
theorem dX7_find_33 : decode cX7_find 33 = .ok (.ifCond .ne 14, 3) := by decide +kernel
theorem dX7_find_36 : decode cX7_find 36 = .ok (.iload_n 3, 1) := by decide +kernel
theorem dX7_find_37 : decode cX7_find 37 = .ok (.ifCond .lt 10, 3) := by decide +kernel
theorem dX7_find_40 : decode cX7_find 40 = .ok (.iload_n 3, 1) := by decide +kernel
theorem dX7_find_41 : decode cX7_find 41 = .ok (.sipush 9999, 3) := by decide +kernel
theorem dX7_find_44 : decode cX7_find 44 = .ok (.if_icmp .le 6, 3) := by decide +kernel
theorem dX7_find_47 : decode cX7_find 47 = .ok (.ldc 61, 2) := by decide +kernel
theorem dX7_find_49 : decode cX7_find 49 = .ok (.ireturn, 1) := by decide +kernel
theorem dX7_find_50 : decode cX7_find 50 = .ok (.aload_n 0, 1) := by decide +kernel
theorem dX7_find_51 : decode cX7_find 51 = .ok (.getfield 50, 3) := by decide +kernel
theorem dX7_find_54 : decode cX7_find 54 = .ok (.getfield 126, 3) := by decide +kernel
theorem dX7_find_57 : decode cX7_find 57 = .ok (.bipush 6, 2) := by decide +kernel
theorem dX7_find_59 : decode cX7_find 59 = .ok (.if_icmp .lt 6, 3) := by decide +kernel
theorem dX7_find_62 : decode cX7_find 62 = .ok (.ldc 66, 2) := by decide +kernel
theorem dX7_find_64 : decode cX7_find 64 = .ok (.ireturn, 1) := by decide +kernel
theorem dX7_find_65 : decode cX7_find 65 = .ok (.aload_n 0, 1) := by decide +kernel
theorem dX7_find_66 : decode cX7_find 66 = .ok (.getfield 50, 3) := by decide +kernel
theorem dX7_find_69 : decode cX7_find 69 = .ok (.iload_n 1, 1) := by decide +kernel
theorem dX7_find_70 : decode cX7_find 70 = .ok (.iload_n 2, 1) := by decide +kernel
theorem dX7_find_71 : decode cX7_find 71 = .ok (.iload_n 3, 1) := by decide +kernel
theorem dX7_find_72 : decode cX7_find 72 = .ok (.invokevirtual 267, 3) := by decide +kernel
theorem dX7_find_75 : decode cX7_find 75 = .ok (.aload_n 0, 1) := by decide +kernel
theorem dX7_find_76 : decode cX7_find 76 = .ok (.getfield 50, 3) := by decide +kernel
theorem dX7_find_79 : decode cX7_find 79 = .ok (.getfield 126, 3) := by decide +kernel
theorem dX7_find_82 : decode cX7_find 82 = .ok (.ireturn, 1) := by decide +kernel
set_option maxRecDepth 20000 in
theorem ggX7_stays_X1_seek : GoodIn wsX7_stays wsX1_seek := goodIn_r _ [9, 10, 11, 12, 13, 14, 15, 16, 8, 17, 18, 19, 20, 21, 22, 23, 24, 25, 26, 27, 28, 29, 30, 31, 32, 33, 34, 35, 36, 37, 38, 39, 40, 41, 42, 43, 44, 45, 46, 47, 48, 49, 50, 51, 52, 53, 54, 55, 65, 66, 67, 68, 69, 70, 71, 72, 73, 74, 75, 76, 77, 78, 79, 80, 81, 82, 83, 84] (by decide +kernel) (by decide +kernel)
set_option maxRecDepth 20000 in
theorem gX7_stays_X1_seek : GoodIn wsX7_stays (wsV RX7 270 RX1 yX1_seek wsX1_seek) := goodIn_app (goodIn_of _ (by decide +kernel)) ggX7_stays_X1_seek
theorem dX7_stays_0 : decode cX7_stays 0 = .ok (.aload_n 0, 1) := by decide +kernel
theorem dX7_stays_1 : decode cX7_stays 1 = .ok (.getfield 50, 3) := by decide +kernel
theorem dX7_stays_4 : decode cX7_stays 4 = .ok (.aload_n 0, 1) := by decide +kernel
theorem dX7_stays_5 : decode cX7_stays 5 = .ok (.getfield 19, 3) := by decide +kernel
theorem dX7_stays_8 : decode cX7_stays 8 = .ok (.invokevirtual 270, 3) := by decide +kernel
theorem dX7_stays_11 : decode cX7_stays 11 = .ok (.iload_n 1, 1) := by decide +kernel
theorem dX7_stays_12 : decode cX7_stays 12 = .ok (.iconst (-1), 1) := by decide +kernel
theorem dX7_stays_13 : decode cX7_stays 13 = .ok (.if_icmp .ne 11, 3) := by decide +kernel
theorem dX7_stays_16 : decode cX7_stays 16 = .ok (.aload_n 0, 1) := by decide +kernel
theorem dX7_stays_17 : decode cX7_stays 17 = .ok (.getfield 50, 3) := by decide +kernel
theorem dX7_stays_20 : decode cX7_stays 20 = .ok (.getfield 273, 3) := by decide +kernel
theorem dX7_stays_23 : decode cX7_stays 23 = .ok (.ireturn, 1) := by decide +kernel
theorem dX7_stays_24 : decode cX7_stays 24 = .ok (.iload_n 1, 1) := by decide +kernel
theorem dX7_stays_25 : decode cX7_stays 25 = .ok (.ifCond .lt 14, 3) := by decide +kernel
theorem dX7_stays_28 : decode cX7_stays 28 = .ok (.iload_n 1, 1) := by decide +kernel
theorem dX7_stays_29 : decode cX7_stays 29 = .ok (.aload_n 0, 1) := by decide +kernel
theorem dX7_stays_30 : decode cX7_stays 30 = .ok (.getfield 50, 3) := by decide +kernel
theorem dX7_stays_33 : decode cX7_stays 33 = .ok (.getfield 273, 3) := by decide +kernel
theorem dX7_stays_36 : decode cX7_stays 36 = .ok (.if_icmp .lt 7, 3) := by decide +kernel
theorem dX7_stays_39 : decode cX7_stays 39 = .ok (.iconst (-1), 1) := by decide +kernel
theorem dX7_stays_40 : decode cX7_stays 40 = .ok (.goto 12, 3) := by decide +kernel
theorem dX7_stays_43 : decode cX7_stays 43 = .ok (.aload_n 0, 1) := by decide +kernel
theorem dX7_stays_44 : decode cX7_stays 44 = .ok (.getfield 50, 3) := by decide +kernel
theorem dX7_stays_47 : decode cX7_stays 47 = .ok (.getfield 276, 3) := by decide +kernel
theorem dX7_stays_50 : decode cX7_stays 50 = .ok (.iload_n 1, 1) := by decide +kernel
theorem dX7_stays_51 : decode cX7_stays 51 = .ok (.iaload, 1) := by decide +kernel
theorem dX7_stays_52 : decode cX7_stays 52 = .ok (.ireturn, 1) := by decide +kernel
set_option maxRecDepth 20000 in
theorem ggX7_ask_X1_seek : GoodIn wsX7_ask wsX1_seek := goodIn_r _ [9, 10, 11, 12, 13, 14, 15, 16, 8, 17, 18, 19, 20, 21, 22, 23, 24, 25, 26, 27, 28, 29, 30, 31, 32, 33, 34, 35, 36, 37, 38, 39, 40, 41, 42, 43, 44, 45, 46, 47, 48, 49, 50, 51, 52, 53, 54, 55, 77, 78, 79, 80, 81, 82, 83, 84, 85, 86, 87, 88, 89, 90, 91, 92, 93, 94, 95, 96] (by decide +kernel) (by decide +kernel)
set_option maxRecDepth 20000 in
theorem gX7_ask_X1_seek : GoodIn wsX7_ask (wsV RX7 270 RX1 yX1_seek wsX1_seek) := goodIn_app (goodIn_of _ (by decide +kernel)) ggX7_ask_X1_seek
set_option maxRecDepth 20000 in
theorem ggX7_ask_X1_greatestPart : GoodIn wsX7_ask wsX1_greatestPart := goodIn_r _ [59, 11, 60, 61, 62, 63, 64, 65, 66, 8, 67, 13, 47, 48, 49, 50, 21, 77, 78, 79, 80, 81, 82, 83, 84, 85] (by decide +kernel) (by decide +kernel)
set_option maxRecDepth 20000 in
theorem gX7_ask_X1_greatestPart : GoodIn wsX7_ask (wsV RX7 279 RX1 yX1_greatestPart wsX1_greatestPart) := goodIn_app (goodIn_of _ (by decide +kernel)) ggX7_ask_X1_greatestPart
theorem dX7_ask_0 : decode cX7_ask 0 = .ok (.aload_n 0, 1) := by decide +kernel
theorem dX7_ask_1 : decode cX7_ask 1 = .ok (.getfield 50, 3) := by decide +kernel
theorem dX7_ask_4 : decode cX7_ask 4 = .ok (.aload_n 0, 1) := by decide +kernel
theorem dX7_ask_5 : decode cX7_ask 5 = .ok (.getfield 19, 3) := by decide +kernel
theorem dX7_ask_8 : decode cX7_ask 8 = .ok (.invokevirtual 270, 3) := by decide +kernel
theorem dX7_ask_11 : decode cX7_ask 11 = .ok (.iconst (-1), 1) := by decide +kernel
theorem dX7_ask_12 : decode cX7_ask 12 = .ok (.istore_n 1, 1) := by decide +kernel
theorem dX7_ask_13 : decode cX7_ask 13 = .ok (.aload_n 0, 1) := by decide +kernel
theorem dX7_ask_14 : decode cX7_ask 14 = .ok (.getfield 50, 3) := by decide +kernel
theorem dX7_ask_17 : decode cX7_ask 17 = .ok (.getfield 273, 3) := by decide +kernel
theorem dX7_ask_20 : decode cX7_ask 20 = .ok (.istore_n 2, 1) := by decide +kernel
theorem dX7_ask_21 : decode cX7_ask 21 = .ok (.iconst 0, 1) := by decide +kernel
theorem dX7_ask_22 : decode cX7_ask 22 = .ok (.istore_n 3, 1) := by decide +kernel
theorem dX7_ask_23 : decode cX7_ask 23 = .ok (.iload_n 3, 1) := by decide +kernel
theorem dX7_ask_24 : decode cX7_ask 24 = .ok (.aload_n 0, 1) := by decide +kernel
theorem dX7_ask_25 : decode cX7_ask 25 = .ok (.getfield 19, 3) := by decide +kernel
theorem dX7_ask_28 : decode cX7_ask 28 = .ok (.getfield 107, 3) := by decide +kernel
theorem dX7_ask_31 : decode cX7_ask 31 = .ok (.if_icmp .ge 30, 3) := by decide +kernel
theorem dX7_ask_34 : decode cX7_ask 34 = .ok (.aload_n 0, 1) := by decide +kernel
theorem dX7_ask_35 : decode cX7_ask 35 = .ok (.getfield 50, 3) := by decide +kernel
theorem dX7_ask_38 : decode cX7_ask 38 = .ok (.iload_n 3, 1) := by decide +kernel
theorem dX7_ask_39 : decode cX7_ask 39 = .ok (.invokevirtual 279, 3) := by decide +kernel
theorem dX7_ask_42 : decode cX7_ask 42 = .ok (.istore 4, 2) := by decide +kernel
theorem dX7_ask_44 : decode cX7_ask 44 = .ok (.iload 4, 2) := by decide +kernel
theorem dX7_ask_46 : decode cX7_ask 46 = .ok (.iload_n 2, 1) := by decide +kernel
theorem dX7_ask_47 : decode cX7_ask 47 = .ok (.if_icmp .ge 8, 3) := by decide +kernel
theorem dX7_ask_50 : decode cX7_ask 50 = .ok (.iload_n 3, 1) := by decide +kernel
theorem dX7_ask_51 : decode cX7_ask 51 = .ok (.istore_n 1, 1) := by decide +kernel
theorem dX7_ask_52 : decode cX7_ask 52 = .ok (.iload 4, 2) := by decide +kernel
theorem dX7_ask_54 : decode cX7_ask 54 = .ok (.istore_n 2, 1) := by decide +kernel
theorem dX7_ask_55 : decode cX7_ask 55 = .ok (.iinc 3 1, 3) := by decide +kernel
theorem dX7_ask_58 : decode cX7_ask 58 = .ok (.goto (-35), 3) := by decide +kernel
theorem dX7_ask_61 : decode cX7_ask 61 = .ok (.iload_n 1, 1) := by decide +kernel
theorem dX7_ask_62 : decode cX7_ask 62 = .ok (.ireturn, 1) := by decide +kernel
set_option maxRecDepth 20000 in
theorem ggX7_write_X5_hasPerson : GoodIn wsX7_write wsX5_hasPerson := goodIn_r _ [11, 12, 33, 34, 35, 36, 37, 38, 39, 40, 41, 42, 43] (by decide +kernel) (by decide +kernel)
set_option maxRecDepth 20000 in
theorem gX7_write_X5_hasPerson : GoodIn wsX7_write (wsV RX7 140 RX5 yX5_hasPerson wsX5_hasPerson) := goodIn_app (goodIn_of _ (by decide +kernel)) ggX7_write_X5_hasPerson
set_option maxRecDepth 20000 in
theorem ggX7_write_X0_add : GoodIn wsX7_write wsX0_add := goodIn_r _ [17, 18, 19, 20, 30, 31, 32] (by decide +kernel) (by decide +kernel)
set_option maxRecDepth 20000 in
theorem gX7_write_X0_add : GoodIn wsX7_write (wsV RX7 282 RX0 yX0_add wsX0_add) := goodIn_app (goodIn_of _ (by decide +kernel)) ggX7_write_X0_add
theorem dX7_write_0 : decode cX7_write 0 = .ok (.aload_n 0, 1) := by decide +kernel
theorem dX7_write_1 : decode cX7_write 1 = .ok (.getfield 19, 3) := by decide +kernel
theorem dX7_write_4 : decode cX7_write 4 = .ok (.iload_n 1, 1) := by decide +kernel
theorem dX7_write_5 : decode cX7_write 5 = .ok (.invokevirtual 140, 3) := by decide +kernel
theorem dX7_write_8 : decode cX7_write 8 = .ok (.ifCond .ne 6, 3) := by decide +kernel
theorem dX7_write_11 : decode cX7_write 11 = .ok (.ldc 139, 2) := by decide +kernel
theorem dX7_write_13 : decode cX7_write 13 = .ok (.ireturn, 1) := by decide +kernel
theorem dX7_write_14 : decode cX7_write 14 = .ok (.iload_n 2, 1) := by decide +kernel
theorem dX7_write_15 : decode cX7_write 15 = .ok (.ifCond .lt 10, 3) := by decide +kernel
theorem dX7_write_18 : decode cX7_write 18 = .ok (.iload_n 2, 1) := by decide +kernel
theorem dX7_write_19 : decode cX7_write 19 = .ok (.sipush 9999, 3) := by decide +kernel
theorem dX7_write_22 : decode cX7_write 22 = .ok (.if_icmp .le 6, 3) := by decide +kernel
theorem dX7_write_25 : decode cX7_write 25 = .ok (.ldc 61, 2) := by decide +kernel
theorem dX7_write_27 : decode cX7_write 27 = .ok (.ireturn, 1) := by decide +kernel
theorem dX7_write_28 : decode cX7_write 28 = .ok (.aload_n 0, 1) := by decide +kernel
theorem dX7_write_29 : decode cX7_write 29 = .ok (.getfield 57, 3) := by decide +kernel
theorem dX7_write_32 : decode cX7_write 32 = .ok (.getfield 129, 3) := by decide +kernel
theorem dX7_write_35 : decode cX7_write 35 = .ok (.bipush 15, 2) := by decide +kernel
theorem dX7_write_37 : decode cX7_write 37 = .ok (.if_icmp .lt 6, 3) := by decide +kernel
theorem dX7_write_40 : decode cX7_write 40 = .ok (.ldc 66, 2) := by decide +kernel
theorem dX7_write_42 : decode cX7_write 42 = .ok (.ireturn, 1) := by decide +kernel
theorem dX7_write_43 : decode cX7_write 43 = .ok (.aload_n 0, 1) := by decide +kernel
theorem dX7_write_44 : decode cX7_write 44 = .ok (.getfield 57, 3) := by decide +kernel
theorem dX7_write_47 : decode cX7_write 47 = .ok (.iload_n 1, 1) := by decide +kernel
theorem dX7_write_48 : decode cX7_write 48 = .ok (.iload_n 2, 1) := by decide +kernel
theorem dX7_write_49 : decode cX7_write 49 = .ok (.invokevirtual 282, 3) := by decide +kernel
theorem dX7_write_52 : decode cX7_write 52 = .ok (.aload_n 0, 1) := by decide +kernel
theorem dX7_write_53 : decode cX7_write 53 = .ok (.getfield 57, 3) := by decide +kernel
theorem dX7_write_56 : decode cX7_write 56 = .ok (.getfield 129, 3) := by decide +kernel
theorem dX7_write_59 : decode cX7_write 59 = .ok (.ireturn, 1) := by decide +kernel
set_option maxRecDepth 20000 in
theorem ggX7_tear_X1_empty : GoodIn wsX7_tear wsX1_empty := goodIn_r _ [9, 10, 11, 27, 28, 29, 30, 31, 32, 33, 34, 35] (by decide +kernel) (by decide +kernel)
set_option maxRecDepth 20000 in
theorem gX7_tear_X1_empty : GoodIn wsX7_tear (wsV RX7 284 RX1 yX1_empty wsX1_empty) := goodIn_app (goodIn_of _ (by decide +kernel)) ggX7_tear_X1_empty
set_option maxRecDepth 20000 in
theorem ggX7_tear_X0_empty : GoodIn wsX7_tear wsX0_empty := goodIn_r _ [16, 17, 36, 37, 38] (by decide +kernel) (by decide +kernel)
set_option maxRecDepth 20000 in
theorem gX7_tear_X0_empty : GoodIn wsX7_tear (wsV RX7 91 RX0 yX0_empty wsX0_empty) := goodIn_app (goodIn_of _ (by decide +kernel)) ggX7_tear_X0_empty
theorem dX7_tear_0 : decode cX7_tear 0 = .ok (.aload_n 0, 1) := by decide +kernel
theorem dX7_tear_1 : decode cX7_tear 1 = .ok (.getfield 50, 3) := by decide +kernel
theorem dX7_tear_4 : decode cX7_tear 4 = .ok (.getfield 126, 3) := by decide +kernel
theorem dX7_tear_7 : decode cX7_tear 7 = .ok (.aload_n 0, 1) := by decide +kernel
theorem dX7_tear_8 : decode cX7_tear 8 = .ok (.getfield 57, 3) := by decide +kernel
theorem dX7_tear_11 : decode cX7_tear 11 = .ok (.getfield 129, 3) := by decide +kernel
theorem dX7_tear_14 : decode cX7_tear 14 = .ok (.iadd, 1) := by decide +kernel
theorem dX7_tear_15 : decode cX7_tear 15 = .ok (.istore_n 1, 1) := by decide +kernel
theorem dX7_tear_16 : decode cX7_tear 16 = .ok (.aload_n 0, 1) := by decide +kernel
theorem dX7_tear_17 : decode cX7_tear 17 = .ok (.getfield 50, 3) := by decide +kernel
theorem dX7_tear_20 : decode cX7_tear 20 = .ok (.invokevirtual 284, 3) := by decide +kernel
theorem dX7_tear_23 : decode cX7_tear 23 = .ok (.aload_n 0, 1) := by decide +kernel
theorem dX7_tear_24 : decode cX7_tear 24 = .ok (.getfield 57, 3) := by decide +kernel
theorem dX7_tear_27 : decode cX7_tear 27 = .ok (.invokevirtual 91, 3) := by decide +kernel
theorem dX7_tear_30 : decode cX7_tear 30 = .ok (.iload_n 1, 1) := by decide +kernel
theorem dX7_tear_31 : decode cX7_tear 31 = .ok (.ireturn, 1) := by decide +kernel
set_option maxRecDepth 20000 in
theorem ggX7_judge_X0_firstWrong : GoodIn wsX7_judge wsX0_firstWrong := goodIn_r _ [7, 8, 9, 10, 11, 12, 13, 14, 15, 16, 17, 18, 19, 29, 30, 31, 32] (by decide +kernel) (by decide +kernel)
set_option maxRecDepth 20000 in
theorem gX7_judge_X0_firstWrong : GoodIn wsX7_judge (wsV RX7 285 RX0 yX0_firstWrong wsX0_firstWrong) := goodIn_app (goodIn_of _ (by decide +kernel)) ggX7_judge_X0_firstWrong
theorem dX7_judge_0 : decode cX7_judge 0 = .ok (.aload_n 0, 1) := by decide +kernel
theorem dX7_judge_1 : decode cX7_judge 1 = .ok (.getfield 57, 3) := by decide +kernel
theorem dX7_judge_4 : decode cX7_judge 4 = .ok (.aload_n 0, 1) := by decide +kernel
theorem dX7_judge_5 : decode cX7_judge 5 = .ok (.getfield 29, 3) := by decide +kernel
theorem dX7_judge_8 : decode cX7_judge 8 = .ok (.invokevirtual 285, 3) := by decide +kernel
theorem dX7_judge_11 : decode cX7_judge 11 = .ok (.ireturn, 1) := by decide +kernel
theorem dX7_seed_0 : decode cX7_seed 0 = .ok (.iload_n 1, 1) := by decide +kernel
theorem dX7_seed_1 : decode cX7_seed 1 = .ok (.ifCond .ge 6, 3) := by decide +kernel
theorem dX7_seed_4 : decode cX7_seed 4 = .ok (.ldc 61, 2) := by decide +kernel
theorem dX7_seed_6 : decode cX7_seed 6 = .ok (.ireturn, 1) := by decide +kernel
theorem dX7_seed_7 : decode cX7_seed 7 = .ok (.aload_n 0, 1) := by decide +kernel
theorem dX7_seed_8 : decode cX7_seed 8 = .ok (.getfield 222, 3) := by decide +kernel
theorem dX7_seed_11 : decode cX7_seed 11 = .ok (.istore_n 2, 1) := by decide +kernel
theorem dX7_seed_12 : decode cX7_seed 12 = .ok (.aload_n 0, 1) := by decide +kernel
theorem dX7_seed_13 : decode cX7_seed 13 = .ok (.iload_n 1, 1) := by decide +kernel
theorem dX7_seed_14 : decode cX7_seed 14 = .ok (.putfield 222, 3) := by decide +kernel
theorem dX7_seed_17 : decode cX7_seed 17 = .ok (.iload_n 2, 1) := by decide +kernel
theorem dX7_seed_18 : decode cX7_seed 18 = .ok (.ireturn, 1) := by decide +kernel
set_option maxRecDepth 20000 in
theorem ggX7_keep_X2_hasPlace : GoodIn wsX7_keep wsX2_hasPlace := goodIn_r _ [10] (by decide +kernel) (by decide +kernel)
set_option maxRecDepth 20000 in
theorem gX7_keep_X2_hasPlace : GoodIn wsX7_keep (wsV RX7 289 RX2 yX2_hasPlace wsX2_hasPlace) := goodIn_app (goodIn_of _ (by decide +kernel)) ggX7_keep_X2_hasPlace
set_option maxRecDepth 20000 in
theorem ggX7_keep_X2_put : GoodIn wsX7_keep wsX2_put := goodIn_r _ [14, 15, 16, 17, 18, 7, 8, 9, 10, 19, 20, 21, 22, 23, 24, 25, 26, 27, 28, 29, 30, 31, 32, 48, 49, 50, 51] (by decide +kernel) (by decide +kernel)
set_option maxRecDepth 20000 in
theorem gX7_keep_X2_put : GoodIn wsX7_keep (wsV RX7 292 RX2 yX2_put wsX2_put) := goodIn_app (goodIn_of _ (by decide +kernel)) ggX7_keep_X2_put
set_option maxRecDepth 20000 in
theorem ggX7_keep_X4_forget : GoodIn wsX7_keep wsX4_forget := goodIn_r _ [37, 38, 52, 53, 54] (by decide +kernel) (by decide +kernel)
set_option maxRecDepth 20000 in
theorem gX7_keep_X4_forget : GoodIn wsX7_keep (wsV RX7 84 RX4 yX4_forget wsX4_forget) := goodIn_app (goodIn_of _ (by decide +kernel)) ggX7_keep_X4_forget
theorem dX7_keep_0 : decode cX7_keep 0 = .ok (.aload_n 0, 1) := by decide +kernel
theorem dX7_keep_1 : decode cX7_keep 1 = .ok (.getfield 43, 3) := by decide +kernel
theorem dX7_keep_4 : decode cX7_keep 4 = .ok (.iload_n 1, 1) := by decide +kernel
theorem dX7_keep_5 : decode cX7_keep 5 = .ok (.invokevirtual 289, 3) := by decide +kernel
theorem dX7_keep_8 : decode cX7_keep 8 = .ok (.ifCond .ne 6, 3) := by decide +kernel
theorem dX7_keep_11 : decode cX7_keep 11 = .ok (.ldc 139, 2) := by decide +kernel
theorem dX7_keep_13 : decode cX7_keep 13 = .ok (.ireturn, 1) := by decide +kernel
theorem dX7_keep_14 : decode cX7_keep 14 = .ok (.aload_n 0, 1) := by decide +kernel
theorem dX7_keep_15 : decode cX7_keep 15 = .ok (.getfield 43, 3) := by decide +kernel
theorem dX7_keep_18 : decode cX7_keep 18 = .ok (.iload_n 1, 1) := by decide +kernel
theorem dX7_keep_19 : decode cX7_keep 19 = .ok (.aload_n 0, 1) := by decide +kernel
theorem dX7_keep_20 : decode cX7_keep 20 = .ok (.getfield 29, 3) := by decide +kernel
theorem dX7_keep_23 : decode cX7_keep 23 = .ok (.aload_n 0, 1) := by decide +kernel
theorem dX7_keep_24 : decode cX7_keep 24 = .ok (.getfield 222, 3) := by decide +kernel
theorem dX7_keep_27 : decode cX7_keep 27 = .ok (.invokevirtual 292, 3) := by decide +kernel
theorem dX7_keep_30 : decode cX7_keep 30 = .ok (.aload_n 0, 1) := by decide +kernel
theorem dX7_keep_31 : decode cX7_keep 31 = .ok (.getfield 36, 3) := by decide +kernel
theorem dX7_keep_34 : decode cX7_keep 34 = .ok (.invokevirtual 84, 3) := by decide +kernel
theorem dX7_keep_37 : decode cX7_keep 37 = .ok (.iconst 1, 1) := by decide +kernel
theorem dX7_keep_38 : decode cX7_keep 38 = .ok (.ireturn, 1) := by decide +kernel
set_option maxRecDepth 20000 in
theorem ggX7_goBack_X2_hasPlace : GoodIn wsX7_goBack wsX2_hasPlace := goodIn_r _ [14] (by decide +kernel) (by decide +kernel)
set_option maxRecDepth 20000 in
theorem gX7_goBack_X2_hasPlace : GoodIn wsX7_goBack (wsV RX7 289 RX2 yX2_hasPlace wsX2_hasPlace) := goodIn_app (goodIn_of _ (by decide +kernel)) ggX7_goBack_X2_hasPlace
set_option maxRecDepth 20000 in
theorem ggX7_goBack_X3_copyFrom : GoodIn wsX7_goBack wsX3_copyFrom := goodIn_r _ [19, 20, 21, 22, 23, 24, 25, 26, 27, 28, 47] (by decide +kernel) (by decide +kernel)
set_option maxRecDepth 20000 in
theorem gX7_goBack_X3_copyFrom : GoodIn wsX7_goBack (wsV RX7 304 RX3 yX3_copyFrom wsX3_copyFrom) := goodIn_app (goodIn_of _ (by decide +kernel)) ggX7_goBack_X3_copyFrom
set_option maxRecDepth 20000 in
theorem ggX7_goBack_X4_forget : GoodIn wsX7_goBack wsX4_forget := goodIn_r _ [33, 34, 48, 49, 50] (by decide +kernel) (by decide +kernel)
set_option maxRecDepth 20000 in
theorem gX7_goBack_X4_forget : GoodIn wsX7_goBack (wsV RX7 84 RX4 yX4_forget wsX4_forget) := goodIn_app (goodIn_of _ (by decide +kernel)) ggX7_goBack_X4_forget
theorem dX7_goBack_0 : decode cX7_goBack 0 = .ok (.aload_n 0, 1) := by decide +kernel
theorem dX7_goBack_1 : decode cX7_goBack 1 = .ok (.getfield 43, 3) := by decide +kernel
theorem dX7_goBack_4 : decode cX7_goBack 4 = .ok (.iload_n 1, 1) := by decide +kernel
theorem dX7_goBack_5 : decode cX7_goBack 5 = .ok (.invokevirtual 289, 3) := by decide +kernel
theorem dX7_goBack_8 : decode cX7_goBack 8 = .ok (.ifCond .ne 6, 3) := by decide +kernel
theorem dX7_goBack_11 : decode cX7_goBack 11 = .ok (.ldc 139, 2) := by decide +kernel
theorem dX7_goBack_13 : decode cX7_goBack 13 = .ok (.ireturn, 1) := by decide +kernel
theorem dX7_goBack_14 : decode cX7_goBack 14 = .ok (.aload_n 0, 1) := by decide +kernel
theorem dX7_goBack_15 : decode cX7_goBack 15 = .ok (.getfield 43, 3) := by decide +kernel
theorem dX7_goBack_18 : decode cX7_goBack 18 = .ok (.getfield 296, 3) := by decide +kernel
theorem dX7_goBack_21 : decode cX7_goBack 21 = .ok (.iload_n 1, 1) := by decide +kernel
theorem dX7_goBack_22 : decode cX7_goBack 22 = .ok (.baload, 1) := by decide +kernel
theorem dX7_goBack_23 : decode cX7_goBack 23 = .ok (.ifCond .ne 6, 3) := by decide +kernel
theorem dX7_goBack_26 : decode cX7_goBack 26 = .ok (.ldc 188, 2) := by decide +kernel
theorem dX7_goBack_28 : decode cX7_goBack 28 = .ok (.ireturn, 1) := by decide +kernel
theorem dX7_goBack_29 : decode cX7_goBack 29 = .ok (.aload_n 0, 1) := by decide +kernel
theorem dX7_goBack_30 : decode cX7_goBack 30 = .ok (.getfield 29, 3) := by decide +kernel
theorem dX7_goBack_33 : decode cX7_goBack 33 = .ok (.aload_n 0, 1) := by decide +kernel
theorem dX7_goBack_34 : decode cX7_goBack 34 = .ok (.getfield 43, 3) := by decide +kernel
theorem dX7_goBack_37 : decode cX7_goBack 37 = .ok (.getfield 300, 3) := by decide +kernel
theorem dX7_goBack_40 : decode cX7_goBack 40 = .ok (.iload_n 1, 1) := by decide +kernel
theorem dX7_goBack_41 : decode cX7_goBack 41 = .ok (.aaload, 1) := by decide +kernel
theorem dX7_goBack_42 : decode cX7_goBack 42 = .ok (.invokevirtual 304, 3) := by decide +kernel
theorem dX7_goBack_45 : decode cX7_goBack 45 = .ok (.aload_n 0, 1) := by decide +kernel
theorem dX7_goBack_46 : decode cX7_goBack 46 = .ok (.aload_n 0, 1) := by decide +kernel
theorem dX7_goBack_47 : decode cX7_goBack 47 = .ok (.getfield 43, 3) := by decide +kernel
theorem dX7_goBack_50 : decode cX7_goBack 50 = .ok (.getfield 308, 3) := by decide +kernel
theorem dX7_goBack_53 : decode cX7_goBack 53 = .ok (.iload_n 1, 1) := by decide +kernel
theorem dX7_goBack_54 : decode cX7_goBack 54 = .ok (.iaload, 1) := by decide +kernel
theorem dX7_goBack_55 : decode cX7_goBack 55 = .ok (.putfield 222, 3) := by decide +kernel
theorem dX7_goBack_58 : decode cX7_goBack 58 = .ok (.aload_n 0, 1) := by decide +kernel
theorem dX7_goBack_59 : decode cX7_goBack 59 = .ok (.getfield 36, 3) := by decide +kernel
theorem dX7_goBack_62 : decode cX7_goBack 62 = .ok (.invokevirtual 84, 3) := by decide +kernel
theorem dX7_goBack_65 : decode cX7_goBack 65 = .ok (.iconst 1, 1) := by decide +kernel
theorem dX7_goBack_66 : decode cX7_goBack 66 = .ok (.ireturn, 1) := by decide +kernel
