theorem dX0_init_0 : decode cX0_init 0 = .ok (.aload_n 0, 1) := by decide +kernel
theorem dX0_init_1 : decode cX0_init 1 = .ok (.invokespecial 3, 3) := by decide +kernel
theorem dX0_init_4 : decode cX0_init 4 = .ok (.aload_n 0, 1) := by decide +kernel
theorem dX0_init_5 : decode cX0_init 5 = .ok (.bipush 15, 2) := by decide +kernel
theorem dX0_init_7 : decode cX0_init 7 = .ok (.newarray .int, 2) := by decide +kernel
theorem dX0_init_9 : decode cX0_init 9 = .ok (.putfield 11, 3) := by decide +kernel
theorem dX0_init_12 : decode cX0_init 12 = .ok (.aload_n 0, 1) := by decide +kernel
theorem dX0_init_13 : decode cX0_init 13 = .ok (.bipush 15, 2) := by decide +kernel
theorem dX0_init_15 : decode cX0_init 15 = .ok (.newarray .int, 2) := by decide +kernel
theorem dX0_init_17 : decode cX0_init 17 = .ok (.putfield 15, 3) := by decide +kernel
theorem dX0_init_20 : decode cX0_init 20 = .ok (.return_, 1) := by decide +kernel
theorem dX0_empty_0 : decode cX0_empty 0 = .ok (.aload_n 0, 1) := by decide +kernel
theorem dX0_empty_1 : decode cX0_empty 1 = .ok (.iconst 0, 1) := by decide +kernel
theorem dX0_empty_2 : decode cX0_empty 2 = .ok (.putfield 18, 3) := by decide +kernel
theorem dX0_empty_5 : decode cX0_empty 5 = .ok (.return_, 1) := by decide +kernel
theorem dX0_add_0 : decode cX0_add 0 = .ok (.aload_n 0, 1) := by decide +kernel
theorem dX0_add_1 : decode cX0_add 1 = .ok (.getfield 18, 3) := by decide +kernel
theorem dX0_add_4 : decode cX0_add 4 = .ok (.bipush 15, 2) := by decide +kernel
theorem dX0_add_6 : decode cX0_add 6 = .ok (.if_icmp .ge 33, 3) := by decide +kernel
theorem dX0_add_9 : decode cX0_add 9 = .ok (.aload_n 0, 1) := by decide +kernel
theorem dX0_add_10 : decode cX0_add 10 = .ok (.getfield 11, 3) := by decide +kernel
theorem dX0_add_13 : decode cX0_add 13 = .ok (.aload_n 0, 1) := by decide +kernel
theorem dX0_add_14 : decode cX0_add 14 = .ok (.getfield 18, 3) := by decide +kernel
theorem dX0_add_17 : decode cX0_add 17 = .ok (.iload_n 1, 1) := by decide +kernel
theorem dX0_add_18 : decode cX0_add 18 = .ok (.iastore, 1) := by decide +kernel
theorem dX0_add_19 : decode cX0_add 19 = .ok (.aload_n 0, 1) := by decide +kernel
theorem dX0_add_20 : decode cX0_add 20 = .ok (.getfield 15, 3) := by decide +kernel
theorem dX0_add_23 : decode cX0_add 23 = .ok (.aload_n 0, 1) := by decide +kernel
theorem dX0_add_24 : decode cX0_add 24 = .ok (.getfield 18, 3) := by decide +kernel
theorem dX0_add_27 : decode cX0_add 27 = .ok (.iload_n 2, 1) := by decide +kernel
theorem dX0_add_28 : decode cX0_add 28 = .ok (.iastore, 1) := by decide +kernel
theorem dX0_add_29 : decode cX0_add 29 = .ok (.aload_n 0, 1) := by decide +kernel
theorem dX0_add_30 : decode cX0_add 30 = .ok (.dup, 1) := by decide +kernel
theorem dX0_add_31 : decode cX0_add 31 = .ok (.getfield 18, 3) := by decide +kernel
theorem dX0_add_34 : decode cX0_add 34 = .ok (.iconst 1, 1) := by decide +kernel
theorem dX0_add_35 : decode cX0_add 35 = .ok (.iadd, 1) := by decide +kernel
theorem dX0_add_36 : decode cX0_add 36 = .ok (.putfield 18, 3) := by decide +kernel
theorem dX0_add_39 : decode cX0_add 39 = .ok (.return_, 1) := by decide +kernel
set_option maxRecDepth 20000 in
theorem ggX0_firstWrong_X3_age : GoodIn wsX0_firstWrong wsX3_age := goodIn_r _ [8, 9, 10, 11, 7, 12, 16] (by decide +kernel) (by decide +kernel)
set_option maxRecDepth 20000 in
theorem gX0_firstWrong_X3_age : GoodIn wsX0_firstWrong (wsV RX0 22 RX3 yX3_age wsX3_age) := goodIn_app (goodIn_of _ (by decide +kernel)) ggX0_firstWrong_X3_age
theorem dX0_firstWrong_0 : decode cX0_firstWrong 0 = .ok (.iconst 0, 1) := by decide +kernel
theorem dX0_firstWrong_1 : decode cX0_firstWrong 1 = .ok (.istore_n 2, 1) := by decide +kernel
theorem dX0_firstWrong_2 : decode cX0_firstWrong 2 = .ok (.iload_n 2, 1) := by decide +kernel
theorem dX0_firstWrong_3 : decode cX0_firstWrong 3 = .ok (.aload_n 0, 1) := by decide +kernel
theorem dX0_firstWrong_4 : decode cX0_firstWrong 4 = .ok (.getfield 18, 3) := by decide +kernel
theorem dX0_firstWrong_7 : decode cX0_firstWrong 7 = .ok (.if_icmp .ge 36, 3) := by decide +kernel
theorem dX0_firstWrong_10 : decode cX0_firstWrong 10 = .ok (.iload_n 2, 1) := by decide +kernel
theorem dX0_firstWrong_11 : decode cX0_firstWrong 11 = .ok (.bipush 15, 2) := by decide +kernel
theorem dX0_firstWrong_13 : decode cX0_firstWrong 13 = .ok (.if_icmp .ge 30, 3) := by decide +kernel
theorem dX0_firstWrong_16 : decode cX0_firstWrong 16 = .ok (.aload_n 1, 1) := by decide +kernel
theorem dX0_firstWrong_17 : decode cX0_firstWrong 17 = .ok (.aload_n 0, 1) := by decide +kernel
theorem dX0_firstWrong_18 : decode cX0_firstWrong 18 = .ok (.getfield 11, 3) := by decide +kernel
theorem dX0_firstWrong_21 : decode cX0_firstWrong 21 = .ok (.iload_n 2, 1) := by decide +kernel
theorem dX0_firstWrong_22 : decode cX0_firstWrong 22 = .ok (.iaload, 1) := by decide +kernel
theorem dX0_firstWrong_23 : decode cX0_firstWrong 23 = .ok (.invokevirtual 22, 3) := by decide +kernel
theorem dX0_firstWrong_26 : decode cX0_firstWrong 26 = .ok (.aload_n 0, 1) := by decide +kernel
theorem dX0_firstWrong_27 : decode cX0_firstWrong 27 = .ok (.getfield 15, 3) := by decide +kernel
theorem dX0_firstWrong_30 : decode cX0_firstWrong 30 = .ok (.iload_n 2, 1) := by decide +kernel
theorem dX0_firstWrong_31 : decode cX0_firstWrong 31 = .ok (.iaload, 1) := by decide +kernel
theorem dX0_firstWrong_32 : decode cX0_firstWrong 32 = .ok (.if_icmp .eq 5, 3) := by decide +kernel
theorem dX0_firstWrong_35 : decode cX0_firstWrong 35 = .ok (.iload_n 2, 1) := by decide +kernel
theorem dX0_firstWrong_36 : decode cX0_firstWrong 36 = .ok (.ireturn, 1) := by decide +kernel
theorem dX0_firstWrong_37 : decode cX0_firstWrong 37 = .ok (.iinc 2 1, 3) := by decide +kernel
theorem dX0_firstWrong_40 : decode cX0_firstWrong 40 = .ok (.goto (-38), 3) := by decide +kernel
theorem dX0_firstWrong_43 : decode cX0_firstWrong 43 = .ok (.iconst (-1), 1) := by decide +kernel
theorem dX0_firstWrong_44 : decode cX0_firstWrong 44 = .ok (.ireturn, 1) := by decide +kernel
theorem dX1_init_0 : decode cX1_init 0 = .ok (.aload_n 0, 1) := by decide +kernel
theorem dX1_init_1 : decode cX1_init 1 = .ok (.invokespecial 5, 3) := by decide +kernel
theorem dX1_init_4 : decode cX1_init 4 = .ok (.aload_n 0, 1) := by decide +kernel
theorem dX1_init_5 : decode cX1_init 5 = .ok (.bipush 6, 2) := by decide +kernel
theorem dX1_init_7 : decode cX1_init 7 = .ok (.newarray .int, 2) := by decide +kernel
theorem dX1_init_9 : decode cX1_init 9 = .ok (.putfield 11, 3) := by decide +kernel
theorem dX1_init_12 : decode cX1_init 12 = .ok (.aload_n 0, 1) := by decide +kernel
theorem dX1_init_13 : decode cX1_init 13 = .ok (.bipush 6, 2) := by decide +kernel
theorem dX1_init_15 : decode cX1_init 15 = .ok (.newarray .int, 2) := by decide +kernel
theorem dX1_init_17 : decode cX1_init 17 = .ok (.putfield 15, 3) := by decide +kernel
theorem dX1_init_20 : decode cX1_init 20 = .ok (.aload_n 0, 1) := by decide +kernel
theorem dX1_init_21 : decode cX1_init 21 = .ok (.bipush 6, 2) := by decide +kernel
theorem dX1_init_23 : decode cX1_init 23 = .ok (.newarray .int, 2) := by decide +kernel
theorem dX1_init_25 : decode cX1_init 25 = .ok (.putfield 18, 3) := by decide +kernel
theorem dX1_init_28 : decode cX1_init 28 = .ok (.aload_n 0, 1) := by decide +kernel
theorem dX1_init_29 : decode cX1_init 29 = .ok (.bipush 6, 2) := by decide +kernel
theorem dX1_init_31 : decode cX1_init 31 = .ok (.bipush 124, 2) := by decide +kernel
theorem dX1_init_33 : decode cX1_init 33 = .ok (.multianewarray 21 2, 4) := by decide +kernel
theorem dX1_init_37 : decode cX1_init 37 = .ok (.putfield 23, 3) := by decide +kernel
theorem dX1_init_40 : decode cX1_init 40 = .ok (.aload_n 0, 1) := by decide +kernel
theorem dX1_init_41 : decode cX1_init 41 = .ok (.bipush 124, 2) := by decide +kernel
theorem dX1_init_43 : decode cX1_init 43 = .ok (.newarray .int, 2) := by decide +kernel
theorem dX1_init_45 : decode cX1_init 45 = .ok (.putfield 26, 3) := by decide +kernel
theorem dX1_init_48 : decode cX1_init 48 = .ok (.return_, 1) := by decide +kernel
set_option maxRecDepth 20000 in
theorem ggX1_beginAnew_X1_empty : GoodIn wsX1_beginAnew wsX1_empty := goodIn_r _ [6, 7, 8, 9, 10, 11, 12, 13, 14, 15, 16, 17] (by decide +kernel) (by decide +kernel)
set_option maxRecDepth 20000 in
theorem gX1_beginAnew_X1_empty : GoodIn wsX1_beginAnew (wsV RX1 33 RX1 yX1_empty wsX1_empty) := goodIn_app (goodIn_of _ (by decide +kernel)) ggX1_beginAnew_X1_empty
theorem dX1_beginAnew_0 : decode cX1_beginAnew 0 = .ok (.aload_n 0, 1) := by decide +kernel
theorem dX1_beginAnew_1 : decode cX1_beginAnew 1 = .ok (.iconst 0, 1) := by decide +kernel
theorem dX1_beginAnew_2 : decode cX1_beginAnew 2 = .ok (.putfield 29, 3) := by decide +kernel
theorem dX1_beginAnew_5 : decode cX1_beginAnew 5 = .ok (.aload_n 0, 1) := by decide +kernel
theorem dX1_beginAnew_6 : decode cX1_beginAnew 6 = .ok (.invokevirtual 33, 3) := by decide +kernel
theorem dX1_beginAnew_9 : decode cX1_beginAnew 9 = .ok (.return_, 1) := by decide +kernel
theorem dX1_empty_0 : decode cX1_empty 0 = .ok (.aload_n 0, 1) := by decide +kernel
theorem dX1_empty_1 : decode cX1_empty 1 = .ok (.iconst 0, 1) := by decide +kernel
theorem dX1_empty_2 : decode cX1_empty 2 = .ok (.putfield 36, 3) := by decide +kernel
theorem dX1_empty_5 : decode cX1_empty 5 = .ok (.aload_n 0, 1) := by decide +kernel
theorem dX1_empty_6 : decode cX1_empty 6 = .ok (.iconst 0, 1) := by decide +kernel
theorem dX1_empty_7 : decode cX1_empty 7 = .ok (.putfield 40, 3) := by decide +kernel
theorem dX1_empty_10 : decode cX1_empty 10 = .ok (.return_, 1) := by decide +kernel
theorem dX1_add_0 : decode cX1_add 0 = .ok (.aload_n 0, 1) := by decide +kernel
theorem dX1_add_1 : decode cX1_add 1 = .ok (.getfield 36, 3) := by decide +kernel
theorem dX1_add_4 : decode cX1_add 4 = .ok (.bipush 6, 2) := by decide +kernel
theorem dX1_add_6 : decode cX1_add 6 = .ok (.if_icmp .ge 48, 3) := by decide +kernel
theorem dX1_add_9 : decode cX1_add 9 = .ok (.aload_n 0, 1) := by decide +kernel
theorem dX1_add_10 : decode cX1_add 10 = .ok (.getfield 11, 3) := by decide +kernel
theorem dX1_add_13 : decode cX1_add 13 = .ok (.aload_n 0, 1) := by decide +kernel
theorem dX1_add_14 : decode cX1_add 14 = .ok (.getfield 36, 3) := by decide +kernel
theorem dX1_add_17 : decode cX1_add 17 = .ok (.iload_n 1, 1) := by decide +kernel
theorem dX1_add_18 : decode cX1_add 18 = .ok (.iastore, 1) := by decide +kernel
theorem dX1_add_19 : decode cX1_add 19 = .ok (.aload_n 0, 1) := by decide +kernel
theorem dX1_add_20 : decode cX1_add 20 = .ok (.getfield 15, 3) := by decide +kernel
theorem dX1_add_23 : decode cX1_add 23 = .ok (.aload_n 0, 1) := by decide +kernel
theorem dX1_add_24 : decode cX1_add 24 = .ok (.getfield 36, 3) := by decide +kernel
theorem dX1_add_27 : decode cX1_add 27 = .ok (.iload_n 2, 1) := by decide +kernel
theorem dX1_add_28 : decode cX1_add 28 = .ok (.iastore, 1) := by decide +kernel
theorem dX1_add_29 : decode cX1_add 29 = .ok (.aload_n 0, 1) := by decide +kernel
theorem dX1_add_30 : decode cX1_add 30 = .ok (.getfield 18, 3) := by decide +kernel
theorem dX1_add_33 : decode cX1_add 33 = .ok (.aload_n 0, 1) := by decide +kernel
theorem dX1_add_34 : decode cX1_add 34 = .ok (.getfield 36, 3) := by decide +kernel
theorem dX1_add_37 : decode cX1_add 37 = .ok (.iload_n 3, 1) := by decide +kernel
theorem dX1_add_38 : decode cX1_add 38 = .ok (.iastore, 1) := by decide +kernel
theorem dX1_add_39 : decode cX1_add 39 = .ok (.aload_n 0, 1) := by decide +kernel
theorem dX1_add_40 : decode cX1_add 40 = .ok (.dup, 1) := by decide +kernel
theorem dX1_add_41 : decode cX1_add 41 = .ok (.getfield 36, 3) := by decide +kernel
theorem dX1_add_44 : decode cX1_add 44 = .ok (.iconst 1, 1) := by decide +kernel
theorem dX1_add_45 : decode cX1_add 45 = .ok (.iadd, 1) := by decide +kernel
theorem dX1_add_46 : decode cX1_add 46 = .ok (.putfield 36, 3) := by decide +kernel
theorem dX1_add_49 : decode cX1_add 49 = .ok (.aload_n 0, 1) := by decide +kernel
theorem dX1_add_50 : decode cX1_add 50 = .ok (.iconst 0, 1) := by decide +kernel
theorem dX1_add_51 : decode cX1_add 51 = .ok (.putfield 40, 3) := by decide +kernel
theorem dX1_add_54 : decode cX1_add 54 = .ok (.return_, 1) := by decide +kernel
set_option maxRecDepth 20000 in
theorem ggX1_seek_X1_countWorths : GoodIn wsX1_seek wsX1_countWorths := goodIn_r _ [9, 10, 11, 3, 12, 13, 14, 15, 16, 17, 18, 19, 20, 21, 22, 23, 24, 25, 26, 27, 28, 29, 30, 48, 49, 50, 51, 52, 53, 54, 55, 56, 57, 58, 59, 60, 61, 62, 63, 64, 65, 66, 67] (by decide +kernel) (by decide +kernel)
set_option maxRecDepth 20000 in
theorem gX1_seek_X1_countWorths : GoodIn wsX1_seek (wsV RX1 43 RX1 yX1_countWorths wsX1_countWorths) := goodIn_app (goodIn_of _ (by decide +kernel)) ggX1_seek_X1_countWorths
set_option maxRecDepth 20000 in
theorem ggX1_seek_X1_fitsAll : GoodIn wsX1_seek wsX1_fitsAll := goodIn_r _ [34, 35, 36, 37, 14, 38, 39, 40, 41, 8, 42, 13, 43, 44, 45, 18, 46, 47, 48, 49, 50, 51, 52, 53, 54, 55, 56, 57, 58, 59, 60, 61, 62, 63, 64, 65, 66, 67] (by decide +kernel) (by decide +kernel)
set_option maxRecDepth 20000 in
theorem gX1_seek_X1_fitsAll : GoodIn wsX1_seek (wsV RX1 55 RX1 yX1_fitsAll wsX1_fitsAll) := goodIn_app (goodIn_of _ (by decide +kernel)) ggX1_seek_X1_fitsAll
theorem dX1_seek_0 : decode cX1_seek 0 = .ok (.aload_n 0, 1) := by decide +kernel
theorem dX1_seek_1 : decode cX1_seek 1 = .ok (.getfield 40, 3) := by decide +kernel
theorem dX1_seek_4 : decode cX1_seek 4 = .ok (.ifCond .eq 4, 3) := by decide +kernel
theorem dX1_seek_7 : decode cX1_seek 7 = .ok (.return_, 1) := by decide +kernel
theorem dX1_seek_8 : decode cX1_seek 8 = .ok (.aload_n 0, 1) := by decide +kernel
theorem dX1_seek_9 : decode cX1_seek 9 = .ok (.aload_n 1, 1) := by decide +kernel
theorem dX1_seek_10 : decode cX1_seek 10 = .ok (.invokevirtual 43, 3) := by decide +kernel
theorem dX1_seek_13 : decode cX1_seek 13 = .ok (.aload_n 0, 1) := by decide +kernel
theorem dX1_seek_14 : decode cX1_seek 14 = .ok (.iconst 0, 1) := by decide +kernel
theorem dX1_seek_15 : decode cX1_seek 15 = .ok (.putfield 47, 3) := by decide +kernel
theorem dX1_seek_18 : decode cX1_seek 18 = .ok (.iconst 0, 1) := by decide +kernel
theorem dX1_seek_19 : decode cX1_seek 19 = .ok (.istore_n 2, 1) := by decide +kernel
theorem dX1_seek_20 : decode cX1_seek 20 = .ok (.iload_n 2, 1) := by decide +kernel
theorem dX1_seek_21 : decode cX1_seek 21 = .ok (.aload_n 1, 1) := by decide +kernel
theorem dX1_seek_22 : decode cX1_seek 22 = .ok (.getfield 50, 3) := by decide +kernel
theorem dX1_seek_25 : decode cX1_seek 25 = .ok (.if_icmp .ge 58, 3) := by decide +kernel
theorem dX1_seek_28 : decode cX1_seek 28 = .ok (.iconst 0, 1) := by decide +kernel
theorem dX1_seek_29 : decode cX1_seek 29 = .ok (.istore_n 3, 1) := by decide +kernel
theorem dX1_seek_30 : decode cX1_seek 30 = .ok (.iload_n 3, 1) := by decide +kernel
theorem dX1_seek_31 : decode cX1_seek 31 = .ok (.bipush 30, 2) := by decide +kernel
theorem dX1_seek_33 : decode cX1_seek 33 = .ok (.if_icmp .gt 44, 3) := by decide +kernel
theorem dX1_seek_36 : decode cX1_seek 36 = .ok (.aload_n 0, 1) := by decide +kernel
theorem dX1_seek_37 : decode cX1_seek 37 = .ok (.aload_n 1, 1) := by decide +kernel
theorem dX1_seek_38 : decode cX1_seek 38 = .ok (.iload_n 2, 1) := by decide +kernel
theorem dX1_seek_39 : decode cX1_seek 39 = .ok (.iload_n 3, 1) := by decide +kernel
theorem dX1_seek_40 : decode cX1_seek 40 = .ok (.invokevirtual 55, 3) := by decide +kernel
theorem dX1_seek_43 : decode cX1_seek 43 = .ok (.ifCond .eq 28, 3) := by decide +kernel
theorem dX1_seek_46 : decode cX1_seek 46 = .ok (.aload_n 0, 1) := by decide +kernel
theorem dX1_seek_47 : decode cX1_seek 47 = .ok (.getfield 26, 3) := by decide +kernel
theorem dX1_seek_50 : decode cX1_seek 50 = .ok (.aload_n 0, 1) := by decide +kernel
theorem dX1_seek_51 : decode cX1_seek 51 = .ok (.getfield 47, 3) := by decide +kernel
theorem dX1_seek_54 : decode cX1_seek 54 = .ok (.bipush 100, 2) := by decide +kernel
theorem dX1_seek_56 : decode cX1_seek 56 = .ok (.iload_n 2, 1) := by decide +kernel
theorem dX1_seek_57 : decode cX1_seek 57 = .ok (.imul, 1) := by decide +kernel
theorem dX1_seek_58 : decode cX1_seek 58 = .ok (.iload_n 3, 1) := by decide +kernel
theorem dX1_seek_59 : decode cX1_seek 59 = .ok (.iadd, 1) := by decide +kernel
theorem dX1_seek_60 : decode cX1_seek 60 = .ok (.iastore, 1) := by decide +kernel
theorem dX1_seek_61 : decode cX1_seek 61 = .ok (.aload_n 0, 1) := by decide +kernel
theorem dX1_seek_62 : decode cX1_seek 62 = .ok (.dup, 1) := by decide +kernel
theorem dX1_seek_63 : decode cX1_seek 63 = .ok (.getfield 47, 3) := by decide +kernel
theorem dX1_seek_66 : decode cX1_seek 66 = .ok (.iconst 1, 1) := by decide +kernel
theorem dX1_seek_67 : decode cX1_seek 67 = .ok (.iadd, 1) := by decide +kernel
theorem dX1_seek_68 : decode cX1_seek 68 = .ok (.putfield 47, 3) := by decide +kernel
theorem dX1_seek_71 : decode cX1_seek 71 = .ok (.iinc 3 1, 3) := by decide +kernel
theorem dX1_seek_74 : decode cX1_seek 74 = .ok (.goto (-44), 3) := by decide +kernel
theorem dX1_seek_77 : decode cX1_seek 77 = .ok (.iinc 2 1, 3) := by decide +kernel
theorem dX1_seek_80 : decode cX1_seek 80 = .ok (.goto (-60), 3) := by decide +kernel
theorem dX1_seek_83 : decode cX1_seek 83 = .ok (.aload_n 0, 1) := by decide +kernel
theorem dX1_seek_84 : decode cX1_seek 84 = .ok (.iconst 1, 1) := by decide +kernel
theorem dX1_seek_85 : decode cX1_seek 85 = .ok (.putfield 40, 3) := by decide +kernel
theorem dX1_seek_88 : decode cX1_seek 88 = .ok (.return_, 1) := by decide +kernel
set_option maxRecDepth 20000 in
theorem ggX1_greatestPart_X1_alikeFrom : GoodIn wsX1_greatestPart wsX1_alikeFrom := goodIn_r _ [10, 11, 1, 12, 13, 14, 9, 15, 16, 17, 18, 19, 20, 21, 22, 23, 24, 25] (by decide +kernel) (by decide +kernel)
set_option maxRecDepth 20000 in
theorem gX1_greatestPart_X1_alikeFrom : GoodIn wsX1_greatestPart (wsV RX1 59 RX1 yX1_alikeFrom wsX1_alikeFrom) := goodIn_app (goodIn_of _ (by decide +kernel)) ggX1_greatestPart_X1_alikeFrom
theorem dX1_greatestPart_0 : decode cX1_greatestPart 0 = .ok (.iconst 0, 1) := by decide +kernel
theorem dX1_greatestPart_1 : decode cX1_greatestPart 1 = .ok (.istore_n 2, 1) := by decide +kernel
theorem dX1_greatestPart_2 : decode cX1_greatestPart 2 = .ok (.iconst 0, 1) := by decide +kernel
theorem dX1_greatestPart_3 : decode cX1_greatestPart 3 = .ok (.istore_n 3, 1) := by decide +kernel
theorem dX1_greatestPart_4 : decode cX1_greatestPart 4 = .ok (.iload_n 3, 1) := by decide +kernel
theorem dX1_greatestPart_5 : decode cX1_greatestPart 5 = .ok (.aload_n 0, 1) := by decide +kernel
theorem dX1_greatestPart_6 : decode cX1_greatestPart 6 = .ok (.getfield 47, 3) := by decide +kernel
theorem dX1_greatestPart_9 : decode cX1_greatestPart 9 = .ok (.iload_n 2, 1) := by decide +kernel
theorem dX1_greatestPart_10 : decode cX1_greatestPart 10 = .ok (.isub, 1) := by decide +kernel
theorem dX1_greatestPart_11 : decode cX1_greatestPart 11 = .ok (.if_icmp .ge 20, 3) := by decide +kernel
theorem dX1_greatestPart_14 : decode cX1_greatestPart 14 = .ok (.iload_n 2, 1) := by decide +kernel
theorem dX1_greatestPart_15 : decode cX1_greatestPart 15 = .ok (.aload_n 0, 1) := by decide +kernel
theorem dX1_greatestPart_16 : decode cX1_greatestPart 16 = .ok (.iload_n 1, 1) := by decide +kernel
theorem dX1_greatestPart_17 : decode cX1_greatestPart 17 = .ok (.iload_n 3, 1) := by decide +kernel
theorem dX1_greatestPart_18 : decode cX1_greatestPart 18 = .ok (.invokevirtual 59, 3) := by decide +kernel
theorem dX1_greatestPart_21 : decode cX1_greatestPart 21 = .ok (.invokestatic 63, 3) := by decide +kernel
theorem dX1_greatestPart_24 : decode cX1_greatestPart 24 = .ok (.istore_n 2, 1) := by decide +kernel
theorem dX1_greatestPart_25 : decode cX1_greatestPart 25 = .ok (.iinc 3 1, 3) := by decide +kernel
theorem dX1_greatestPart_28 : decode cX1_greatestPart 28 = .ok (.goto (-24), 3) := by decide +kernel
theorem dX1_greatestPart_31 : decode cX1_greatestPart 31 = .ok (.iload_n 2, 1) := by decide +kernel
theorem dX1_greatestPart_32 : decode cX1_greatestPart 32 = .ok (.ireturn, 1) := by decide +kernel
set_option maxRecDepth 20000 in
theorem ggX1_alikeFrom_X1_worthBy : GoodIn wsX1_alikeFrom wsX1_worthBy := goodIn_r _ [7, 8, 9, 10, 11, 12, 13, 14, 15, 16, 17] (by decide +kernel) (by decide +kernel)
set_option maxRecDepth 20000 in
theorem gX1_alikeFrom_X1_worthBy : GoodIn wsX1_alikeFrom (wsV RX1 68 RX1 yX1_worthBy wsX1_worthBy) := goodIn_app (goodIn_of _ (by decide +kernel)) ggX1_alikeFrom_X1_worthBy
theorem dX1_alikeFrom_0 : decode cX1_alikeFrom 0 = .ok (.aload_n 0, 1) := by decide +kernel
theorem dX1_alikeFrom_1 : decode cX1_alikeFrom 1 = .ok (.iload_n 1, 1) := by decide +kernel
theorem dX1_alikeFrom_2 : decode cX1_alikeFrom 2 = .ok (.aload_n 0, 1) := by decide +kernel
theorem dX1_alikeFrom_3 : decode cX1_alikeFrom 3 = .ok (.getfield 26, 3) := by decide +kernel
theorem dX1_alikeFrom_6 : decode cX1_alikeFrom 6 = .ok (.iload_n 2, 1) := by decide +kernel
theorem dX1_alikeFrom_7 : decode cX1_alikeFrom 7 = .ok (.iaload, 1) := by decide +kernel
theorem dX1_alikeFrom_8 : decode cX1_alikeFrom 8 = .ok (.invokevirtual 68, 3) := by decide +kernel
theorem dX1_alikeFrom_11 : decode cX1_alikeFrom 11 = .ok (.istore_n 3, 1) := by decide +kernel
theorem dX1_alikeFrom_12 : decode cX1_alikeFrom 12 = .ok (.iconst 0, 1) := by decide +kernel
theorem dX1_alikeFrom_13 : decode cX1_alikeFrom 13 = .ok (.istore 4, 2) := by decide +kernel
theorem dX1_alikeFrom_15 : decode cX1_alikeFrom 15 = .ok (.iload_n 2, 1) := by decide +kernel
theorem dX1_alikeFrom_16 : decode cX1_alikeFrom 16 = .ok (.istore 5, 2) := by decide +kernel
theorem dX1_alikeFrom_18 : decode cX1_alikeFrom 18 = .ok (.iload 5, 2) := by decide +kernel
theorem dX1_alikeFrom_20 : decode cX1_alikeFrom 20 = .ok (.aload_n 0, 1) := by decide +kernel
theorem dX1_alikeFrom_21 : decode cX1_alikeFrom 21 = .ok (.getfield 47, 3) := by decide +kernel
theorem dX1_alikeFrom_24 : decode cX1_alikeFrom 24 = .ok (.if_icmp .ge 28, 3) := by decide +kernel
theorem dX1_alikeFrom_27 : decode cX1_alikeFrom 27 = .ok (.aload_n 0, 1) := by decide +kernel
theorem dX1_alikeFrom_28 : decode cX1_alikeFrom 28 = .ok (.iload_n 1, 1) := by decide +kernel
theorem dX1_alikeFrom_29 : decode cX1_alikeFrom 29 = .ok (.aload_n 0, 1) := by decide +kernel
theorem dX1_alikeFrom_30 : decode cX1_alikeFrom 30 = .ok (.getfield 26, 3) := by decide +kernel
theorem dX1_alikeFrom_33 : decode cX1_alikeFrom 33 = .ok (.iload 5, 2) := by decide +kernel
theorem dX1_alikeFrom_35 : decode cX1_alikeFrom 35 = .ok (.iaload, 1) := by decide +kernel
theorem dX1_alikeFrom_36 : decode cX1_alikeFrom 36 = .ok (.invokevirtual 68, 3) := by decide +kernel
theorem dX1_alikeFrom_39 : decode cX1_alikeFrom 39 = .ok (.iload_n 3, 1) := by decide +kernel
theorem dX1_alikeFrom_40 : decode cX1_alikeFrom 40 = .ok (.if_icmp .ne 6, 3) := by decide +kernel
theorem dX1_alikeFrom_43 : decode cX1_alikeFrom 43 = .ok (.iinc 4 1, 3) := by decide +kernel
theorem dX1_alikeFrom_46 : decode cX1_alikeFrom 46 = .ok (.iinc 5 1, 3) := by decide +kernel
theorem dX1_alikeFrom_49 : decode cX1_alikeFrom 49 = .ok (.goto (-31), 3) := by decide +kernel
theorem dX1_alikeFrom_52 : decode cX1_alikeFrom 52 = .ok (.iload 4, 2) := by decide +kernel
theorem dX1_alikeFrom_54 : decode cX1_alikeFrom 54 = .ok (.ireturn, 1) := by decide +kernel
set_option maxRecDepth 20000 in
theorem ggX1_fitsAll_X1_worthBy : GoodIn wsX1_fitsAll wsX1_worthBy := goodIn_r _ [10, 11, 18, 19, 20, 21, 22, 23, 24, 25, 26] (by decide +kernel) (by decide +kernel)
set_option maxRecDepth 20000 in
theorem gX1_fitsAll_X1_worthBy : GoodIn wsX1_fitsAll (wsV RX1 68 RX1 yX1_worthBy wsX1_worthBy) := goodIn_app (goodIn_of _ (by decide +kernel)) ggX1_fitsAll_X1_worthBy
set_option maxRecDepth 20000 in
theorem ggX1_fitsAll_X5_kingAt : GoodIn wsX1_fitsAll wsX5_kingAt := goodIn_r _ [16, 17, 27, 28, 29, 30, 31, 32, 33, 34, 35, 36, 37] (by decide +kernel) (by decide +kernel)
set_option maxRecDepth 20000 in
theorem gX1_fitsAll_X5_kingAt : GoodIn wsX1_fitsAll (wsV RX1 74 RX5 yX5_kingAt wsX5_kingAt) := goodIn_app (goodIn_of _ (by decide +kernel)) ggX1_fitsAll_X5_kingAt
theorem dX1_fitsAll_0 : decode cX1_fitsAll 0 = .ok (.iconst 0, 1) := by decide +kernel
theorem dX1_fitsAll_1 : decode cX1_fitsAll 1 = .ok (.istore 4, 2) := by decide +kernel
theorem dX1_fitsAll_3 : decode cX1_fitsAll 3 = .ok (.iload 4, 2) := by decide +kernel
theorem dX1_fitsAll_5 : decode cX1_fitsAll 5 = .ok (.aload_n 0, 1) := by decide +kernel
theorem dX1_fitsAll_6 : decode cX1_fitsAll 6 = .ok (.getfield 36, 3) := by decide +kernel
theorem dX1_fitsAll_9 : decode cX1_fitsAll 9 = .ok (.if_icmp .ge 67, 3) := by decide +kernel
theorem dX1_fitsAll_12 : decode cX1_fitsAll 12 = .ok (.aload_n 0, 1) := by decide +kernel
theorem dX1_fitsAll_13 : decode cX1_fitsAll 13 = .ok (.getfield 11, 3) := by decide +kernel
theorem dX1_fitsAll_16 : decode cX1_fitsAll 16 = .ok (.iload 4, 2) := by decide +kernel
theorem dX1_fitsAll_18 : decode cX1_fitsAll 18 = .ok (.iaload, 1) := by decide +kernel
theorem dX1_fitsAll_19 : decode cX1_fitsAll 19 = .ok (.ifCond .ne 23, 3) := by decide +kernel
theorem dX1_fitsAll_22 : decode cX1_fitsAll 22 = .ok (.aload_n 0, 1) := by decide +kernel
theorem dX1_fitsAll_23 : decode cX1_fitsAll 23 = .ok (.aload_n 0, 1) := by decide +kernel
theorem dX1_fitsAll_24 : decode cX1_fitsAll 24 = .ok (.getfield 15, 3) := by decide +kernel
theorem dX1_fitsAll_27 : decode cX1_fitsAll 27 = .ok (.iload 4, 2) := by decide +kernel
theorem dX1_fitsAll_29 : decode cX1_fitsAll 29 = .ok (.iaload, 1) := by decide +kernel
theorem dX1_fitsAll_30 : decode cX1_fitsAll 30 = .ok (.bipush 100, 2) := by decide +kernel
theorem dX1_fitsAll_32 : decode cX1_fitsAll 32 = .ok (.iload_n 2, 1) := by decide +kernel
theorem dX1_fitsAll_33 : decode cX1_fitsAll 33 = .ok (.imul, 1) := by decide +kernel
theorem dX1_fitsAll_34 : decode cX1_fitsAll 34 = .ok (.iload_n 3, 1) := by decide +kernel
theorem dX1_fitsAll_35 : decode cX1_fitsAll 35 = .ok (.iadd, 1) := by decide +kernel
theorem dX1_fitsAll_36 : decode cX1_fitsAll 36 = .ok (.invokevirtual 68, 3) := by decide +kernel
theorem dX1_fitsAll_39 : decode cX1_fitsAll 39 = .ok (.goto 15, 3) := by decide +kernel
theorem dX1_fitsAll_42 : decode cX1_fitsAll 42 = .ok (.aload_n 1, 1) := by decide +kernel
theorem dX1_fitsAll_43 : decode cX1_fitsAll 43 = .ok (.iload_n 3, 1) := by decide +kernel
theorem dX1_fitsAll_44 : decode cX1_fitsAll 44 = .ok (.aload_n 1, 1) := by decide +kernel
theorem dX1_fitsAll_45 : decode cX1_fitsAll 45 = .ok (.getfield 71, 3) := by decide +kernel
theorem dX1_fitsAll_48 : decode cX1_fitsAll 48 = .ok (.iload_n 2, 1) := by decide +kernel
theorem dX1_fitsAll_49 : decode cX1_fitsAll 49 = .ok (.iaload, 1) := by decide +kernel
theorem dX1_fitsAll_50 : decode cX1_fitsAll 50 = .ok (.imul, 1) := by decide +kernel
theorem dX1_fitsAll_51 : decode cX1_fitsAll 51 = .ok (.invokevirtual 74, 3) := by decide +kernel
theorem dX1_fitsAll_54 : decode cX1_fitsAll 54 = .ok (.istore 5, 2) := by decide +kernel
theorem dX1_fitsAll_56 : decode cX1_fitsAll 56 = .ok (.iload 5, 2) := by decide +kernel
theorem dX1_fitsAll_58 : decode cX1_fitsAll 58 = .ok (.aload_n 0, 1) := by decide +kernel
theorem dX1_fitsAll_59 : decode cX1_fitsAll 59 = .ok (.getfield 18, 3) := by decide +kernel
theorem dX1_fitsAll_62 : decode cX1_fitsAll 62 = .ok (.iload 4, 2) := by decide +kernel
theorem dX1_fitsAll_64 : decode cX1_fitsAll 64 = .ok (.iaload, 1) := by decide +kernel
theorem dX1_fitsAll_65 : decode cX1_fitsAll 65 = .ok (.if_icmp .eq 5, 3) := by decide +kernel
theorem dX1_fitsAll_68 : decode cX1_fitsAll 68 = .ok (.iconst 0, 1) := by decide +kernel
theorem dX1_fitsAll_69 : decode cX1_fitsAll 69 = .ok (.ireturn, 1) := by decide +kernel
theorem dX1_fitsAll_70 : decode cX1_fitsAll 70 = .ok (.iinc 4 1, 3) := by decide +kernel
theorem dX1_fitsAll_73 : decode cX1_fitsAll 73 = .ok (.goto (-70), 3) := by decide +kernel
theorem dX1_fitsAll_76 : decode cX1_fitsAll 76 = .ok (.iconst 1, 1) := by decide +kernel
theorem dX1_fitsAll_77 : decode cX1_fitsAll 77 = .ok (.ireturn, 1) := by decide +kernel
theorem dX1_worthBy_0 : decode cX1_worthBy 0 = .ok (.iload_n 2, 1) := by decide +kernel
theorem dX1_worthBy_1 : decode cX1_worthBy 1 = .ok (.bipush 100, 2) := by decide +kernel
theorem dX1_worthBy_3 : decode cX1_worthBy 3 = .ok (.idiv, 1) := by decide +kernel
theorem dX1_worthBy_4 : decode cX1_worthBy 4 = .ok (.bipush 31, 2) := by decide +kernel
theorem dX1_worthBy_6 : decode cX1_worthBy 6 = .ok (.imul, 1) := by decide +kernel
theorem dX1_worthBy_7 : decode cX1_worthBy 7 = .ok (.iload_n 2, 1) := by decide +kernel
theorem dX1_worthBy_8 : decode cX1_worthBy 8 = .ok (.bipush 100, 2) := by decide +kernel
theorem dX1_worthBy_10 : decode cX1_worthBy 10 = .ok (.irem, 1) := by decide +kernel
theorem dX1_worthBy_11 : decode cX1_worthBy 11 = .ok (.iadd, 1) := by decide +kernel
theorem dX1_worthBy_12 : decode cX1_worthBy 12 = .ok (.istore_n 3, 1) := by decide +kernel
theorem dX1_worthBy_13 : decode cX1_worthBy 13 = .ok (.iload_n 1, 1) := by decide +kernel
theorem dX1_worthBy_14 : decode cX1_worthBy 14 = .ok (.ifCond .lt 19, 3) := by decide +kernel
theorem dX1_worthBy_17 : decode cX1_worthBy 17 = .ok (.iload_n 1, 1) := by decide +kernel
theorem dX1_worthBy_18 : decode cX1_worthBy 18 = .ok (.bipush 6, 2) := by decide +kernel
theorem dX1_worthBy_20 : decode cX1_worthBy 20 = .ok (.if_icmp .ge 13, 3) := by decide +kernel
theorem dX1_worthBy_23 : decode cX1_worthBy 23 = .ok (.iload_n 3, 1) := by decide +kernel
theorem dX1_worthBy_24 : decode cX1_worthBy 24 = .ok (.ifCond .lt 9, 3) := by decide +kernel
theorem dX1_worthBy_27 : decode cX1_worthBy 27 = .ok (.iload_n 3, 1) := by decide +kernel
theorem dX1_worthBy_28 : decode cX1_worthBy 28 = .ok (.bipush 124, 2) := by decide +kernel
theorem dX1_worthBy_30 : decode cX1_worthBy 30 = .ok (.if_icmp .lt 7, 3) := by decide +kernel
theorem dX1_worthBy_33 : decode cX1_worthBy 33 = .ok (.iconst 0, 1) := by decide +kernel
theorem dX1_worthBy_34 : decode cX1_worthBy 34 = .ok (.goto 11, 3) := by decide +kernel
theorem dX1_worthBy_37 : decode cX1_worthBy 37 = .ok (.aload_n 0, 1) := by decide +kernel
theorem dX1_worthBy_38 : decode cX1_worthBy 38 = .ok (.getfield 23, 3) := by decide +kernel
theorem dX1_worthBy_41 : decode cX1_worthBy 41 = .ok (.iload_n 1, 1) := by decide +kernel
theorem dX1_worthBy_42 : decode cX1_worthBy 42 = .ok (.aaload, 1) := by decide +kernel
theorem dX1_worthBy_43 : decode cX1_worthBy 43 = .ok (.iload_n 3, 1) := by decide +kernel
theorem dX1_worthBy_44 : decode cX1_worthBy 44 = .ok (.iaload, 1) := by decide +kernel
theorem dX1_worthBy_45 : decode cX1_worthBy 45 = .ok (.ireturn, 1) := by decide +kernel
set_option maxRecDepth 20000 in
theorem ggX1_countWorths_X5_worthBehind : GoodIn wsX1_countWorths wsX5_worthBehind := goodIn_r _ [11, 12, 13, 14, 10, 15, 16, 17, 18, 19, 20, 21, 22, 32, 33, 34, 35, 36, 37, 38, 39, 40, 41, 42] (by decide +kernel) (by decide +kernel)
set_option maxRecDepth 20000 in
theorem gX1_countWorths_X5_worthBehind : GoodIn wsX1_countWorths (wsV RX1 84 RX5 yX5_worthBehind wsX5_worthBehind) := goodIn_app (goodIn_of _ (by decide +kernel)) ggX1_countWorths_X5_worthBehind
theorem dX1_countWorths_0 : decode cX1_countWorths 0 = .ok (.aload_n 0, 1) := by decide +kernel
theorem dX1_countWorths_1 : decode cX1_countWorths 1 = .ok (.getfield 29, 3) := by decide +kernel
theorem dX1_countWorths_4 : decode cX1_countWorths 4 = .ok (.ifCond .eq 4, 3) := by decide +kernel
theorem dX1_countWorths_7 : decode cX1_countWorths 7 = .ok (.return_, 1) := by decide +kernel
theorem dX1_countWorths_8 : decode cX1_countWorths 8 = .ok (.iconst 0, 1) := by decide +kernel
theorem dX1_countWorths_9 : decode cX1_countWorths 9 = .ok (.istore_n 2, 1) := by decide +kernel
theorem dX1_countWorths_10 : decode cX1_countWorths 10 = .ok (.iload_n 2, 1) := by decide +kernel
theorem dX1_countWorths_11 : decode cX1_countWorths 11 = .ok (.aload_n 1, 1) := by decide +kernel
theorem dX1_countWorths_12 : decode cX1_countWorths 12 = .ok (.getfield 78, 3) := by decide +kernel
theorem dX1_countWorths_15 : decode cX1_countWorths 15 = .ok (.if_icmp .ge 80, 3) := by decide +kernel
theorem dX1_countWorths_18 : decode cX1_countWorths 18 = .ok (.iconst 0, 1) := by decide +kernel
theorem dX1_countWorths_19 : decode cX1_countWorths 19 = .ok (.istore_n 3, 1) := by decide +kernel
theorem dX1_countWorths_20 : decode cX1_countWorths 20 = .ok (.iload_n 3, 1) := by decide +kernel
theorem dX1_countWorths_21 : decode cX1_countWorths 21 = .ok (.aload_n 1, 1) := by decide +kernel
theorem dX1_countWorths_22 : decode cX1_countWorths 22 = .ok (.getfield 50, 3) := by decide +kernel
theorem dX1_countWorths_25 : decode cX1_countWorths 25 = .ok (.if_icmp .ge 64, 3) := by decide +kernel
theorem dX1_countWorths_28 : decode cX1_countWorths 28 = .ok (.aload_n 1, 1) := by decide +kernel
theorem dX1_countWorths_29 : decode cX1_countWorths 29 = .ok (.getfield 81, 3) := by decide +kernel
theorem dX1_countWorths_32 : decode cX1_countWorths 32 = .ok (.iload_n 2, 1) := by decide +kernel
theorem dX1_countWorths_33 : decode cX1_countWorths 33 = .ok (.iaload, 1) := by decide +kernel
theorem dX1_countWorths_34 : decode cX1_countWorths 34 = .ok (.istore 4, 2) := by decide +kernel
theorem dX1_countWorths_36 : decode cX1_countWorths 36 = .ok (.iconst 0, 1) := by decide +kernel
theorem dX1_countWorths_37 : decode cX1_countWorths 37 = .ok (.istore 5, 2) := by decide +kernel
theorem dX1_countWorths_39 : decode cX1_countWorths 39 = .ok (.iload 5, 2) := by decide +kernel
theorem dX1_countWorths_41 : decode cX1_countWorths 41 = .ok (.bipush 30, 2) := by decide +kernel
theorem dX1_countWorths_43 : decode cX1_countWorths 43 = .ok (.if_icmp .gt 40, 3) := by decide +kernel
theorem dX1_countWorths_46 : decode cX1_countWorths 46 = .ok (.aload_n 0, 1) := by decide +kernel
theorem dX1_countWorths_47 : decode cX1_countWorths 47 = .ok (.getfield 23, 3) := by decide +kernel
theorem dX1_countWorths_50 : decode cX1_countWorths 50 = .ok (.iload_n 2, 1) := by decide +kernel
theorem dX1_countWorths_51 : decode cX1_countWorths 51 = .ok (.aaload, 1) := by decide +kernel
theorem dX1_countWorths_52 : decode cX1_countWorths 52 = .ok (.iload_n 3, 1) := by decide +kernel
theorem dX1_countWorths_53 : decode cX1_countWorths 53 = .ok (.bipush 31, 2) := by decide +kernel
theorem dX1_countWorths_55 : decode cX1_countWorths 55 = .ok (.imul, 1) := by decide +kernel
theorem dX1_countWorths_56 : decode cX1_countWorths 56 = .ok (.iload 5, 2) := by decide +kernel
theorem dX1_countWorths_58 : decode cX1_countWorths 58 = .ok (.iadd, 1) := by decide +kernel
theorem dX1_countWorths_59 : decode cX1_countWorths 59 = .ok (.iload 4, 2) := by decide +kernel
theorem dX1_countWorths_61 : decode cX1_countWorths 61 = .ok (.iastore, 1) := by decide +kernel
theorem dX1_countWorths_62 : decode cX1_countWorths 62 = .ok (.aload_n 1, 1) := by decide +kernel
theorem dX1_countWorths_63 : decode cX1_countWorths 63 = .ok (.iload_n 2, 1) := by decide +kernel
theorem dX1_countWorths_64 : decode cX1_countWorths 64 = .ok (.iload 4, 2) := by decide +kernel
theorem dX1_countWorths_66 : decode cX1_countWorths 66 = .ok (.aload_n 1, 1) := by decide +kernel
theorem dX1_countWorths_67 : decode cX1_countWorths 67 = .ok (.getfield 71, 3) := by decide +kernel
theorem dX1_countWorths_70 : decode cX1_countWorths 70 = .ok (.iload_n 3, 1) := by decide +kernel
theorem dX1_countWorths_71 : decode cX1_countWorths 71 = .ok (.iaload, 1) := by decide +kernel
theorem dX1_countWorths_72 : decode cX1_countWorths 72 = .ok (.invokevirtual 84, 3) := by decide +kernel
theorem dX1_countWorths_75 : decode cX1_countWorths 75 = .ok (.istore 4, 2) := by decide +kernel
theorem dX1_countWorths_77 : decode cX1_countWorths 77 = .ok (.iinc 5 1, 3) := by decide +kernel
theorem dX1_countWorths_80 : decode cX1_countWorths 80 = .ok (.goto (-41), 3) := by decide +kernel
theorem dX1_countWorths_83 : decode cX1_countWorths 83 = .ok (.iinc 3 1, 3) := by decide +kernel
theorem dX1_countWorths_86 : decode cX1_countWorths 86 = .ok (.goto (-66), 3) := by decide +kernel
theorem dX1_countWorths_89 : decode cX1_countWorths 89 = .ok (.iinc 2 1, 3) := by decide +kernel
theorem dX1_countWorths_92 : decode cX1_countWorths 92 = .ok (.goto (-82), 3) := by decide +kernel
theorem dX1_countWorths_95 : decode cX1_countWorths 95 = .ok (.aload_n 0, 1) := by decide +kernel
theorem dX1_countWorths_96 : decode cX1_countWorths 96 = .ok (.iconst 1, 1) := by decide +kernel
theorem dX1_countWorths_97 : decode cX1_countWorths 97 = .ok (.putfield 29, 3) := by decide +kernel
theorem dX1_countWorths_100 : decode cX1_countWorths 100 = .ok (.return_, 1) := by decide +kernel
theorem dX2_init_0 : decode cX2_init 0 = .ok (.aload_n 0, 1) := by decide +kernel
theorem dX2_init_1 : decode cX2_init 1 = .ok (.invokespecial 1, 3) := by decide +kernel
theorem dX2_init_4 : decode cX2_init 4 = .ok (.aload_n 0, 1) := by decide +kernel
theorem dX2_init_5 : decode cX2_init 5 = .ok (.iconst 2, 1) := by decide +kernel
theorem dX2_init_6 : decode cX2_init 6 = .ok (.bipush 35, 2) := by decide +kernel
theorem dX2_init_8 : decode cX2_init 8 = .ok (.multianewarray 11 2, 4) := by decide +kernel
theorem dX2_init_12 : decode cX2_init 12 = .ok (.putfield 13, 3) := by decide +kernel
theorem dX2_init_15 : decode cX2_init 15 = .ok (.aload_n 0, 1) := by decide +kernel
theorem dX2_init_16 : decode cX2_init 16 = .ok (.iconst 2, 1) := by decide +kernel
theorem dX2_init_17 : decode cX2_init 17 = .ok (.newarray .int, 2) := by decide +kernel
theorem dX2_init_19 : decode cX2_init 19 = .ok (.putfield 16, 3) := by decide +kernel
theorem dX2_init_22 : decode cX2_init 22 = .ok (.aload_n 0, 1) := by decide +kernel
theorem dX2_init_23 : decode cX2_init 23 = .ok (.iconst 2, 1) := by decide +kernel
theorem dX2_init_24 : decode cX2_init 24 = .ok (.newarray .boolean, 2) := by decide +kernel
theorem dX2_init_26 : decode cX2_init 26 = .ok (.putfield 20, 3) := by decide +kernel
theorem dX2_init_29 : decode cX2_init 29 = .ok (.return_, 1) := by decide +kernel
theorem dX2_hasPlace_0 : decode cX2_hasPlace 0 = .ok (.iload_n 1, 1) := by decide +kernel
theorem dX2_hasPlace_1 : decode cX2_hasPlace 1 = .ok (.ifCond .lt 12, 3) := by decide +kernel
theorem dX2_hasPlace_4 : decode cX2_hasPlace 4 = .ok (.iload_n 1, 1) := by decide +kernel
theorem dX2_hasPlace_5 : decode cX2_hasPlace 5 = .ok (.iconst 2, 1) := by decide +kernel
theorem dX2_hasPlace_6 : decode cX2_hasPlace 6 = .ok (.if_icmp .ge 7, 3) := by decide +kernel
theorem dX2_hasPlace_9 : decode cX2_hasPlace 9 = .ok (.iconst 1, 1) := by decide +kernel
theorem dX2_hasPlace_10 : decode cX2_hasPlace 10 = .ok (.goto 4, 3) := by decide +kernel
theorem dX2_hasPlace_13 : decode cX2_hasPlace 13 = .ok (.iconst 0, 1) := by decide +kernel
theorem dX2_hasPlace_14 : decode cX2_hasPlace 14 = .ok (.ireturn, 1) := by decide +kernel
theorem dX2_forget_0 : decode cX2_forget 0 = .ok (.iconst 0, 1) := by decide +kernel
theorem dX2_forget_1 : decode cX2_forget 1 = .ok (.istore_n 1, 1) := by decide +kernel
theorem dX2_forget_2 : decode cX2_forget 2 = .ok (.iload_n 1, 1) := by decide +kernel
theorem dX2_forget_3 : decode cX2_forget 3 = .ok (.iconst 2, 1) := by decide +kernel
theorem dX2_forget_4 : decode cX2_forget 4 = .ok (.if_icmp .ge 16, 3) := by decide +kernel
theorem dX2_forget_7 : decode cX2_forget 7 = .ok (.aload_n 0, 1) := by decide +kernel
theorem dX2_forget_8 : decode cX2_forget 8 = .ok (.getfield 20, 3) := by decide +kernel
theorem dX2_forget_11 : decode cX2_forget 11 = .ok (.iload_n 1, 1) := by decide +kernel
theorem dX2_forget_12 : decode cX2_forget 12 = .ok (.iconst 0, 1) := by decide +kernel
theorem dX2_forget_13 : decode cX2_forget 13 = .ok (.bastore, 1) := by decide +kernel
theorem dX2_forget_14 : decode cX2_forget 14 = .ok (.iinc 1 1, 3) := by decide +kernel
theorem dX2_forget_17 : decode cX2_forget 17 = .ok (.goto (-15), 3) := by decide +kernel
theorem dX2_forget_20 : decode cX2_forget 20 = .ok (.return_, 1) := by decide +kernel
set_option maxRecDepth 20000 in
theorem ggX2_put_X2_hasPlace : GoodIn wsX2_put wsX2_hasPlace := goodIn_r _ [8] (by decide +kernel) (by decide +kernel)
set_option maxRecDepth 20000 in
theorem gX2_put_X2_hasPlace : GoodIn wsX2_put (wsV RX2 24 RX2 yX2_hasPlace wsX2_hasPlace) := goodIn_app (goodIn_of _ (by decide +kernel)) ggX2_put_X2_hasPlace
set_option maxRecDepth 20000 in
theorem ggX2_put_X3_copyTo : GoodIn wsX2_put wsX3_copyTo := goodIn_r _ [13, 14, 15, 16, 17, 18, 19, 20, 21, 22, 26] (by decide +kernel) (by decide +kernel)
set_option maxRecDepth 20000 in
theorem gX2_put_X3_copyTo : GoodIn wsX2_put (wsV RX2 28 RX3 yX3_copyTo wsX3_copyTo) := goodIn_app (goodIn_of _ (by decide +kernel)) ggX2_put_X3_copyTo
theorem dX2_put_0 : decode cX2_put 0 = .ok (.aload_n 0, 1) := by decide +kernel
theorem dX2_put_1 : decode cX2_put 1 = .ok (.iload_n 1, 1) := by decide +kernel
theorem dX2_put_2 : decode cX2_put 2 = .ok (.invokevirtual 24, 3) := by decide +kernel
theorem dX2_put_5 : decode cX2_put 5 = .ok (.ifCond .eq 27, 3) := by decide +kernel
theorem dX2_put_8 : decode cX2_put 8 = .ok (.aload_n 2, 1) := by decide +kernel
theorem dX2_put_9 : decode cX2_put 9 = .ok (.aload_n 0, 1) := by decide +kernel
theorem dX2_put_10 : decode cX2_put 10 = .ok (.getfield 13, 3) := by decide +kernel
theorem dX2_put_13 : decode cX2_put 13 = .ok (.iload_n 1, 1) := by decide +kernel
theorem dX2_put_14 : decode cX2_put 14 = .ok (.aaload, 1) := by decide +kernel
theorem dX2_put_15 : decode cX2_put 15 = .ok (.invokevirtual 28, 3) := by decide +kernel
theorem dX2_put_18 : decode cX2_put 18 = .ok (.aload_n 0, 1) := by decide +kernel
theorem dX2_put_19 : decode cX2_put 19 = .ok (.getfield 16, 3) := by decide +kernel
theorem dX2_put_22 : decode cX2_put 22 = .ok (.iload_n 1, 1) := by decide +kernel
theorem dX2_put_23 : decode cX2_put 23 = .ok (.iload_n 3, 1) := by decide +kernel
theorem dX2_put_24 : decode cX2_put 24 = .ok (.iastore, 1) := by decide +kernel
theorem dX2_put_25 : decode cX2_put 25 = .ok (.aload_n 0, 1) := by decide +kernel
theorem dX2_put_26 : decode cX2_put 26 = .ok (.getfield 20, 3) := by decide +kernel
theorem dX2_put_29 : decode cX2_put 29 = .ok (.iload_n 1, 1) := by decide +kernel
theorem dX2_put_30 : decode cX2_put 30 = .ok (.iconst 1, 1) := by decide +kernel
theorem dX2_put_31 : decode cX2_put 31 = .ok (.bastore, 1) := by decide +kernel
theorem dX2_put_32 : decode cX2_put 32 = .ok (.return_, 1) := by decide +kernel
theorem dX3_init_0 : decode cX3_init 0 = .ok (.aload_n 0, 1) := by decide +kernel
theorem dX3_init_1 : decode cX3_init 1 = .ok (.invokespecial 5, 3) := by decide +kernel
theorem dX3_init_4 : decode cX3_init 4 = .ok (.aload_n 0, 1) := by decide +kernel
theorem dX3_init_5 : decode cX3_init 5 = .ok (.bipush 35, 2) := by decide +kernel
theorem dX3_init_7 : decode cX3_init 7 = .ok (.newarray .int, 2) := by decide +kernel
theorem dX3_init_9 : decode cX3_init 9 = .ok (.putfield 11, 3) := by decide +kernel
theorem dX3_init_12 : decode cX3_init 12 = .ok (.return_, 1) := by decide +kernel
set_option maxRecDepth 20000 in
theorem ggX3_begin_X3_buryIfOld : GoodIn wsX3_begin wsX3_buryIfOld := goodIn_r _ [10, 1, 11, 12, 13, 14, 15, 16, 17, 18, 19, 20, 21, 22, 23] (by decide +kernel) (by decide +kernel)
set_option maxRecDepth 20000 in
theorem gX3_begin_X3_buryIfOld : GoodIn wsX3_begin (wsV RX3 24 RX3 yX3_buryIfOld wsX3_buryIfOld) := goodIn_app (goodIn_of _ (by decide +kernel)) ggX3_begin_X3_buryIfOld
theorem dX3_begin_0 : decode cX3_begin 0 = .ok (.iconst 0, 1) := by decide +kernel
theorem dX3_begin_1 : decode cX3_begin 1 = .ok (.istore_n 2, 1) := by decide +kernel
theorem dX3_begin_2 : decode cX3_begin 2 = .ok (.iload_n 2, 1) := by decide +kernel
theorem dX3_begin_3 : decode cX3_begin 3 = .ok (.bipush 35, 2) := by decide +kernel
theorem dX3_begin_5 : decode cX3_begin 5 = .ok (.if_icmp .ge 16, 3) := by decide +kernel
theorem dX3_begin_8 : decode cX3_begin 8 = .ok (.aload_n 0, 1) := by decide +kernel
theorem dX3_begin_9 : decode cX3_begin 9 = .ok (.getfield 11, 3) := by decide +kernel
theorem dX3_begin_12 : decode cX3_begin 12 = .ok (.iload_n 2, 1) := by decide +kernel
theorem dX3_begin_13 : decode cX3_begin 13 = .ok (.iconst 0, 1) := by decide +kernel
theorem dX3_begin_14 : decode cX3_begin 14 = .ok (.iastore, 1) := by decide +kernel
theorem dX3_begin_15 : decode cX3_begin 15 = .ok (.iinc 2 1, 3) := by decide +kernel
theorem dX3_begin_18 : decode cX3_begin 18 = .ok (.goto (-16), 3) := by decide +kernel
theorem dX3_begin_21 : decode cX3_begin 21 = .ok (.iconst 0, 1) := by decide +kernel
theorem dX3_begin_22 : decode cX3_begin 22 = .ok (.istore_n 2, 1) := by decide +kernel
theorem dX3_begin_23 : decode cX3_begin 23 = .ok (.iload_n 2, 1) := by decide +kernel
theorem dX3_begin_24 : decode cX3_begin 24 = .ok (.aload_n 1, 1) := by decide +kernel
theorem dX3_begin_25 : decode cX3_begin 25 = .ok (.getfield 15, 3) := by decide +kernel
theorem dX3_begin_28 : decode cX3_begin 28 = .ok (.if_icmp .ge 29, 3) := by decide +kernel
theorem dX3_begin_31 : decode cX3_begin 31 = .ok (.aload_n 0, 1) := by decide +kernel
theorem dX3_begin_32 : decode cX3_begin 32 = .ok (.getfield 11, 3) := by decide +kernel
theorem dX3_begin_35 : decode cX3_begin 35 = .ok (.iconst 1, 1) := by decide +kernel
theorem dX3_begin_36 : decode cX3_begin 36 = .ok (.iload_n 2, 1) := by decide +kernel
theorem dX3_begin_37 : decode cX3_begin 37 = .ok (.iadd, 1) := by decide +kernel
theorem dX3_begin_38 : decode cX3_begin 38 = .ok (.aload_n 1, 1) := by decide +kernel
theorem dX3_begin_39 : decode cX3_begin 39 = .ok (.getfield 21, 3) := by decide +kernel
theorem dX3_begin_42 : decode cX3_begin 42 = .ok (.iload_n 2, 1) := by decide +kernel
theorem dX3_begin_43 : decode cX3_begin 43 = .ok (.iaload, 1) := by decide +kernel
theorem dX3_begin_44 : decode cX3_begin 44 = .ok (.iastore, 1) := by decide +kernel
theorem dX3_begin_45 : decode cX3_begin 45 = .ok (.aload_n 0, 1) := by decide +kernel
theorem dX3_begin_46 : decode cX3_begin 46 = .ok (.aload_n 1, 1) := by decide +kernel
theorem dX3_begin_47 : decode cX3_begin 47 = .ok (.iload_n 2, 1) := by decide +kernel
theorem dX3_begin_48 : decode cX3_begin 48 = .ok (.invokevirtual 24, 3) := by decide +kernel
theorem dX3_begin_51 : decode cX3_begin 51 = .ok (.iinc 2 1, 3) := by decide +kernel
theorem dX3_begin_54 : decode cX3_begin 54 = .ok (.goto (-31), 3) := by decide +kernel
theorem dX3_begin_57 : decode cX3_begin 57 = .ok (.iconst 0, 1) := by decide +kernel
theorem dX3_begin_58 : decode cX3_begin 58 = .ok (.istore_n 2, 1) := by decide +kernel
theorem dX3_begin_59 : decode cX3_begin 59 = .ok (.iload_n 2, 1) := by decide +kernel
theorem dX3_begin_60 : decode cX3_begin 60 = .ok (.aload_n 1, 1) := by decide +kernel
theorem dX3_begin_61 : decode cX3_begin 61 = .ok (.getfield 28, 3) := by decide +kernel
theorem dX3_begin_64 : decode cX3_begin 64 = .ok (.if_icmp .ge 24, 3) := by decide +kernel
theorem dX3_begin_67 : decode cX3_begin 67 = .ok (.aload_n 0, 1) := by decide +kernel
theorem dX3_begin_68 : decode cX3_begin 68 = .ok (.getfield 11, 3) := by decide +kernel
theorem dX3_begin_71 : decode cX3_begin 71 = .ok (.bipush 29, 2) := by decide +kernel
theorem dX3_begin_73 : decode cX3_begin 73 = .ok (.iload_n 2, 1) := by decide +kernel
theorem dX3_begin_74 : decode cX3_begin 74 = .ok (.iadd, 1) := by decide +kernel
theorem dX3_begin_75 : decode cX3_begin 75 = .ok (.aload_n 1, 1) := by decide +kernel
theorem dX3_begin_76 : decode cX3_begin 76 = .ok (.getfield 31, 3) := by decide +kernel
theorem dX3_begin_79 : decode cX3_begin 79 = .ok (.iload_n 2, 1) := by decide +kernel
theorem dX3_begin_80 : decode cX3_begin 80 = .ok (.iaload, 1) := by decide +kernel
theorem dX3_begin_81 : decode cX3_begin 81 = .ok (.iastore, 1) := by decide +kernel
theorem dX3_begin_82 : decode cX3_begin 82 = .ok (.iinc 2 1, 3) := by decide +kernel
theorem dX3_begin_85 : decode cX3_begin 85 = .ok (.goto (-26), 3) := by decide +kernel
theorem dX3_begin_88 : decode cX3_begin 88 = .ok (.return_, 1) := by decide +kernel
theorem dX3_copyTo_0 : decode cX3_copyTo 0 = .ok (.aload_n 0, 1) := by decide +kernel
theorem dX3_copyTo_1 : decode cX3_copyTo 1 = .ok (.getfield 11, 3) := by decide +kernel
theorem dX3_copyTo_4 : decode cX3_copyTo 4 = .ok (.iconst 0, 1) := by decide +kernel
theorem dX3_copyTo_5 : decode cX3_copyTo 5 = .ok (.aload_n 1, 1) := by decide +kernel
theorem dX3_copyTo_6 : decode cX3_copyTo 6 = .ok (.iconst 0, 1) := by decide +kernel
theorem dX3_copyTo_7 : decode cX3_copyTo 7 = .ok (.bipush 35, 2) := by decide +kernel
theorem dX3_copyTo_9 : decode cX3_copyTo 9 = .ok (.aload_n 1, 1) := by decide +kernel
theorem dX3_copyTo_10 : decode cX3_copyTo 10 = .ok (.arraylength, 1) := by decide +kernel
theorem dX3_copyTo_11 : decode cX3_copyTo 11 = .ok (.invokestatic 34, 3) := by decide +kernel
theorem dX3_copyTo_14 : decode cX3_copyTo 14 = .ok (.invokestatic 40, 3) := by decide +kernel
theorem dX3_copyTo_17 : decode cX3_copyTo 17 = .ok (.return_, 1) := by decide +kernel
theorem dX3_copyFrom_0 : decode cX3_copyFrom 0 = .ok (.aload_n 1, 1) := by decide +kernel
theorem dX3_copyFrom_1 : decode cX3_copyFrom 1 = .ok (.iconst 0, 1) := by decide +kernel
theorem dX3_copyFrom_2 : decode cX3_copyFrom 2 = .ok (.aload_n 0, 1) := by decide +kernel
theorem dX3_copyFrom_3 : decode cX3_copyFrom 3 = .ok (.getfield 11, 3) := by decide +kernel
theorem dX3_copyFrom_6 : decode cX3_copyFrom 6 = .ok (.iconst 0, 1) := by decide +kernel
theorem dX3_copyFrom_7 : decode cX3_copyFrom 7 = .ok (.bipush 35, 2) := by decide +kernel
theorem dX3_copyFrom_9 : decode cX3_copyFrom 9 = .ok (.aload_n 1, 1) := by decide +kernel
theorem dX3_copyFrom_10 : decode cX3_copyFrom 10 = .ok (.arraylength, 1) := by decide +kernel
theorem dX3_copyFrom_11 : decode cX3_copyFrom 11 = .ok (.invokestatic 34, 3) := by decide +kernel
theorem dX3_copyFrom_14 : decode cX3_copyFrom 14 = .ok (.invokestatic 40, 3) := by decide +kernel
theorem dX3_copyFrom_17 : decode cX3_copyFrom 17 = .ok (.return_, 1) := by decide +kernel
theorem dX3_years_0 : decode cX3_years 0 = .ok (.aload_n 0, 1) := by decide +kernel
theorem dX3_years_1 : decode cX3_years 1 = .ok (.getfield 11, 3) := by decide +kernel
theorem dX3_years_4 : decode cX3_years 4 = .ok (.iconst 0, 1) := by decide +kernel
theorem dX3_years_5 : decode cX3_years 5 = .ok (.iaload, 1) := by decide +kernel
theorem dX3_years_6 : decode cX3_years 6 = .ok (.ireturn, 1) := by decide +kernel
set_option maxRecDepth 20000 in
theorem ggX3_age_X3_isPerson : GoodIn wsX3_age wsX3_isPerson := goodIn_r _ [5] (by decide +kernel) (by decide +kernel)
set_option maxRecDepth 20000 in
theorem gX3_age_X3_isPerson : GoodIn wsX3_age (va_wsS RX3 46 yX3_isPerson wsX3_isPerson) := goodIn_app (goodIn_of _ (by decide +kernel)) ggX3_age_X3_isPerson
theorem dX3_age_0 : decode cX3_age 0 = .ok (.iload_n 1, 1) := by decide +kernel
theorem dX3_age_1 : decode cX3_age 1 = .ok (.invokestatic 46, 3) := by decide +kernel
theorem dX3_age_4 : decode cX3_age 4 = .ok (.ifCond .eq 14, 3) := by decide +kernel
theorem dX3_age_7 : decode cX3_age 7 = .ok (.aload_n 0, 1) := by decide +kernel
theorem dX3_age_8 : decode cX3_age 8 = .ok (.getfield 11, 3) := by decide +kernel
theorem dX3_age_11 : decode cX3_age 11 = .ok (.iconst 1, 1) := by decide +kernel
theorem dX3_age_12 : decode cX3_age 12 = .ok (.iload_n 1, 1) := by decide +kernel
theorem dX3_age_13 : decode cX3_age 13 = .ok (.iadd, 1) := by decide +kernel
theorem dX3_age_14 : decode cX3_age 14 = .ok (.iaload, 1) := by decide +kernel
theorem dX3_age_15 : decode cX3_age 15 = .ok (.goto 4, 3) := by decide +kernel
theorem dX3_age_18 : decode cX3_age 18 = .ok (.iconst 0, 1) := by decide +kernel
theorem dX3_age_19 : decode cX3_age 19 = .ok (.ireturn, 1) := by decide +kernel
set_option maxRecDepth 20000 in
theorem ggX3_place_X3_isPerson : GoodIn wsX3_place wsX3_isPerson := goodIn_r _ [5] (by decide +kernel) (by decide +kernel)
set_option maxRecDepth 20000 in
theorem gX3_place_X3_isPerson : GoodIn wsX3_place (va_wsS RX3 46 yX3_isPerson wsX3_isPerson) := goodIn_app (goodIn_of _ (by decide +kernel)) ggX3_place_X3_isPerson
theorem dX3_place_0 : decode cX3_place 0 = .ok (.iload_n 1, 1) := by decide +kernel
theorem dX3_place_1 : decode cX3_place 1 = .ok (.invokestatic 46, 3) := by decide +kernel
theorem dX3_place_4 : decode cX3_place 4 = .ok (.ifCond .eq 15, 3) := by decide +kernel
theorem dX3_place_7 : decode cX3_place 7 = .ok (.aload_n 0, 1) := by decide +kernel
theorem dX3_place_8 : decode cX3_place 8 = .ok (.getfield 11, 3) := by decide +kernel
theorem dX3_place_11 : decode cX3_place 11 = .ok (.bipush 8, 2) := by decide +kernel
theorem dX3_place_13 : decode cX3_place 13 = .ok (.iload_n 1, 1) := by decide +kernel
theorem dX3_place_14 : decode cX3_place 14 = .ok (.iadd, 1) := by decide +kernel
theorem dX3_place_15 : decode cX3_place 15 = .ok (.iaload, 1) := by decide +kernel
theorem dX3_place_16 : decode cX3_place 16 = .ok (.goto 4, 3) := by decide +kernel
theorem dX3_place_19 : decode cX3_place 19 = .ok (.iconst 1, 1) := by decide +kernel
theorem dX3_place_20 : decode cX3_place 20 = .ok (.ireturn, 1) := by decide +kernel
set_option maxRecDepth 20000 in
theorem ggX3_box_X3_isPerson : GoodIn wsX3_box wsX3_isPerson := goodIn_r _ [5] (by decide +kernel) (by decide +kernel)
set_option maxRecDepth 20000 in
theorem gX3_box_X3_isPerson : GoodIn wsX3_box (va_wsS RX3 46 yX3_isPerson wsX3_isPerson) := goodIn_app (goodIn_of _ (by decide +kernel)) ggX3_box_X3_isPerson
theorem dX3_box_0 : decode cX3_box 0 = .ok (.iload_n 1, 1) := by decide +kernel
theorem dX3_box_1 : decode cX3_box 1 = .ok (.invokestatic 46, 3) := by decide +kernel
theorem dX3_box_4 : decode cX3_box 4 = .ok (.ifCond .eq 15, 3) := by decide +kernel
theorem dX3_box_7 : decode cX3_box 7 = .ok (.aload_n 0, 1) := by decide +kernel
theorem dX3_box_8 : decode cX3_box 8 = .ok (.getfield 11, 3) := by decide +kernel
theorem dX3_box_11 : decode cX3_box 11 = .ok (.bipush 15, 2) := by decide +kernel
theorem dX3_box_13 : decode cX3_box 13 = .ok (.iload_n 1, 1) := by decide +kernel
theorem dX3_box_14 : decode cX3_box 14 = .ok (.iadd, 1) := by decide +kernel
theorem dX3_box_15 : decode cX3_box 15 = .ok (.iaload, 1) := by decide +kernel
theorem dX3_box_16 : decode cX3_box 16 = .ok (.goto 4, 3) := by decide +kernel
theorem dX3_box_19 : decode cX3_box 19 = .ok (.iconst 0, 1) := by decide +kernel
theorem dX3_box_20 : decode cX3_box 20 = .ok (.ireturn, 1) := by decide +kernel
set_option maxRecDepth 20000 in
theorem ggX3_worth_X3_isGood : GoodIn wsX3_worth wsX3_isGood := goodIn_r _ [5] (by decide +kernel) (by decide +kernel)
set_option maxRecDepth 20000 in
theorem gX3_worth_X3_isGood : GoodIn wsX3_worth (va_wsS RX3 50 yX3_isGood wsX3_isGood) := goodIn_app (goodIn_of _ (by decide +kernel)) ggX3_worth_X3_isGood
theorem dX3_worth_0 : decode cX3_worth 0 = .ok (.iload_n 1, 1) := by decide +kernel
theorem dX3_worth_1 : decode cX3_worth 1 = .ok (.invokestatic 50, 3) := by decide +kernel
theorem dX3_worth_4 : decode cX3_worth 4 = .ok (.ifCond .eq 15, 3) := by decide +kernel
theorem dX3_worth_7 : decode cX3_worth 7 = .ok (.aload_n 0, 1) := by decide +kernel
theorem dX3_worth_8 : decode cX3_worth 8 = .ok (.getfield 11, 3) := by decide +kernel
theorem dX3_worth_11 : decode cX3_worth 11 = .ok (.bipush 29, 2) := by decide +kernel
theorem dX3_worth_13 : decode cX3_worth 13 = .ok (.iload_n 1, 1) := by decide +kernel
theorem dX3_worth_14 : decode cX3_worth 14 = .ok (.iadd, 1) := by decide +kernel
theorem dX3_worth_15 : decode cX3_worth 15 = .ok (.iaload, 1) := by decide +kernel
theorem dX3_worth_16 : decode cX3_worth 16 = .ok (.goto 4, 3) := by decide +kernel
theorem dX3_worth_19 : decode cX3_worth 19 = .ok (.iconst 0, 1) := by decide +kernel
theorem dX3_worth_20 : decode cX3_worth 20 = .ok (.ireturn, 1) := by decide +kernel
set_option maxRecDepth 20000 in
theorem ggX3_isAbove_X3_place : GoodIn wsX3_isAbove wsX3_place := goodIn_r _ [5, 6, 7, 8, 4, 9, 10] (by decide +kernel) (by decide +kernel)
set_option maxRecDepth 20000 in
theorem gX3_isAbove_X3_place : GoodIn wsX3_isAbove (wsV RX3 53 RX3 yX3_place wsX3_place) := goodIn_app (goodIn_of _ (by decide +kernel)) ggX3_isAbove_X3_place
theorem dX3_isAbove_0 : decode cX3_isAbove 0 = .ok (.aload_n 0, 1) := by decide +kernel
theorem dX3_isAbove_1 : decode cX3_isAbove 1 = .ok (.iload_n 1, 1) := by decide +kernel
theorem dX3_isAbove_2 : decode cX3_isAbove 2 = .ok (.invokevirtual 53, 3) := by decide +kernel
theorem dX3_isAbove_5 : decode cX3_isAbove 5 = .ok (.ifCond .ne 7, 3) := by decide +kernel
theorem dX3_isAbove_8 : decode cX3_isAbove 8 = .ok (.iconst 1, 1) := by decide +kernel
theorem dX3_isAbove_9 : decode cX3_isAbove 9 = .ok (.goto 4, 3) := by decide +kernel
theorem dX3_isAbove_12 : decode cX3_isAbove 12 = .ok (.iconst 0, 1) := by decide +kernel
theorem dX3_isAbove_13 : decode cX3_isAbove 13 = .ok (.ireturn, 1) := by decide +kernel
set_option maxRecDepth 20000 in
theorem ggX3_isBelow_X3_place : GoodIn wsX3_isBelow wsX3_place := goodIn_r _ [5, 6, 7, 8, 4, 9, 10] (by decide +kernel) (by decide +kernel)
set_option maxRecDepth 20000 in
theorem gX3_isBelow_X3_place : GoodIn wsX3_isBelow (wsV RX3 53 RX3 yX3_place wsX3_place) := goodIn_app (goodIn_of _ (by decide +kernel)) ggX3_isBelow_X3_place
theorem dX3_isBelow_0 : decode cX3_isBelow 0 = .ok (.aload_n 0, 1) := by decide +kernel
theorem dX3_isBelow_1 : decode cX3_isBelow 1 = .ok (.iload_n 1, 1) := by decide +kernel
theorem dX3_isBelow_2 : decode cX3_isBelow 2 = .ok (.invokevirtual 53, 3) := by decide +kernel
theorem dX3_isBelow_5 : decode cX3_isBelow 5 = .ok (.bipush 10, 2) := by decide +kernel
theorem dX3_isBelow_7 : decode cX3_isBelow 7 = .ok (.if_icmp .lt 7, 3) := by decide +kernel
theorem dX3_isBelow_10 : decode cX3_isBelow 10 = .ok (.iconst 1, 1) := by decide +kernel
theorem dX3_isBelow_11 : decode cX3_isBelow 11 = .ok (.goto 4, 3) := by decide +kernel
theorem dX3_isBelow_14 : decode cX3_isBelow 14 = .ok (.iconst 0, 1) := by decide +kernel
theorem dX3_isBelow_15 : decode cX3_isBelow 15 = .ok (.ireturn, 1) := by decide +kernel
set_option maxRecDepth 20000 in
theorem ggX3_daysBelow_X3_isBelow : GoodIn wsX3_daysBelow wsX3_isBelow := goodIn_r _ [6, 7, 8, 9, 5, 10, 1, 11, 12, 13, 25] (by decide +kernel) (by decide +kernel)
set_option maxRecDepth 20000 in
theorem gX3_daysBelow_X3_isBelow : GoodIn wsX3_daysBelow (wsV RX3 57 RX3 yX3_isBelow wsX3_isBelow) := goodIn_app (goodIn_of _ (by decide +kernel)) ggX3_daysBelow_X3_isBelow
set_option maxRecDepth 20000 in
theorem ggX3_daysBelow_X3_place : GoodIn wsX3_daysBelow wsX3_place := goodIn_r _ [10, 1, 11, 12, 5, 13, 25] (by decide +kernel) (by decide +kernel)
set_option maxRecDepth 20000 in
theorem gX3_daysBelow_X3_place : GoodIn wsX3_daysBelow (wsV RX3 53 RX3 yX3_place wsX3_place) := goodIn_app (goodIn_of _ (by decide +kernel)) ggX3_daysBelow_X3_place
set_option maxRecDepth 20000 in
theorem ggX3_daysBelow_X5_daysIn : GoodIn wsX3_daysBelow wsX5_daysIn := goodIn_r _ [18, 19, 20, 21, 22, 17, 23, 24, 26, 27, 28, 29, 30, 31, 32, 33, 34, 35, 36] (by decide +kernel) (by decide +kernel)
set_option maxRecDepth 20000 in
theorem gX3_daysBelow_X5_daysIn : GoodIn wsX3_daysBelow (wsV RX3 60 RX5 yX5_daysIn wsX5_daysIn) := goodIn_app (goodIn_of _ (by decide +kernel)) ggX3_daysBelow_X5_daysIn
theorem dX3_daysBelow_0 : decode cX3_daysBelow 0 = .ok (.aload_n 0, 1) := by decide +kernel
theorem dX3_daysBelow_1 : decode cX3_daysBelow 1 = .ok (.iload_n 2, 1) := by decide +kernel
theorem dX3_daysBelow_2 : decode cX3_daysBelow 2 = .ok (.invokevirtual 57, 3) := by decide +kernel
theorem dX3_daysBelow_5 : decode cX3_daysBelow 5 = .ok (.ifCond .eq 27, 3) := by decide +kernel
theorem dX3_daysBelow_8 : decode cX3_daysBelow 8 = .ok (.aload_n 1, 1) := by decide +kernel
theorem dX3_daysBelow_9 : decode cX3_daysBelow 9 = .ok (.aload_n 0, 1) := by decide +kernel
theorem dX3_daysBelow_10 : decode cX3_daysBelow 10 = .ok (.iload_n 2, 1) := by decide +kernel
theorem dX3_daysBelow_11 : decode cX3_daysBelow 11 = .ok (.invokevirtual 53, 3) := by decide +kernel
theorem dX3_daysBelow_14 : decode cX3_daysBelow 14 = .ok (.bipush 10, 2) := by decide +kernel
theorem dX3_daysBelow_16 : decode cX3_daysBelow 16 = .ok (.isub, 1) := by decide +kernel
theorem dX3_daysBelow_17 : decode cX3_daysBelow 17 = .ok (.aload_n 0, 1) := by decide +kernel
theorem dX3_daysBelow_18 : decode cX3_daysBelow 18 = .ok (.getfield 11, 3) := by decide +kernel
theorem dX3_daysBelow_21 : decode cX3_daysBelow 21 = .ok (.bipush 22, 2) := by decide +kernel
theorem dX3_daysBelow_23 : decode cX3_daysBelow 23 = .ok (.iload_n 2, 1) := by decide +kernel
theorem dX3_daysBelow_24 : decode cX3_daysBelow 24 = .ok (.iadd, 1) := by decide +kernel
theorem dX3_daysBelow_25 : decode cX3_daysBelow 25 = .ok (.iaload, 1) := by decide +kernel
theorem dX3_daysBelow_26 : decode cX3_daysBelow 26 = .ok (.invokevirtual 60, 3) := by decide +kernel
theorem dX3_daysBelow_29 : decode cX3_daysBelow 29 = .ok (.goto 4, 3) := by decide +kernel
theorem dX3_daysBelow_32 : decode cX3_daysBelow 32 = .ok (.iconst 0, 1) := by decide +kernel
theorem dX3_daysBelow_33 : decode cX3_daysBelow 33 = .ok (.ireturn, 1) := by decide +kernel
set_option maxRecDepth 20000 in
theorem ggX3_deadOnes_X3_place : GoodIn wsX3_deadOnes wsX3_place := goodIn_r _ [6, 7, 8, 9, 5, 10, 22] (by decide +kernel) (by decide +kernel)
set_option maxRecDepth 20000 in
theorem gX3_deadOnes_X3_place : GoodIn wsX3_deadOnes (wsV RX3 53 RX3 yX3_place wsX3_place) := goodIn_app (goodIn_of _ (by decide +kernel)) ggX3_deadOnes_X3_place
theorem dX3_deadOnes_0 : decode cX3_deadOnes 0 = .ok (.iconst 0, 1) := by decide +kernel
theorem dX3_deadOnes_1 : decode cX3_deadOnes 1 = .ok (.istore_n 2, 1) := by decide +kernel
theorem dX3_deadOnes_2 : decode cX3_deadOnes 2 = .ok (.iconst 0, 1) := by decide +kernel
theorem dX3_deadOnes_3 : decode cX3_deadOnes 3 = .ok (.istore_n 3, 1) := by decide +kernel
theorem dX3_deadOnes_4 : decode cX3_deadOnes 4 = .ok (.iload_n 3, 1) := by decide +kernel
theorem dX3_deadOnes_5 : decode cX3_deadOnes 5 = .ok (.aload_n 1, 1) := by decide +kernel
theorem dX3_deadOnes_6 : decode cX3_deadOnes 6 = .ok (.getfield 15, 3) := by decide +kernel
theorem dX3_deadOnes_9 : decode cX3_deadOnes 9 = .ok (.if_icmp .ge 24, 3) := by decide +kernel
theorem dX3_deadOnes_12 : decode cX3_deadOnes 12 = .ok (.aload_n 0, 1) := by decide +kernel
theorem dX3_deadOnes_13 : decode cX3_deadOnes 13 = .ok (.iload_n 3, 1) := by decide +kernel
theorem dX3_deadOnes_14 : decode cX3_deadOnes 14 = .ok (.invokevirtual 53, 3) := by decide +kernel
theorem dX3_deadOnes_17 : decode cX3_deadOnes 17 = .ok (.iconst 1, 1) := by decide +kernel
theorem dX3_deadOnes_18 : decode cX3_deadOnes 18 = .ok (.if_icmp .ne 9, 3) := by decide +kernel
theorem dX3_deadOnes_21 : decode cX3_deadOnes 21 = .ok (.iload_n 2, 1) := by decide +kernel
theorem dX3_deadOnes_22 : decode cX3_deadOnes 22 = .ok (.iconst 1, 1) := by decide +kernel
theorem dX3_deadOnes_23 : decode cX3_deadOnes 23 = .ok (.iload_n 3, 1) := by decide +kernel
theorem dX3_deadOnes_24 : decode cX3_deadOnes 24 = .ok (.ishl, 1) := by decide +kernel
theorem dX3_deadOnes_25 : decode cX3_deadOnes 25 = .ok (.ior, 1) := by decide +kernel
theorem dX3_deadOnes_26 : decode cX3_deadOnes 26 = .ok (.istore_n 2, 1) := by decide +kernel
theorem dX3_deadOnes_27 : decode cX3_deadOnes 27 = .ok (.iinc 3 1, 3) := by decide +kernel
theorem dX3_deadOnes_30 : decode cX3_deadOnes 30 = .ok (.goto (-26), 3) := by decide +kernel
theorem dX3_deadOnes_33 : decode cX3_deadOnes 33 = .ok (.iload_n 2, 1) := by decide +kernel
theorem dX3_deadOnes_34 : decode cX3_deadOnes 34 = .ok (.ireturn, 1) := by decide +kernel
set_option maxRecDepth 20000 in
theorem ggX3_stayersOf_X3_isBelow : GoodIn wsX3_stayersOf wsX3_isBelow := goodIn_r _ [7, 8, 9, 10, 6, 11, 2, 12, 13, 14, 26] (by decide +kernel) (by decide +kernel)
set_option maxRecDepth 20000 in
theorem gX3_stayersOf_X3_isBelow : GoodIn wsX3_stayersOf (wsV RX3 57 RX3 yX3_isBelow wsX3_isBelow) := goodIn_app (goodIn_of _ (by decide +kernel)) ggX3_stayersOf_X3_isBelow
theorem dX3_stayersOf_0 : decode cX3_stayersOf 0 = .ok (.iconst 0, 1) := by decide +kernel
theorem dX3_stayersOf_1 : decode cX3_stayersOf 1 = .ok (.istore_n 3, 1) := by decide +kernel
theorem dX3_stayersOf_2 : decode cX3_stayersOf 2 = .ok (.iconst 0, 1) := by decide +kernel
theorem dX3_stayersOf_3 : decode cX3_stayersOf 3 = .ok (.istore 4, 2) := by decide +kernel
theorem dX3_stayersOf_5 : decode cX3_stayersOf 5 = .ok (.iload 4, 2) := by decide +kernel
theorem dX3_stayersOf_7 : decode cX3_stayersOf 7 = .ok (.aload_n 1, 1) := by decide +kernel
theorem dX3_stayersOf_8 : decode cX3_stayersOf 8 = .ok (.getfield 15, 3) := by decide +kernel
theorem dX3_stayersOf_11 : decode cX3_stayersOf 11 = .ok (.if_icmp .ge 39, 3) := by decide +kernel
theorem dX3_stayersOf_14 : decode cX3_stayersOf 14 = .ok (.aload_n 0, 1) := by decide +kernel
theorem dX3_stayersOf_15 : decode cX3_stayersOf 15 = .ok (.iload 4, 2) := by decide +kernel
theorem dX3_stayersOf_17 : decode cX3_stayersOf 17 = .ok (.invokevirtual 57, 3) := by decide +kernel
theorem dX3_stayersOf_20 : decode cX3_stayersOf 20 = .ok (.ifCond .eq 24, 3) := by decide +kernel
theorem dX3_stayersOf_23 : decode cX3_stayersOf 23 = .ok (.aload_n 0, 1) := by decide +kernel
theorem dX3_stayersOf_24 : decode cX3_stayersOf 24 = .ok (.getfield 11, 3) := by decide +kernel
theorem dX3_stayersOf_27 : decode cX3_stayersOf 27 = .ok (.bipush 22, 2) := by decide +kernel
theorem dX3_stayersOf_29 : decode cX3_stayersOf 29 = .ok (.iload 4, 2) := by decide +kernel
theorem dX3_stayersOf_31 : decode cX3_stayersOf 31 = .ok (.iadd, 1) := by decide +kernel
theorem dX3_stayersOf_32 : decode cX3_stayersOf 32 = .ok (.iaload, 1) := by decide +kernel
theorem dX3_stayersOf_33 : decode cX3_stayersOf 33 = .ok (.iload_n 2, 1) := by decide +kernel
theorem dX3_stayersOf_34 : decode cX3_stayersOf 34 = .ok (.if_icmp .lt 10, 3) := by decide +kernel
theorem dX3_stayersOf_37 : decode cX3_stayersOf 37 = .ok (.iload_n 3, 1) := by decide +kernel
theorem dX3_stayersOf_38 : decode cX3_stayersOf 38 = .ok (.iconst 1, 1) := by decide +kernel
theorem dX3_stayersOf_39 : decode cX3_stayersOf 39 = .ok (.iload 4, 2) := by decide +kernel
theorem dX3_stayersOf_41 : decode cX3_stayersOf 41 = .ok (.ishl, 1) := by decide +kernel
theorem dX3_stayersOf_42 : decode cX3_stayersOf 42 = .ok (.ior, 1) := by decide +kernel
theorem dX3_stayersOf_43 : decode cX3_stayersOf 43 = .ok (.istore_n 3, 1) := by decide +kernel
theorem dX3_stayersOf_44 : decode cX3_stayersOf 44 = .ok (.iinc 4 1, 3) := by decide +kernel
theorem dX3_stayersOf_47 : decode cX3_stayersOf 47 = .ok (.goto (-42), 3) := by decide +kernel
theorem dX3_stayersOf_50 : decode cX3_stayersOf 50 = .ok (.iload_n 3, 1) := by decide +kernel
theorem dX3_stayersOf_51 : decode cX3_stayersOf 51 = .ok (.ireturn, 1) := by decide +kernel
set_option maxRecDepth 20000 in
theorem ggX3_passYears_X3_isAbove : GoodIn wsX3_passYears wsX3_isAbove := goodIn_r _ [13, 14, 15, 16, 12, 17, 1, 18, 19, 20, 45] (by decide +kernel) (by decide +kernel)
set_option maxRecDepth 20000 in
theorem gX3_passYears_X3_isAbove : GoodIn wsX3_passYears (wsV RX3 63 RX3 yX3_isAbove wsX3_isAbove) := goodIn_app (goodIn_of _ (by decide +kernel)) ggX3_passYears_X3_isAbove
set_option maxRecDepth 20000 in
theorem ggX3_passYears_X3_buryIfOld : GoodIn wsX3_passYears wsX3_buryIfOld := goodIn_r _ [24, 1, 3, 45, 46, 47, 48, 49, 50, 51, 52, 53, 54, 55, 56] (by decide +kernel) (by decide +kernel)
set_option maxRecDepth 20000 in
theorem gX3_passYears_X3_buryIfOld : GoodIn wsX3_passYears (wsV RX3 24 RX3 yX3_buryIfOld wsX3_buryIfOld) := goodIn_app (goodIn_of _ (by decide +kernel)) ggX3_passYears_X3_buryIfOld
set_option maxRecDepth 20000 in
theorem ggX3_passYears_X3_isBelow : GoodIn wsX3_passYears wsX3_isBelow := goodIn_r _ [28, 14, 15, 16, 12, 17, 1, 18, 19, 20, 45] (by decide +kernel) (by decide +kernel)
set_option maxRecDepth 20000 in
theorem gX3_passYears_X3_isBelow : GoodIn wsX3_passYears (wsV RX3 57 RX3 yX3_isBelow wsX3_isBelow) := goodIn_app (goodIn_of _ (by decide +kernel)) ggX3_passYears_X3_isBelow
set_option maxRecDepth 20000 in
theorem ggX3_passYears_X5_worthBehind : GoodIn wsX3_passYears wsX5_worthBehind := goodIn_r _ [33, 34, 35, 36, 32, 37, 38, 39, 40, 41, 42, 43, 44, 46, 47, 48, 49, 50, 51, 52, 53, 54, 55, 56] (by decide +kernel) (by decide +kernel)
set_option maxRecDepth 20000 in
theorem gX3_passYears_X5_worthBehind : GoodIn wsX3_passYears (wsV RX3 69 RX5 yX5_worthBehind wsX5_worthBehind) := goodIn_app (goodIn_of _ (by decide +kernel)) ggX3_passYears_X5_worthBehind
theorem dX3_passYears_0 : decode cX3_passYears 0 = .ok (.aload_n 0, 1) := by decide +kernel
theorem dX3_passYears_1 : decode cX3_passYears 1 = .ok (.getfield 11, 3) := by decide +kernel
theorem dX3_passYears_4 : decode cX3_passYears 4 = .ok (.iconst 0, 1) := by decide +kernel
theorem dX3_passYears_5 : decode cX3_passYears 5 = .ok (.dup2, 1) := by decide +kernel
theorem dX3_passYears_6 : decode cX3_passYears 6 = .ok (.iaload, 1) := by decide +kernel
theorem dX3_passYears_7 : decode cX3_passYears 7 = .ok (.iload_n 2, 1) := by decide +kernel
theorem dX3_passYears_8 : decode cX3_passYears 8 = .ok (.iadd, 1) := by decide +kernel
theorem dX3_passYears_9 : decode cX3_passYears 9 = .ok (.iastore, 1) := by decide +kernel
theorem dX3_passYears_10 : decode cX3_passYears 10 = .ok (.iconst 0, 1) := by decide +kernel
theorem dX3_passYears_11 : decode cX3_passYears 11 = .ok (.istore_n 3, 1) := by decide +kernel
theorem dX3_passYears_12 : decode cX3_passYears 12 = .ok (.iload_n 3, 1) := by decide +kernel
theorem dX3_passYears_13 : decode cX3_passYears 13 = .ok (.aload_n 1, 1) := by decide +kernel
theorem dX3_passYears_14 : decode cX3_passYears 14 = .ok (.getfield 15, 3) := by decide +kernel
theorem dX3_passYears_17 : decode cX3_passYears 17 = .ok (.if_icmp .ge 90, 3) := by decide +kernel
theorem dX3_passYears_20 : decode cX3_passYears 20 = .ok (.aload_n 0, 1) := by decide +kernel
theorem dX3_passYears_21 : decode cX3_passYears 21 = .ok (.iload_n 3, 1) := by decide +kernel
theorem dX3_passYears_22 : decode cX3_passYears 22 = .ok (.invokevirtual 63, 3) := by decide +kernel
theorem dX3_passYears_25 : decode cX3_passYears 25 = .ok (.ifCond .eq 42, 3) := by decide +kernel
theorem dX3_passYears_28 : decode cX3_passYears 28 = .ok (.aload_n 0, 1) := by decide +kernel
theorem dX3_passYears_29 : decode cX3_passYears 29 = .ok (.getfield 11, 3) := by decide +kernel
theorem dX3_passYears_32 : decode cX3_passYears 32 = .ok (.iconst 1, 1) := by decide +kernel
theorem dX3_passYears_33 : decode cX3_passYears 33 = .ok (.iload_n 3, 1) := by decide +kernel
theorem dX3_passYears_34 : decode cX3_passYears 34 = .ok (.iadd, 1) := by decide +kernel
theorem dX3_passYears_35 : decode cX3_passYears 35 = .ok (.dup2, 1) := by decide +kernel
theorem dX3_passYears_36 : decode cX3_passYears 36 = .ok (.iaload, 1) := by decide +kernel
theorem dX3_passYears_37 : decode cX3_passYears 37 = .ok (.iload_n 2, 1) := by decide +kernel
theorem dX3_passYears_38 : decode cX3_passYears 38 = .ok (.aload_n 1, 1) := by decide +kernel
theorem dX3_passYears_39 : decode cX3_passYears 39 = .ok (.getfield 66, 3) := by decide +kernel
theorem dX3_passYears_42 : decode cX3_passYears 42 = .ok (.iload_n 3, 1) := by decide +kernel
theorem dX3_passYears_43 : decode cX3_passYears 43 = .ok (.iaload, 1) := by decide +kernel
theorem dX3_passYears_44 : decode cX3_passYears 44 = .ok (.aload_n 0, 1) := by decide +kernel
theorem dX3_passYears_45 : decode cX3_passYears 45 = .ok (.getfield 11, 3) := by decide +kernel
theorem dX3_passYears_48 : decode cX3_passYears 48 = .ok (.iconst 1, 1) := by decide +kernel
theorem dX3_passYears_49 : decode cX3_passYears 49 = .ok (.iload_n 3, 1) := by decide +kernel
theorem dX3_passYears_50 : decode cX3_passYears 50 = .ok (.iadd, 1) := by decide +kernel
theorem dX3_passYears_51 : decode cX3_passYears 51 = .ok (.iaload, 1) := by decide +kernel
theorem dX3_passYears_52 : decode cX3_passYears 52 = .ok (.isub, 1) := by decide +kernel
theorem dX3_passYears_53 : decode cX3_passYears 53 = .ok (.invokestatic 34, 3) := by decide +kernel
theorem dX3_passYears_56 : decode cX3_passYears 56 = .ok (.iadd, 1) := by decide +kernel
theorem dX3_passYears_57 : decode cX3_passYears 57 = .ok (.iastore, 1) := by decide +kernel
theorem dX3_passYears_58 : decode cX3_passYears 58 = .ok (.aload_n 0, 1) := by decide +kernel
theorem dX3_passYears_59 : decode cX3_passYears 59 = .ok (.aload_n 1, 1) := by decide +kernel
theorem dX3_passYears_60 : decode cX3_passYears 60 = .ok (.iload_n 3, 1) := by decide +kernel
theorem dX3_passYears_61 : decode cX3_passYears 61 = .ok (.invokevirtual 24, 3) := by decide +kernel
theorem dX3_passYears_64 : decode cX3_passYears 64 = .ok (.goto 37, 3) := by decide +kernel
theorem dX3_passYears_67 : decode cX3_passYears 67 = .ok (.aload_n 0, 1) := by decide +kernel
theorem dX3_passYears_68 : decode cX3_passYears 68 = .ok (.iload_n 3, 1) := by decide +kernel
theorem dX3_passYears_69 : decode cX3_passYears 69 = .ok (.invokevirtual 57, 3) := by decide +kernel
theorem dX3_passYears_72 : decode cX3_passYears 72 = .ok (.ifCond .eq 29, 3) := by decide +kernel
theorem dX3_passYears_75 : decode cX3_passYears 75 = .ok (.aload_n 0, 1) := by decide +kernel
theorem dX3_passYears_76 : decode cX3_passYears 76 = .ok (.getfield 11, 3) := by decide +kernel
theorem dX3_passYears_79 : decode cX3_passYears 79 = .ok (.bipush 15, 2) := by decide +kernel
theorem dX3_passYears_81 : decode cX3_passYears 81 = .ok (.iload_n 3, 1) := by decide +kernel
theorem dX3_passYears_82 : decode cX3_passYears 82 = .ok (.iadd, 1) := by decide +kernel
theorem dX3_passYears_83 : decode cX3_passYears 83 = .ok (.dup2, 1) := by decide +kernel
theorem dX3_passYears_84 : decode cX3_passYears 84 = .ok (.iaload, 1) := by decide +kernel
theorem dX3_passYears_85 : decode cX3_passYears 85 = .ok (.iload_n 2, 1) := by decide +kernel
theorem dX3_passYears_86 : decode cX3_passYears 86 = .ok (.iadd, 1) := by decide +kernel
theorem dX3_passYears_87 : decode cX3_passYears 87 = .ok (.iastore, 1) := by decide +kernel
theorem dX3_passYears_88 : decode cX3_passYears 88 = .ok (.aload_n 0, 1) := by decide +kernel
theorem dX3_passYears_89 : decode cX3_passYears 89 = .ok (.getfield 11, 3) := by decide +kernel
theorem dX3_passYears_92 : decode cX3_passYears 92 = .ok (.bipush 22, 2) := by decide +kernel
theorem dX3_passYears_94 : decode cX3_passYears 94 = .ok (.iload_n 3, 1) := by decide +kernel
theorem dX3_passYears_95 : decode cX3_passYears 95 = .ok (.iadd, 1) := by decide +kernel
theorem dX3_passYears_96 : decode cX3_passYears 96 = .ok (.dup2, 1) := by decide +kernel
theorem dX3_passYears_97 : decode cX3_passYears 97 = .ok (.iaload, 1) := by decide +kernel
theorem dX3_passYears_98 : decode cX3_passYears 98 = .ok (.iload_n 2, 1) := by decide +kernel
theorem dX3_passYears_99 : decode cX3_passYears 99 = .ok (.iadd, 1) := by decide +kernel
theorem dX3_passYears_100 : decode cX3_passYears 100 = .ok (.iastore, 1) := by decide +kernel
theorem dX3_passYears_101 : decode cX3_passYears 101 = .ok (.iinc 3 1, 3) := by decide +kernel
theorem dX3_passYears_104 : decode cX3_passYears 104 = .ok (.goto (-92), 3) := by decide +kernel
theorem dX3_passYears_107 : decode cX3_passYears 107 = .ok (.iconst 0, 1) := by decide +kernel
theorem dX3_passYears_108 : decode cX3_passYears 108 = .ok (.istore_n 3, 1) := by decide +kernel
theorem dX3_passYears_109 : decode cX3_passYears 109 = .ok (.iload_n 3, 1) := by decide +kernel
theorem dX3_passYears_110 : decode cX3_passYears 110 = .ok (.aload_n 1, 1) := by decide +kernel
theorem dX3_passYears_111 : decode cX3_passYears 111 = .ok (.getfield 28, 3) := by decide +kernel
theorem dX3_passYears_114 : decode cX3_passYears 114 = .ok (.if_icmp .ge 33, 3) := by decide +kernel
theorem dX3_passYears_117 : decode cX3_passYears 117 = .ok (.aload_n 0, 1) := by decide +kernel
theorem dX3_passYears_118 : decode cX3_passYears 118 = .ok (.getfield 11, 3) := by decide +kernel
theorem dX3_passYears_121 : decode cX3_passYears 121 = .ok (.bipush 29, 2) := by decide +kernel
theorem dX3_passYears_123 : decode cX3_passYears 123 = .ok (.iload_n 3, 1) := by decide +kernel
theorem dX3_passYears_124 : decode cX3_passYears 124 = .ok (.iadd, 1) := by decide +kernel
theorem dX3_passYears_125 : decode cX3_passYears 125 = .ok (.aload_n 1, 1) := by decide +kernel
theorem dX3_passYears_126 : decode cX3_passYears 126 = .ok (.iload_n 3, 1) := by decide +kernel
theorem dX3_passYears_127 : decode cX3_passYears 127 = .ok (.aload_n 0, 1) := by decide +kernel
theorem dX3_passYears_128 : decode cX3_passYears 128 = .ok (.getfield 11, 3) := by decide +kernel
theorem dX3_passYears_131 : decode cX3_passYears 131 = .ok (.bipush 29, 2) := by decide +kernel
theorem dX3_passYears_133 : decode cX3_passYears 133 = .ok (.iload_n 3, 1) := by decide +kernel
theorem dX3_passYears_134 : decode cX3_passYears 134 = .ok (.iadd, 1) := by decide +kernel
theorem dX3_passYears_135 : decode cX3_passYears 135 = .ok (.iaload, 1) := by decide +kernel
theorem dX3_passYears_136 : decode cX3_passYears 136 = .ok (.iload_n 2, 1) := by decide +kernel
theorem dX3_passYears_137 : decode cX3_passYears 137 = .ok (.invokevirtual 69, 3) := by decide +kernel
theorem dX3_passYears_140 : decode cX3_passYears 140 = .ok (.iastore, 1) := by decide +kernel
theorem dX3_passYears_141 : decode cX3_passYears 141 = .ok (.iinc 3 1, 3) := by decide +kernel
theorem dX3_passYears_144 : decode cX3_passYears 144 = .ok (.goto (-35), 3) := by decide +kernel
theorem dX3_passYears_147 : decode cX3_passYears 147 = .ok (.return_, 1) := by decide +kernel
set_option maxRecDepth 20000 in
theorem ggX3_goDown_X3_isPerson : GoodIn wsX3_goDown wsX3_isPerson := goodIn_r _ [5] (by decide +kernel) (by decide +kernel)
set_option maxRecDepth 20000 in
theorem gX3_goDown_X3_isPerson : GoodIn wsX3_goDown (va_wsS RX3 46 yX3_isPerson wsX3_isPerson) := goodIn_app (goodIn_of _ (by decide +kernel)) ggX3_goDown_X3_isPerson
theorem dX3_goDown_0 : decode cX3_goDown 0 = .ok (.iload_n 1, 1) := by decide +kernel
theorem dX3_goDown_1 : decode cX3_goDown 1 = .ok (.invokestatic 46, 3) := by decide +kernel
theorem dX3_goDown_4 : decode cX3_goDown 4 = .ok (.ifCond .eq 26, 3) := by decide +kernel
theorem dX3_goDown_7 : decode cX3_goDown 7 = .ok (.aload_n 0, 1) := by decide +kernel
theorem dX3_goDown_8 : decode cX3_goDown 8 = .ok (.getfield 11, 3) := by decide +kernel
theorem dX3_goDown_11 : decode cX3_goDown 11 = .ok (.bipush 8, 2) := by decide +kernel
theorem dX3_goDown_13 : decode cX3_goDown 13 = .ok (.iload_n 1, 1) := by decide +kernel
theorem dX3_goDown_14 : decode cX3_goDown 14 = .ok (.iadd, 1) := by decide +kernel
theorem dX3_goDown_15 : decode cX3_goDown 15 = .ok (.bipush 10, 2) := by decide +kernel
theorem dX3_goDown_17 : decode cX3_goDown 17 = .ok (.iload_n 2, 1) := by decide +kernel
theorem dX3_goDown_18 : decode cX3_goDown 18 = .ok (.iadd, 1) := by decide +kernel
theorem dX3_goDown_19 : decode cX3_goDown 19 = .ok (.iastore, 1) := by decide +kernel
theorem dX3_goDown_20 : decode cX3_goDown 20 = .ok (.aload_n 0, 1) := by decide +kernel
theorem dX3_goDown_21 : decode cX3_goDown 21 = .ok (.getfield 11, 3) := by decide +kernel
theorem dX3_goDown_24 : decode cX3_goDown 24 = .ok (.bipush 22, 2) := by decide +kernel
theorem dX3_goDown_26 : decode cX3_goDown 26 = .ok (.iload_n 1, 1) := by decide +kernel
theorem dX3_goDown_27 : decode cX3_goDown 27 = .ok (.iadd, 1) := by decide +kernel
theorem dX3_goDown_28 : decode cX3_goDown 28 = .ok (.iconst 0, 1) := by decide +kernel
theorem dX3_goDown_29 : decode cX3_goDown 29 = .ok (.iastore, 1) := by decide +kernel
theorem dX3_goDown_30 : decode cX3_goDown 30 = .ok (.return_, 1) := by decide +kernel
set_option maxRecDepth 20000 in
theorem ggX3_comeUp_X3_isPerson : GoodIn wsX3_comeUp wsX3_isPerson := goodIn_r _ [5] (by decide +kernel) (by decide +kernel)
set_option maxRecDepth 20000 in
theorem gX3_comeUp_X3_isPerson : GoodIn wsX3_comeUp (va_wsS RX3 46 yX3_isPerson wsX3_isPerson) := goodIn_app (goodIn_of _ (by decide +kernel)) ggX3_comeUp_X3_isPerson
theorem dX3_comeUp_0 : decode cX3_comeUp 0 = .ok (.iload_n 1, 1) := by decide +kernel
theorem dX3_comeUp_1 : decode cX3_comeUp 1 = .ok (.invokestatic 46, 3) := by decide +kernel
theorem dX3_comeUp_4 : decode cX3_comeUp 4 = .ok (.ifCond .eq 13, 3) := by decide +kernel
theorem dX3_comeUp_7 : decode cX3_comeUp 7 = .ok (.aload_n 0, 1) := by decide +kernel
theorem dX3_comeUp_8 : decode cX3_comeUp 8 = .ok (.getfield 11, 3) := by decide +kernel
theorem dX3_comeUp_11 : decode cX3_comeUp 11 = .ok (.bipush 8, 2) := by decide +kernel
theorem dX3_comeUp_13 : decode cX3_comeUp 13 = .ok (.iload_n 1, 1) := by decide +kernel
theorem dX3_comeUp_14 : decode cX3_comeUp 14 = .ok (.iadd, 1) := by decide +kernel
theorem dX3_comeUp_15 : decode cX3_comeUp 15 = .ok (.iconst 0, 1) := by decide +kernel
theorem dX3_comeUp_16 : decode cX3_comeUp 16 = .ok (.iastore, 1) := by decide +kernel
theorem dX3_comeUp_17 : decode cX3_comeUp 17 = .ok (.return_, 1) := by decide +kernel
set_option maxRecDepth 20000 in
theorem ggX3_openBox_X3_isPerson : GoodIn wsX3_openBox wsX3_isPerson := goodIn_r _ [5] (by decide +kernel) (by decide +kernel)
set_option maxRecDepth 20000 in
theorem gX3_openBox_X3_isPerson : GoodIn wsX3_openBox (va_wsS RX3 46 yX3_isPerson wsX3_isPerson) := goodIn_app (goodIn_of _ (by decide +kernel)) ggX3_openBox_X3_isPerson
set_option maxRecDepth 20000 in
theorem ggX3_openBox_X3_buryIfOld : GoodIn wsX3_openBox wsX3_buryIfOld := goodIn_r _ [9, 1, 10, 11, 12, 13, 14, 15, 16, 17, 18, 19, 20, 21, 22] (by decide +kernel) (by decide +kernel)
set_option maxRecDepth 20000 in
theorem gX3_openBox_X3_buryIfOld : GoodIn wsX3_openBox (wsV RX3 24 RX3 yX3_buryIfOld wsX3_buryIfOld) := goodIn_app (goodIn_of _ (by decide +kernel)) ggX3_openBox_X3_buryIfOld
theorem dX3_openBox_0 : decode cX3_openBox 0 = .ok (.iload_n 2, 1) := by decide +kernel
theorem dX3_openBox_1 : decode cX3_openBox 1 = .ok (.invokestatic 46, 3) := by decide +kernel
theorem dX3_openBox_4 : decode cX3_openBox 4 = .ok (.ifCond .eq 39, 3) := by decide +kernel
theorem dX3_openBox_7 : decode cX3_openBox 7 = .ok (.aload_n 0, 1) := by decide +kernel
theorem dX3_openBox_8 : decode cX3_openBox 8 = .ok (.getfield 11, 3) := by decide +kernel
theorem dX3_openBox_11 : decode cX3_openBox 11 = .ok (.iconst 1, 1) := by decide +kernel
theorem dX3_openBox_12 : decode cX3_openBox 12 = .ok (.iload_n 2, 1) := by decide +kernel
theorem dX3_openBox_13 : decode cX3_openBox 13 = .ok (.iadd, 1) := by decide +kernel
theorem dX3_openBox_14 : decode cX3_openBox 14 = .ok (.dup2, 1) := by decide +kernel
theorem dX3_openBox_15 : decode cX3_openBox 15 = .ok (.iaload, 1) := by decide +kernel
theorem dX3_openBox_16 : decode cX3_openBox 16 = .ok (.aload_n 0, 1) := by decide +kernel
theorem dX3_openBox_17 : decode cX3_openBox 17 = .ok (.getfield 11, 3) := by decide +kernel
theorem dX3_openBox_20 : decode cX3_openBox 20 = .ok (.bipush 15, 2) := by decide +kernel
theorem dX3_openBox_22 : decode cX3_openBox 22 = .ok (.iload_n 2, 1) := by decide +kernel
theorem dX3_openBox_23 : decode cX3_openBox 23 = .ok (.iadd, 1) := by decide +kernel
theorem dX3_openBox_24 : decode cX3_openBox 24 = .ok (.iaload, 1) := by decide +kernel
theorem dX3_openBox_25 : decode cX3_openBox 25 = .ok (.iadd, 1) := by decide +kernel
theorem dX3_openBox_26 : decode cX3_openBox 26 = .ok (.iastore, 1) := by decide +kernel
theorem dX3_openBox_27 : decode cX3_openBox 27 = .ok (.aload_n 0, 1) := by decide +kernel
theorem dX3_openBox_28 : decode cX3_openBox 28 = .ok (.getfield 11, 3) := by decide +kernel
theorem dX3_openBox_31 : decode cX3_openBox 31 = .ok (.bipush 15, 2) := by decide +kernel
theorem dX3_openBox_33 : decode cX3_openBox 33 = .ok (.iload_n 2, 1) := by decide +kernel
theorem dX3_openBox_34 : decode cX3_openBox 34 = .ok (.iadd, 1) := by decide +kernel
theorem dX3_openBox_35 : decode cX3_openBox 35 = .ok (.iconst 0, 1) := by decide +kernel
theorem dX3_openBox_36 : decode cX3_openBox 36 = .ok (.iastore, 1) := by decide +kernel
theorem dX3_openBox_37 : decode cX3_openBox 37 = .ok (.aload_n 0, 1) := by decide +kernel
theorem dX3_openBox_38 : decode cX3_openBox 38 = .ok (.aload_n 1, 1) := by decide +kernel
theorem dX3_openBox_39 : decode cX3_openBox 39 = .ok (.iload_n 2, 1) := by decide +kernel
theorem dX3_openBox_40 : decode cX3_openBox 40 = .ok (.invokevirtual 24, 3) := by decide +kernel
theorem dX3_openBox_43 : decode cX3_openBox 43 = .ok (.return_, 1) := by decide +kernel
set_option maxRecDepth 20000 in
theorem ggX3_takeGood_X3_isGood : GoodIn wsX3_takeGood wsX3_isGood := goodIn_r _ [5] (by decide +kernel) (by decide +kernel)
set_option maxRecDepth 20000 in
theorem gX3_takeGood_X3_isGood : GoodIn wsX3_takeGood (va_wsS RX3 50 yX3_isGood wsX3_isGood) := goodIn_app (goodIn_of _ (by decide +kernel)) ggX3_takeGood_X3_isGood
theorem dX3_takeGood_0 : decode cX3_takeGood 0 = .ok (.iload_n 1, 1) := by decide +kernel
theorem dX3_takeGood_1 : decode cX3_takeGood 1 = .ok (.invokestatic 50, 3) := by decide +kernel
theorem dX3_takeGood_4 : decode cX3_takeGood 4 = .ok (.ifCond .eq 13, 3) := by decide +kernel
theorem dX3_takeGood_7 : decode cX3_takeGood 7 = .ok (.aload_n 0, 1) := by decide +kernel
theorem dX3_takeGood_8 : decode cX3_takeGood 8 = .ok (.getfield 11, 3) := by decide +kernel
theorem dX3_takeGood_11 : decode cX3_takeGood 11 = .ok (.bipush 29, 2) := by decide +kernel
theorem dX3_takeGood_13 : decode cX3_takeGood 13 = .ok (.iload_n 1, 1) := by decide +kernel
theorem dX3_takeGood_14 : decode cX3_takeGood 14 = .ok (.iadd, 1) := by decide +kernel
theorem dX3_takeGood_15 : decode cX3_takeGood 15 = .ok (.iconst 0, 1) := by decide +kernel
theorem dX3_takeGood_16 : decode cX3_takeGood 16 = .ok (.iastore, 1) := by decide +kernel
theorem dX3_takeGood_17 : decode cX3_takeGood 17 = .ok (.return_, 1) := by decide +kernel
theorem dX3_buryIfOld_0 : decode cX3_buryIfOld 0 = .ok (.aload_n 0, 1) := by decide +kernel
theorem dX3_buryIfOld_1 : decode cX3_buryIfOld 1 = .ok (.getfield 11, 3) := by decide +kernel
theorem dX3_buryIfOld_4 : decode cX3_buryIfOld 4 = .ok (.iconst 1, 1) := by decide +kernel
theorem dX3_buryIfOld_5 : decode cX3_buryIfOld 5 = .ok (.iload_n 2, 1) := by decide +kernel
theorem dX3_buryIfOld_6 : decode cX3_buryIfOld 6 = .ok (.iadd, 1) := by decide +kernel
theorem dX3_buryIfOld_7 : decode cX3_buryIfOld 7 = .ok (.iaload, 1) := by decide +kernel
theorem dX3_buryIfOld_8 : decode cX3_buryIfOld 8 = .ok (.aload_n 1, 1) := by decide +kernel
theorem dX3_buryIfOld_9 : decode cX3_buryIfOld 9 = .ok (.getfield 66, 3) := by decide +kernel
theorem dX3_buryIfOld_12 : decode cX3_buryIfOld 12 = .ok (.iload_n 2, 1) := by decide +kernel
theorem dX3_buryIfOld_13 : decode cX3_buryIfOld 13 = .ok (.iaload, 1) := by decide +kernel
theorem dX3_buryIfOld_14 : decode cX3_buryIfOld 14 = .ok (.if_icmp .lt 13, 3) := by decide +kernel
theorem dX3_buryIfOld_17 : decode cX3_buryIfOld 17 = .ok (.aload_n 0, 1) := by decide +kernel
theorem dX3_buryIfOld_18 : decode cX3_buryIfOld 18 = .ok (.getfield 11, 3) := by decide +kernel
theorem dX3_buryIfOld_21 : decode cX3_buryIfOld 21 = .ok (.bipush 8, 2) := by decide +kernel
theorem dX3_buryIfOld_23 : decode cX3_buryIfOld 23 = .ok (.iload_n 2, 1) := by decide +kernel
theorem dX3_buryIfOld_24 : decode cX3_buryIfOld 24 = .ok (.iadd, 1) := by decide +kernel
theorem dX3_buryIfOld_25 : decode cX3_buryIfOld 25 = .ok (.iconst 1, 1) := by decide +kernel
theorem dX3_buryIfOld_26 : decode cX3_buryIfOld 26 = .ok (.iastore, 1) := by decide +kernel
theorem dX3_buryIfOld_27 : decode cX3_buryIfOld 27 = .ok (.return_, 1) := by decide +kernel
theorem dX3_isPerson_0 : decode cX3_isPerson 0 = .ok (.iload_n 0, 1) := by decide +kernel
theorem dX3_isPerson_1 : decode cX3_isPerson 1 = .ok (.ifCond .lt 13, 3) := by decide +kernel
theorem dX3_isPerson_4 : decode cX3_isPerson 4 = .ok (.iload_n 0, 1) := by decide +kernel
theorem dX3_isPerson_5 : decode cX3_isPerson 5 = .ok (.bipush 7, 2) := by decide +kernel
theorem dX3_isPerson_7 : decode cX3_isPerson 7 = .ok (.if_icmp .ge 7, 3) := by decide +kernel
theorem dX3_isPerson_10 : decode cX3_isPerson 10 = .ok (.iconst 1, 1) := by decide +kernel
theorem dX3_isPerson_11 : decode cX3_isPerson 11 = .ok (.goto 4, 3) := by decide +kernel
theorem dX3_isPerson_14 : decode cX3_isPerson 14 = .ok (.iconst 0, 1) := by decide +kernel
theorem dX3_isPerson_15 : decode cX3_isPerson 15 = .ok (.ireturn, 1) := by decide +kernel
theorem dX3_isGood_0 : decode cX3_isGood 0 = .ok (.iload_n 0, 1) := by decide +kernel
theorem dX3_isGood_1 : decode cX3_isGood 1 = .ok (.ifCond .lt 13, 3) := by decide +kernel
theorem dX3_isGood_4 : decode cX3_isGood 4 = .ok (.iload_n 0, 1) := by decide +kernel
theorem dX3_isGood_5 : decode cX3_isGood 5 = .ok (.bipush 6, 2) := by decide +kernel
theorem dX3_isGood_7 : decode cX3_isGood 7 = .ok (.if_icmp .ge 7, 3) := by decide +kernel
theorem dX3_isGood_10 : decode cX3_isGood 10 = .ok (.iconst 1, 1) := by decide +kernel
theorem dX3_isGood_11 : decode cX3_isGood 11 = .ok (.goto 4, 3) := by decide +kernel
theorem dX3_isGood_14 : decode cX3_isGood 14 = .ok (.iconst 0, 1) := by decide +kernel
theorem dX3_isGood_15 : decode cX3_isGood 15 = .ok (.ireturn, 1) := by decide +kernel
theorem dX4_init_0 : decode cX4_init 0 = .ok (.aload_n 0, 1) := by decide +kernel
theorem dX4_init_1 : decode cX4_init 1 = .ok (.invokespecial 1, 3) := by decide +kernel
theorem dX4_init_4 : decode cX4_init 4 = .ok (.aload_n 0, 1) := by decide +kernel
theorem dX4_init_5 : decode cX4_init 5 = .ok (.bipush 20, 2) := by decide +kernel
theorem dX4_init_7 : decode cX4_init 7 = .ok (.bipush 35, 2) := by decide +kernel
theorem dX4_init_9 : decode cX4_init 9 = .ok (.multianewarray 11 2, 4) := by decide +kernel
theorem dX4_init_13 : decode cX4_init 13 = .ok (.putfield 13, 3) := by decide +kernel
theorem dX4_init_16 : decode cX4_init 16 = .ok (.return_, 1) := by decide +kernel
theorem dX4_forget_0 : decode cX4_forget 0 = .ok (.aload_n 0, 1) := by decide +kernel
theorem dX4_forget_1 : decode cX4_forget 1 = .ok (.iconst 0, 1) := by decide +kernel
theorem dX4_forget_2 : decode cX4_forget 2 = .ok (.putfield 16, 3) := by decide +kernel
theorem dX4_forget_5 : decode cX4_forget 5 = .ok (.return_, 1) := by decide +kernel
set_option maxRecDepth 20000 in
theorem ggX4_remember_X3_copyTo : GoodIn wsX4_remember wsX3_copyTo := goodIn_r _ [12, 13, 14, 5, 6, 7, 15, 16, 17, 18, 22] (by decide +kernel) (by decide +kernel)
set_option maxRecDepth 20000 in
theorem gX4_remember_X3_copyTo : GoodIn wsX4_remember (wsV RX4 23 RX3 yX3_copyTo wsX3_copyTo) := goodIn_app (goodIn_of _ (by decide +kernel)) ggX4_remember_X3_copyTo
theorem dX4_remember_0 : decode cX4_remember 0 = .ok (.aload_n 1, 1) := by decide +kernel
theorem dX4_remember_1 : decode cX4_remember 1 = .ok (.aload_n 0, 1) := by decide +kernel
theorem dX4_remember_2 : decode cX4_remember 2 = .ok (.getfield 13, 3) := by decide +kernel
theorem dX4_remember_5 : decode cX4_remember 5 = .ok (.aload_n 0, 1) := by decide +kernel
theorem dX4_remember_6 : decode cX4_remember 6 = .ok (.getfield 20, 3) := by decide +kernel
theorem dX4_remember_9 : decode cX4_remember 9 = .ok (.aaload, 1) := by decide +kernel
theorem dX4_remember_10 : decode cX4_remember 10 = .ok (.invokevirtual 23, 3) := by decide +kernel
theorem dX4_remember_13 : decode cX4_remember 13 = .ok (.aload_n 0, 1) := by decide +kernel
theorem dX4_remember_14 : decode cX4_remember 14 = .ok (.aload_n 0, 1) := by decide +kernel
theorem dX4_remember_15 : decode cX4_remember 15 = .ok (.getfield 20, 3) := by decide +kernel
theorem dX4_remember_18 : decode cX4_remember 18 = .ok (.iconst 1, 1) := by decide +kernel
theorem dX4_remember_19 : decode cX4_remember 19 = .ok (.iadd, 1) := by decide +kernel
theorem dX4_remember_20 : decode cX4_remember 20 = .ok (.bipush 20, 2) := by decide +kernel
theorem dX4_remember_22 : decode cX4_remember 22 = .ok (.irem, 1) := by decide +kernel
theorem dX4_remember_23 : decode cX4_remember 23 = .ok (.putfield 20, 3) := by decide +kernel
theorem dX4_remember_26 : decode cX4_remember 26 = .ok (.aload_n 0, 1) := by decide +kernel
theorem dX4_remember_27 : decode cX4_remember 27 = .ok (.aload_n 0, 1) := by decide +kernel
theorem dX4_remember_28 : decode cX4_remember 28 = .ok (.getfield 16, 3) := by decide +kernel
theorem dX4_remember_31 : decode cX4_remember 31 = .ok (.iconst 1, 1) := by decide +kernel
theorem dX4_remember_32 : decode cX4_remember 32 = .ok (.iadd, 1) := by decide +kernel
theorem dX4_remember_33 : decode cX4_remember 33 = .ok (.bipush 20, 2) := by decide +kernel
theorem dX4_remember_35 : decode cX4_remember 35 = .ok (.invokestatic 27, 3) := by decide +kernel
theorem dX4_remember_38 : decode cX4_remember 38 = .ok (.putfield 16, 3) := by decide +kernel
theorem dX4_remember_41 : decode cX4_remember 41 = .ok (.return_, 1) := by decide +kernel
set_option maxRecDepth 20000 in
theorem ggX4_bringBack_X3_copyFrom : GoodIn wsX4_bringBack wsX3_copyFrom := goodIn_r _ [8, 9, 10, 11, 12, 13, 14, 15, 16, 17, 21] (by decide +kernel) (by decide +kernel)
set_option maxRecDepth 20000 in
theorem gX4_bringBack_X3_copyFrom : GoodIn wsX4_bringBack (wsV RX4 33 RX3 yX3_copyFrom wsX3_copyFrom) := goodIn_app (goodIn_of _ (by decide +kernel)) ggX4_bringBack_X3_copyFrom
theorem dX4_bringBack_0 : decode cX4_bringBack 0 = .ok (.aload_n 0, 1) := by decide +kernel
theorem dX4_bringBack_1 : decode cX4_bringBack 1 = .ok (.getfield 16, 3) := by decide +kernel
theorem dX4_bringBack_4 : decode cX4_bringBack 4 = .ok (.ifCond .le 42, 3) := by decide +kernel
theorem dX4_bringBack_7 : decode cX4_bringBack 7 = .ok (.aload_n 0, 1) := by decide +kernel
theorem dX4_bringBack_8 : decode cX4_bringBack 8 = .ok (.aload_n 0, 1) := by decide +kernel
theorem dX4_bringBack_9 : decode cX4_bringBack 9 = .ok (.getfield 20, 3) := by decide +kernel
theorem dX4_bringBack_12 : decode cX4_bringBack 12 = .ok (.bipush 20, 2) := by decide +kernel
theorem dX4_bringBack_14 : decode cX4_bringBack 14 = .ok (.iadd, 1) := by decide +kernel
theorem dX4_bringBack_15 : decode cX4_bringBack 15 = .ok (.iconst 1, 1) := by decide +kernel
theorem dX4_bringBack_16 : decode cX4_bringBack 16 = .ok (.isub, 1) := by decide +kernel
theorem dX4_bringBack_17 : decode cX4_bringBack 17 = .ok (.bipush 20, 2) := by decide +kernel
theorem dX4_bringBack_19 : decode cX4_bringBack 19 = .ok (.irem, 1) := by decide +kernel
theorem dX4_bringBack_20 : decode cX4_bringBack 20 = .ok (.putfield 20, 3) := by decide +kernel
theorem dX4_bringBack_23 : decode cX4_bringBack 23 = .ok (.aload_n 0, 1) := by decide +kernel
theorem dX4_bringBack_24 : decode cX4_bringBack 24 = .ok (.dup, 1) := by decide +kernel
theorem dX4_bringBack_25 : decode cX4_bringBack 25 = .ok (.getfield 16, 3) := by decide +kernel
theorem dX4_bringBack_28 : decode cX4_bringBack 28 = .ok (.iconst 1, 1) := by decide +kernel
theorem dX4_bringBack_29 : decode cX4_bringBack 29 = .ok (.isub, 1) := by decide +kernel
theorem dX4_bringBack_30 : decode cX4_bringBack 30 = .ok (.putfield 16, 3) := by decide +kernel
theorem dX4_bringBack_33 : decode cX4_bringBack 33 = .ok (.aload_n 1, 1) := by decide +kernel
theorem dX4_bringBack_34 : decode cX4_bringBack 34 = .ok (.aload_n 0, 1) := by decide +kernel
theorem dX4_bringBack_35 : decode cX4_bringBack 35 = .ok (.getfield 13, 3) := by decide +kernel
theorem dX4_bringBack_38 : decode cX4_bringBack 38 = .ok (.aload_n 0, 1) := by decide +kernel
theorem dX4_bringBack_39 : decode cX4_bringBack 39 = .ok (.getfield 20, 3) := by decide +kernel
theorem dX4_bringBack_42 : decode cX4_bringBack 42 = .ok (.aaload, 1) := by decide +kernel
theorem dX4_bringBack_43 : decode cX4_bringBack 43 = .ok (.invokevirtual 33, 3) := by decide +kernel
theorem dX4_bringBack_46 : decode cX4_bringBack 46 = .ok (.return_, 1) := by decide +kernel
theorem dX5_init_0 : decode cX5_init 0 = .ok (.aload_n 0, 1) := by decide +kernel
theorem dX5_init_1 : decode cX5_init 1 = .ok (.invokespecial 3, 3) := by decide +kernel
theorem dX5_init_4 : decode cX5_init 4 = .ok (.aload_n 0, 1) := by decide +kernel
theorem dX5_init_5 : decode cX5_init 5 = .ok (.iconst 4, 1) := by decide +kernel
theorem dX5_init_6 : decode cX5_init 6 = .ok (.newarray .int, 2) := by decide +kernel
theorem dX5_init_8 : decode cX5_init 8 = .ok (.putfield 9, 3) := by decide +kernel
theorem dX5_init_11 : decode cX5_init 11 = .ok (.aload_n 0, 1) := by decide +kernel
theorem dX5_init_12 : decode cX5_init 12 = .ok (.bipush 7, 2) := by decide +kernel
theorem dX5_init_14 : decode cX5_init 14 = .ok (.newarray .int, 2) := by decide +kernel
theorem dX5_init_16 : decode cX5_init 16 = .ok (.putfield 15, 3) := by decide +kernel
theorem dX5_init_19 : decode cX5_init 19 = .ok (.aload_n 0, 1) := by decide +kernel
theorem dX5_init_20 : decode cX5_init 20 = .ok (.bipush 7, 2) := by decide +kernel
theorem dX5_init_22 : decode cX5_init 22 = .ok (.newarray .int, 2) := by decide +kernel
theorem dX5_init_24 : decode cX5_init 24 = .ok (.putfield 18, 3) := by decide +kernel
theorem dX5_init_27 : decode cX5_init 27 = .ok (.aload_n 0, 1) := by decide +kernel
theorem dX5_init_28 : decode cX5_init 28 = .ok (.bipush 6, 2) := by decide +kernel
theorem dX5_init_30 : decode cX5_init 30 = .ok (.newarray .int, 2) := by decide +kernel
theorem dX5_init_32 : decode cX5_init 32 = .ok (.putfield 21, 3) := by decide +kernel
theorem dX5_init_35 : decode cX5_init 35 = .ok (.aload_n 0, 1) := by decide +kernel
theorem dX5_init_36 : decode cX5_init 36 = .ok (.bipush 6, 2) := by decide +kernel
theorem dX5_init_38 : decode cX5_init 38 = .ok (.newarray .int, 2) := by decide +kernel
theorem dX5_init_40 : decode cX5_init 40 = .ok (.putfield 24, 3) := by decide +kernel
theorem dX5_init_43 : decode cX5_init 43 = .ok (.aload_n 0, 1) := by decide +kernel
theorem dX5_init_44 : decode cX5_init 44 = .ok (.bipush 6, 2) := by decide +kernel
theorem dX5_init_46 : decode cX5_init 46 = .ok (.newarray .int, 2) := by decide +kernel
theorem dX5_init_48 : decode cX5_init 48 = .ok (.putfield 27, 3) := by decide +kernel
theorem dX5_init_51 : decode cX5_init 51 = .ok (.return_, 1) := by decide +kernel
theorem dX5_empty_0 : decode cX5_empty 0 = .ok (.aload_n 0, 1) := by decide +kernel
theorem dX5_empty_1 : decode cX5_empty 1 = .ok (.iconst 0, 1) := by decide +kernel
theorem dX5_empty_2 : decode cX5_empty 2 = .ok (.putfield 30, 3) := by decide +kernel
theorem dX5_empty_5 : decode cX5_empty 5 = .ok (.aload_n 0, 1) := by decide +kernel
theorem dX5_empty_6 : decode cX5_empty 6 = .ok (.iconst 0, 1) := by decide +kernel
theorem dX5_empty_7 : decode cX5_empty 7 = .ok (.putfield 34, 3) := by decide +kernel
theorem dX5_empty_10 : decode cX5_empty 10 = .ok (.aload_n 0, 1) := by decide +kernel
theorem dX5_empty_11 : decode cX5_empty 11 = .ok (.iconst 0, 1) := by decide +kernel
theorem dX5_empty_12 : decode cX5_empty 12 = .ok (.putfield 37, 3) := by decide +kernel
theorem dX5_empty_15 : decode cX5_empty 15 = .ok (.aload_n 0, 1) := by decide +kernel
theorem dX5_empty_16 : decode cX5_empty 16 = .ok (.iconst 0, 1) := by decide +kernel
theorem dX5_empty_17 : decode cX5_empty 17 = .ok (.putfield 40, 3) := by decide +kernel
theorem dX5_empty_20 : decode cX5_empty 20 = .ok (.aload_n 0, 1) := by decide +kernel
theorem dX5_empty_21 : decode cX5_empty 21 = .ok (.iconst 0, 1) := by decide +kernel
theorem dX5_empty_22 : decode cX5_empty 22 = .ok (.putfield 43, 3) := by decide +kernel
theorem dX5_empty_25 : decode cX5_empty 25 = .ok (.return_, 1) := by decide +kernel
theorem dX5_isTold_0 : decode cX5_isTold 0 = .ok (.aload_n 0, 1) := by decide +kernel
theorem dX5_isTold_1 : decode cX5_isTold 1 = .ok (.getfield 30, 3) := by decide +kernel
theorem dX5_isTold_4 : decode cX5_isTold 4 = .ok (.ifCond .le 7, 3) := by decide +kernel
theorem dX5_isTold_7 : decode cX5_isTold 7 = .ok (.iconst 1, 1) := by decide +kernel
theorem dX5_isTold_8 : decode cX5_isTold 8 = .ok (.goto 4, 3) := by decide +kernel
theorem dX5_isTold_11 : decode cX5_isTold 11 = .ok (.iconst 0, 1) := by decide +kernel
theorem dX5_isTold_12 : decode cX5_isTold 12 = .ok (.ireturn, 1) := by decide +kernel
theorem dX5_hasDepth_0 : decode cX5_hasDepth 0 = .ok (.iload_n 1, 1) := by decide +kernel
theorem dX5_hasDepth_1 : decode cX5_hasDepth 1 = .ok (.ifCond .lt 20, 3) := by decide +kernel
theorem dX5_hasDepth_4 : decode cX5_hasDepth 4 = .ok (.iload_n 1, 1) := by decide +kernel
theorem dX5_hasDepth_5 : decode cX5_hasDepth 5 = .ok (.aload_n 0, 1) := by decide +kernel
theorem dX5_hasDepth_6 : decode cX5_hasDepth 6 = .ok (.getfield 37, 3) := by decide +kernel
theorem dX5_hasDepth_9 : decode cX5_hasDepth 9 = .ok (.if_icmp .ge 12, 3) := by decide +kernel
theorem dX5_hasDepth_12 : decode cX5_hasDepth 12 = .ok (.iload_n 1, 1) := by decide +kernel
theorem dX5_hasDepth_13 : decode cX5_hasDepth 13 = .ok (.iconst 4, 1) := by decide +kernel
theorem dX5_hasDepth_14 : decode cX5_hasDepth 14 = .ok (.if_icmp .ge 7, 3) := by decide +kernel
theorem dX5_hasDepth_17 : decode cX5_hasDepth 17 = .ok (.iconst 1, 1) := by decide +kernel
theorem dX5_hasDepth_18 : decode cX5_hasDepth 18 = .ok (.goto 4, 3) := by decide +kernel
theorem dX5_hasDepth_21 : decode cX5_hasDepth 21 = .ok (.iconst 0, 1) := by decide +kernel
theorem dX5_hasDepth_22 : decode cX5_hasDepth 22 = .ok (.ireturn, 1) := by decide +kernel
theorem dX5_hasPerson_0 : decode cX5_hasPerson 0 = .ok (.iload_n 1, 1) := by decide +kernel
theorem dX5_hasPerson_1 : decode cX5_hasPerson 1 = .ok (.ifCond .lt 21, 3) := by decide +kernel
theorem dX5_hasPerson_4 : decode cX5_hasPerson 4 = .ok (.iload_n 1, 1) := by decide +kernel
theorem dX5_hasPerson_5 : decode cX5_hasPerson 5 = .ok (.aload_n 0, 1) := by decide +kernel
theorem dX5_hasPerson_6 : decode cX5_hasPerson 6 = .ok (.getfield 40, 3) := by decide +kernel
theorem dX5_hasPerson_9 : decode cX5_hasPerson 9 = .ok (.if_icmp .ge 13, 3) := by decide +kernel
theorem dX5_hasPerson_12 : decode cX5_hasPerson 12 = .ok (.iload_n 1, 1) := by decide +kernel
theorem dX5_hasPerson_13 : decode cX5_hasPerson 13 = .ok (.bipush 7, 2) := by decide +kernel
theorem dX5_hasPerson_15 : decode cX5_hasPerson 15 = .ok (.if_icmp .ge 7, 3) := by decide +kernel
theorem dX5_hasPerson_18 : decode cX5_hasPerson 18 = .ok (.iconst 1, 1) := by decide +kernel
theorem dX5_hasPerson_19 : decode cX5_hasPerson 19 = .ok (.goto 4, 3) := by decide +kernel
theorem dX5_hasPerson_22 : decode cX5_hasPerson 22 = .ok (.iconst 0, 1) := by decide +kernel
theorem dX5_hasPerson_23 : decode cX5_hasPerson 23 = .ok (.ireturn, 1) := by decide +kernel
theorem dX5_hasGood_0 : decode cX5_hasGood 0 = .ok (.iload_n 1, 1) := by decide +kernel
theorem dX5_hasGood_1 : decode cX5_hasGood 1 = .ok (.ifCond .lt 21, 3) := by decide +kernel
theorem dX5_hasGood_4 : decode cX5_hasGood 4 = .ok (.iload_n 1, 1) := by decide +kernel
theorem dX5_hasGood_5 : decode cX5_hasGood 5 = .ok (.aload_n 0, 1) := by decide +kernel
theorem dX5_hasGood_6 : decode cX5_hasGood 6 = .ok (.getfield 43, 3) := by decide +kernel
theorem dX5_hasGood_9 : decode cX5_hasGood 9 = .ok (.if_icmp .ge 13, 3) := by decide +kernel
theorem dX5_hasGood_12 : decode cX5_hasGood 12 = .ok (.iload_n 1, 1) := by decide +kernel
theorem dX5_hasGood_13 : decode cX5_hasGood 13 = .ok (.bipush 6, 2) := by decide +kernel
theorem dX5_hasGood_15 : decode cX5_hasGood 15 = .ok (.if_icmp .ge 7, 3) := by decide +kernel
theorem dX5_hasGood_18 : decode cX5_hasGood 18 = .ok (.iconst 1, 1) := by decide +kernel
theorem dX5_hasGood_19 : decode cX5_hasGood 19 = .ok (.goto 4, 3) := by decide +kernel
theorem dX5_hasGood_22 : decode cX5_hasGood 22 = .ok (.iconst 0, 1) := by decide +kernel
theorem dX5_hasGood_23 : decode cX5_hasGood 23 = .ok (.ireturn, 1) := by decide +kernel
set_option maxRecDepth 20000 in
theorem ggX5_hasRoomFor_X5_isTold : GoodIn wsX5_hasRoomFor wsX5_isTold := goodIn_r _ [8, 9, 10, 11, 12, 13, 14, 15, 16, 17, 18, 19, 20] (by decide +kernel) (by decide +kernel)
set_option maxRecDepth 20000 in
theorem gX5_hasRoomFor_X5_isTold : GoodIn wsX5_hasRoomFor (wsV RX5 46 RX5 yX5_isTold wsX5_isTold) := goodIn_app (goodIn_of _ (by decide +kernel)) ggX5_hasRoomFor_X5_isTold
theorem dX5_hasRoomFor_0 : decode cX5_hasRoomFor 0 = .ok (.iload_n 1, 1) := by decide +kernel
theorem dX5_hasRoomFor_1 : decode cX5_hasRoomFor 1 = .ok (.lookupswitch 100 #[(100, 56), (103, 85), (112, 70), (115, 43)], 43) := by decide +kernel
theorem dX5_hasRoomFor_44 : decode cX5_hasRoomFor 44 = .ok (.aload_n 0, 1) := by decide +kernel
theorem dX5_hasRoomFor_45 : decode cX5_hasRoomFor 45 = .ok (.invokevirtual 46, 3) := by decide +kernel
theorem dX5_hasRoomFor_48 : decode cX5_hasRoomFor 48 = .ok (.ifCond .ne 7, 3) := by decide +kernel
theorem dX5_hasRoomFor_51 : decode cX5_hasRoomFor 51 = .ok (.iconst 1, 1) := by decide +kernel
theorem dX5_hasRoomFor_52 : decode cX5_hasRoomFor 52 = .ok (.goto 4, 3) := by decide +kernel
theorem dX5_hasRoomFor_55 : decode cX5_hasRoomFor 55 = .ok (.iconst 0, 1) := by decide +kernel
theorem dX5_hasRoomFor_56 : decode cX5_hasRoomFor 56 = .ok (.ireturn, 1) := by decide +kernel
theorem dX5_hasRoomFor_57 : decode cX5_hasRoomFor 57 = .ok (.aload_n 0, 1) := by decide +kernel
theorem dX5_hasRoomFor_58 : decode cX5_hasRoomFor 58 = .ok (.getfield 37, 3) := by decide +kernel
theorem dX5_hasRoomFor_61 : decode cX5_hasRoomFor 61 = .ok (.iconst 4, 1) := by decide +kernel
theorem dX5_hasRoomFor_62 : decode cX5_hasRoomFor 62 = .ok (.if_icmp .ge 7, 3) := by decide +kernel
theorem dX5_hasRoomFor_65 : decode cX5_hasRoomFor 65 = .ok (.iconst 1, 1) := by decide +kernel
theorem dX5_hasRoomFor_66 : decode cX5_hasRoomFor 66 = .ok (.goto 4, 3) := by decide +kernel
theorem dX5_hasRoomFor_69 : decode cX5_hasRoomFor 69 = .ok (.iconst 0, 1) := by decide +kernel
theorem dX5_hasRoomFor_70 : decode cX5_hasRoomFor 70 = .ok (.ireturn, 1) := by decide +kernel
theorem dX5_hasRoomFor_71 : decode cX5_hasRoomFor 71 = .ok (.aload_n 0, 1) := by decide +kernel
theorem dX5_hasRoomFor_72 : decode cX5_hasRoomFor 72 = .ok (.getfield 40, 3) := by decide +kernel
theorem dX5_hasRoomFor_75 : decode cX5_hasRoomFor 75 = .ok (.bipush 7, 2) := by decide +kernel
theorem dX5_hasRoomFor_77 : decode cX5_hasRoomFor 77 = .ok (.if_icmp .ge 7, 3) := by decide +kernel
theorem dX5_hasRoomFor_80 : decode cX5_hasRoomFor 80 = .ok (.iconst 1, 1) := by decide +kernel
theorem dX5_hasRoomFor_81 : decode cX5_hasRoomFor 81 = .ok (.goto 4, 3) := by decide +kernel
theorem dX5_hasRoomFor_84 : decode cX5_hasRoomFor 84 = .ok (.iconst 0, 1) := by decide +kernel
theorem dX5_hasRoomFor_85 : decode cX5_hasRoomFor 85 = .ok (.ireturn, 1) := by decide +kernel
theorem dX5_hasRoomFor_86 : decode cX5_hasRoomFor 86 = .ok (.aload_n 0, 1) := by decide +kernel
theorem dX5_hasRoomFor_87 : decode cX5_hasRoomFor 87 = .ok (.getfield 43, 3) := by decide +kernel
theorem dX5_hasRoomFor_90 : decode cX5_hasRoomFor 90 = .ok (.bipush 6, 2) := by decide +kernel
theorem dX5_hasRoomFor_92 : decode cX5_hasRoomFor 92 = .ok (.if_icmp .ge 7, 3) := by decide +kernel
theorem dX5_hasRoomFor_95 : decode cX5_hasRoomFor 95 = .ok (.iconst 1, 1) := by decide +kernel
theorem dX5_hasRoomFor_96 : decode cX5_hasRoomFor 96 = .ok (.goto 4, 3) := by decide +kernel
theorem dX5_hasRoomFor_99 : decode cX5_hasRoomFor 99 = .ok (.iconst 0, 1) := by decide +kernel
theorem dX5_hasRoomFor_100 : decode cX5_hasRoomFor 100 = .ok (.ireturn, 1) := by decide +kernel
theorem dX5_hasRoomFor_101 : decode cX5_hasRoomFor 101 = .ok (.iconst 0, 1) := by decide +kernel
theorem dX5_hasRoomFor_102 : decode cX5_hasRoomFor 102 = .ok (.ireturn, 1) := by decide +kernel
set_option maxRecDepth 20000 in
theorem ggX5_add_X5_hasRoomFor : GoodIn wsX5_add wsX5_hasRoomFor := goodIn_r _ [16, 4, 6, 9, 17, 18, 19, 15, 20, 1, 21, 22, 23, 24, 25, 26, 27, 28, 29, 30, 31] (by decide +kernel) (by decide +kernel)
set_option maxRecDepth 20000 in
theorem gX5_add_X5_hasRoomFor : GoodIn wsX5_add (wsV RX5 50 RX5 yX5_hasRoomFor wsX5_hasRoomFor) := goodIn_app (goodIn_of _ (by decide +kernel)) ggX5_add_X5_hasRoomFor
theorem dX5_add_0 : decode cX5_add 0 = .ok (.aload_n 0, 1) := by decide +kernel
theorem dX5_add_1 : decode cX5_add 1 = .ok (.iload_n 1, 1) := by decide +kernel
theorem dX5_add_2 : decode cX5_add 2 = .ok (.invokevirtual 50, 3) := by decide +kernel
theorem dX5_add_5 : decode cX5_add 5 = .ok (.ifCond .ne 4, 3) := by decide +kernel
theorem dX5_add_8 : decode cX5_add 8 = .ok (.return_, 1) := by decide +kernel
theorem dX5_add_9 : decode cX5_add 9 = .ok (.iload_n 1, 1) := by decide +kernel
theorem dX5_add_10 : decode cX5_add 10 = .ok (.lookupswitch 103 #[(100, 47), (112, 70), (115, 34)], 34) := by decide +kernel
theorem dX5_add_44 : decode cX5_add 44 = .ok (.aload_n 0, 1) := by decide +kernel
theorem dX5_add_45 : decode cX5_add 45 = .ok (.iload_n 2, 1) := by decide +kernel
theorem dX5_add_46 : decode cX5_add 46 = .ok (.putfield 30, 3) := by decide +kernel
theorem dX5_add_49 : decode cX5_add 49 = .ok (.aload_n 0, 1) := by decide +kernel
theorem dX5_add_50 : decode cX5_add 50 = .ok (.iload_n 3, 1) := by decide +kernel
theorem dX5_add_51 : decode cX5_add 51 = .ok (.putfield 34, 3) := by decide +kernel
theorem dX5_add_54 : decode cX5_add 54 = .ok (.goto 100, 3) := by decide +kernel
theorem dX5_add_57 : decode cX5_add 57 = .ok (.aload_n 0, 1) := by decide +kernel
theorem dX5_add_58 : decode cX5_add 58 = .ok (.getfield 9, 3) := by decide +kernel
theorem dX5_add_61 : decode cX5_add 61 = .ok (.aload_n 0, 1) := by decide +kernel
theorem dX5_add_62 : decode cX5_add 62 = .ok (.getfield 37, 3) := by decide +kernel
theorem dX5_add_65 : decode cX5_add 65 = .ok (.iload_n 2, 1) := by decide +kernel
theorem dX5_add_66 : decode cX5_add 66 = .ok (.iastore, 1) := by decide +kernel
theorem dX5_add_67 : decode cX5_add 67 = .ok (.aload_n 0, 1) := by decide +kernel
theorem dX5_add_68 : decode cX5_add 68 = .ok (.dup, 1) := by decide +kernel
theorem dX5_add_69 : decode cX5_add 69 = .ok (.getfield 37, 3) := by decide +kernel
theorem dX5_add_72 : decode cX5_add 72 = .ok (.iconst 1, 1) := by decide +kernel
theorem dX5_add_73 : decode cX5_add 73 = .ok (.iadd, 1) := by decide +kernel
theorem dX5_add_74 : decode cX5_add 74 = .ok (.putfield 37, 3) := by decide +kernel
theorem dX5_add_77 : decode cX5_add 77 = .ok (.goto 77, 3) := by decide +kernel
theorem dX5_add_80 : decode cX5_add 80 = .ok (.aload_n 0, 1) := by decide +kernel
theorem dX5_add_81 : decode cX5_add 81 = .ok (.getfield 15, 3) := by decide +kernel
theorem dX5_add_84 : decode cX5_add 84 = .ok (.aload_n 0, 1) := by decide +kernel
theorem dX5_add_85 : decode cX5_add 85 = .ok (.getfield 40, 3) := by decide +kernel
theorem dX5_add_88 : decode cX5_add 88 = .ok (.iload_n 2, 1) := by decide +kernel
theorem dX5_add_89 : decode cX5_add 89 = .ok (.iastore, 1) := by decide +kernel
theorem dX5_add_90 : decode cX5_add 90 = .ok (.aload_n 0, 1) := by decide +kernel
theorem dX5_add_91 : decode cX5_add 91 = .ok (.getfield 18, 3) := by decide +kernel
theorem dX5_add_94 : decode cX5_add 94 = .ok (.aload_n 0, 1) := by decide +kernel
theorem dX5_add_95 : decode cX5_add 95 = .ok (.getfield 40, 3) := by decide +kernel
theorem dX5_add_98 : decode cX5_add 98 = .ok (.iload_n 3, 1) := by decide +kernel
theorem dX5_add_99 : decode cX5_add 99 = .ok (.iastore, 1) := by decide +kernel
theorem dX5_add_100 : decode cX5_add 100 = .ok (.aload_n 0, 1) := by decide +kernel
theorem dX5_add_101 : decode cX5_add 101 = .ok (.dup, 1) := by decide +kernel
theorem dX5_add_102 : decode cX5_add 102 = .ok (.getfield 40, 3) := by decide +kernel
theorem dX5_add_105 : decode cX5_add 105 = .ok (.iconst 1, 1) := by decide +kernel
theorem dX5_add_106 : decode cX5_add 106 = .ok (.iadd, 1) := by decide +kernel
theorem dX5_add_107 : decode cX5_add 107 = .ok (.putfield 40, 3) := by decide +kernel
theorem dX5_add_110 : decode cX5_add 110 = .ok (.goto 44, 3) := by decide +kernel
theorem dX5_add_113 : decode cX5_add 113 = .ok (.aload_n 0, 1) := by decide +kernel
theorem dX5_add_114 : decode cX5_add 114 = .ok (.getfield 21, 3) := by decide +kernel
theorem dX5_add_117 : decode cX5_add 117 = .ok (.aload_n 0, 1) := by decide +kernel
theorem dX5_add_118 : decode cX5_add 118 = .ok (.getfield 43, 3) := by decide +kernel
theorem dX5_add_121 : decode cX5_add 121 = .ok (.iload_n 2, 1) := by decide +kernel
theorem dX5_add_122 : decode cX5_add 122 = .ok (.iastore, 1) := by decide +kernel
theorem dX5_add_123 : decode cX5_add 123 = .ok (.aload_n 0, 1) := by decide +kernel
theorem dX5_add_124 : decode cX5_add 124 = .ok (.getfield 24, 3) := by decide +kernel
theorem dX5_add_127 : decode cX5_add 127 = .ok (.aload_n 0, 1) := by decide +kernel
theorem dX5_add_128 : decode cX5_add 128 = .ok (.getfield 43, 3) := by decide +kernel
theorem dX5_add_131 : decode cX5_add 131 = .ok (.iload_n 3, 1) := by decide +kernel
theorem dX5_add_132 : decode cX5_add 132 = .ok (.iastore, 1) := by decide +kernel
theorem dX5_add_133 : decode cX5_add 133 = .ok (.aload_n 0, 1) := by decide +kernel
theorem dX5_add_134 : decode cX5_add 134 = .ok (.getfield 27, 3) := by decide +kernel
theorem dX5_add_137 : decode cX5_add 137 = .ok (.aload_n 0, 1) := by decide +kernel
theorem dX5_add_138 : decode cX5_add 138 = .ok (.getfield 43, 3) := by decide +kernel
theorem dX5_add_141 : decode cX5_add 141 = .ok (.iload 4, 2) := by decide +kernel
theorem dX5_add_143 : decode cX5_add 143 = .ok (.iastore, 1) := by decide +kernel
theorem dX5_add_144 : decode cX5_add 144 = .ok (.aload_n 0, 1) := by decide +kernel
theorem dX5_add_145 : decode cX5_add 145 = .ok (.dup, 1) := by decide +kernel
theorem dX5_add_146 : decode cX5_add 146 = .ok (.getfield 43, 3) := by decide +kernel
theorem dX5_add_149 : decode cX5_add 149 = .ok (.iconst 1, 1) := by decide +kernel
theorem dX5_add_150 : decode cX5_add 150 = .ok (.iadd, 1) := by decide +kernel
theorem dX5_add_151 : decode cX5_add 151 = .ok (.putfield 43, 3) := by decide +kernel
theorem dX5_add_154 : decode cX5_add 154 = .ok (.return_, 1) := by decide +kernel
theorem dX5_kingAt_0 : decode cX5_kingAt 0 = .ok (.aload_n 0, 1) := by decide +kernel
theorem dX5_kingAt_1 : decode cX5_kingAt 1 = .ok (.getfield 34, 3) := by decide +kernel
theorem dX5_kingAt_4 : decode cX5_kingAt 4 = .ok (.ifCond .le 12, 3) := by decide +kernel
theorem dX5_kingAt_7 : decode cX5_kingAt 7 = .ok (.iload_n 1, 1) := by decide +kernel
theorem dX5_kingAt_8 : decode cX5_kingAt 8 = .ok (.aload_n 0, 1) := by decide +kernel
theorem dX5_kingAt_9 : decode cX5_kingAt 9 = .ok (.getfield 34, 3) := by decide +kernel
theorem dX5_kingAt_12 : decode cX5_kingAt 12 = .ok (.idiv, 1) := by decide +kernel
theorem dX5_kingAt_13 : decode cX5_kingAt 13 = .ok (.goto 4, 3) := by decide +kernel
theorem dX5_kingAt_16 : decode cX5_kingAt 16 = .ok (.iconst 0, 1) := by decide +kernel
theorem dX5_kingAt_17 : decode cX5_kingAt 17 = .ok (.ireturn, 1) := by decide +kernel
set_option maxRecDepth 20000 in
theorem ggX5_daysIn_X5_hasDepth : GoodIn wsX5_daysIn wsX5_hasDepth := goodIn_r _ [6, 7, 8, 9, 10, 11, 12, 13, 14, 15, 16, 17, 18] (by decide +kernel) (by decide +kernel)
set_option maxRecDepth 20000 in
theorem gX5_daysIn_X5_hasDepth : GoodIn wsX5_daysIn (wsV RX5 54 RX5 yX5_hasDepth wsX5_hasDepth) := goodIn_app (goodIn_of _ (by decide +kernel)) ggX5_daysIn_X5_hasDepth
theorem dX5_daysIn_0 : decode cX5_daysIn 0 = .ok (.aload_n 0, 1) := by decide +kernel
theorem dX5_daysIn_1 : decode cX5_daysIn 1 = .ok (.iload_n 1, 1) := by decide +kernel
theorem dX5_daysIn_2 : decode cX5_daysIn 2 = .ok (.invokevirtual 54, 3) := by decide +kernel
theorem dX5_daysIn_5 : decode cX5_daysIn 5 = .ok (.ifCond .eq 23, 3) := by decide +kernel
theorem dX5_daysIn_8 : decode cX5_daysIn 8 = .ok (.aload_n 0, 1) := by decide +kernel
theorem dX5_daysIn_9 : decode cX5_daysIn 9 = .ok (.getfield 9, 3) := by decide +kernel
theorem dX5_daysIn_12 : decode cX5_daysIn 12 = .ok (.iload_n 1, 1) := by decide +kernel
theorem dX5_daysIn_13 : decode cX5_daysIn 13 = .ok (.iaload, 1) := by decide +kernel
theorem dX5_daysIn_14 : decode cX5_daysIn 14 = .ok (.ifCond .le 14, 3) := by decide +kernel
theorem dX5_daysIn_17 : decode cX5_daysIn 17 = .ok (.iload_n 2, 1) := by decide +kernel
theorem dX5_daysIn_18 : decode cX5_daysIn 18 = .ok (.aload_n 0, 1) := by decide +kernel
theorem dX5_daysIn_19 : decode cX5_daysIn 19 = .ok (.getfield 9, 3) := by decide +kernel
theorem dX5_daysIn_22 : decode cX5_daysIn 22 = .ok (.iload_n 1, 1) := by decide +kernel
theorem dX5_daysIn_23 : decode cX5_daysIn 23 = .ok (.iaload, 1) := by decide +kernel
theorem dX5_daysIn_24 : decode cX5_daysIn 24 = .ok (.idiv, 1) := by decide +kernel
theorem dX5_daysIn_25 : decode cX5_daysIn 25 = .ok (.goto 4, 3) := by decide +kernel
theorem dX5_daysIn_28 : decode cX5_daysIn 28 = .ok (.iconst 0, 1) := by decide +kernel
theorem dX5_daysIn_29 : decode cX5_daysIn 29 = .ok (.ireturn, 1) := by decide +kernel
set_option maxRecDepth 20000 in
theorem ggX5_worthNextYear_X5_hasGood : GoodIn wsX5_worthNextYear wsX5_hasGood := goodIn_r _ [7, 8, 9, 10, 11, 12, 13, 14, 15, 16, 17, 18, 19] (by decide +kernel) (by decide +kernel)
set_option maxRecDepth 20000 in
theorem gX5_worthNextYear_X5_hasGood : GoodIn wsX5_worthNextYear (wsV RX5 57 RX5 yX5_hasGood wsX5_hasGood) := goodIn_app (goodIn_of _ (by decide +kernel)) ggX5_worthNextYear_X5_hasGood
theorem dX5_worthNextYear_0 : decode cX5_worthNextYear 0 = .ok (.aload_n 0, 1) := by decide +kernel
theorem dX5_worthNextYear_1 : decode cX5_worthNextYear 1 = .ok (.iload_n 1, 1) := by decide +kernel
theorem dX5_worthNextYear_2 : decode cX5_worthNextYear 2 = .ok (.invokevirtual 57, 3) := by decide +kernel
theorem dX5_worthNextYear_5 : decode cX5_worthNextYear 5 = .ok (.ifCond .ne 5, 3) := by decide +kernel
theorem dX5_worthNextYear_8 : decode cX5_worthNextYear 8 = .ok (.iload_n 2, 1) := by decide +kernel
theorem dX5_worthNextYear_9 : decode cX5_worthNextYear 9 = .ok (.ireturn, 1) := by decide +kernel
theorem dX5_worthNextYear_10 : decode cX5_worthNextYear 10 = .ok (.aload_n 0, 1) := by decide +kernel
theorem dX5_worthNextYear_11 : decode cX5_worthNextYear 11 = .ok (.getfield 24, 3) := by decide +kernel
theorem dX5_worthNextYear_14 : decode cX5_worthNextYear 14 = .ok (.iload_n 1, 1) := by decide +kernel
theorem dX5_worthNextYear_15 : decode cX5_worthNextYear 15 = .ok (.iaload, 1) := by decide +kernel
theorem dX5_worthNextYear_16 : decode cX5_worthNextYear 16 = .ok (.bipush 50, 2) := by decide +kernel
theorem dX5_worthNextYear_18 : decode cX5_worthNextYear 18 = .ok (.if_icmp .le 20, 3) := by decide +kernel
theorem dX5_worthNextYear_21 : decode cX5_worthNextYear 21 = .ok (.iload_n 2, 1) := by decide +kernel
theorem dX5_worthNextYear_22 : decode cX5_worthNextYear 22 = .ok (.iload_n 2, 1) := by decide +kernel
theorem dX5_worthNextYear_23 : decode cX5_worthNextYear 23 = .ok (.aload_n 0, 1) := by decide +kernel
theorem dX5_worthNextYear_24 : decode cX5_worthNextYear 24 = .ok (.getfield 24, 3) := by decide +kernel
theorem dX5_worthNextYear_27 : decode cX5_worthNextYear 27 = .ok (.iload_n 1, 1) := by decide +kernel
theorem dX5_worthNextYear_28 : decode cX5_worthNextYear 28 = .ok (.iaload, 1) := by decide +kernel
theorem dX5_worthNextYear_29 : decode cX5_worthNextYear 29 = .ok (.bipush 50, 2) := by decide +kernel
theorem dX5_worthNextYear_31 : decode cX5_worthNextYear 31 = .ok (.isub, 1) := by decide +kernel
theorem dX5_worthNextYear_32 : decode cX5_worthNextYear 32 = .ok (.imul, 1) := by decide +kernel
theorem dX5_worthNextYear_33 : decode cX5_worthNextYear 33 = .ok (.bipush 100, 2) := by decide +kernel
theorem dX5_worthNextYear_35 : decode cX5_worthNextYear 35 = .ok (.idiv, 1) := by decide +kernel
theorem dX5_worthNextYear_36 : decode cX5_worthNextYear 36 = .ok (.isub, 1) := by decide +kernel
theorem dX5_worthNextYear_37 : decode cX5_worthNextYear 37 = .ok (.ireturn, 1) := by decide +kernel
theorem dX5_worthNextYear_38 : decode cX5_worthNextYear 38 = .ok (.iload_n 2, 1) := by decide +kernel
theorem dX5_worthNextYear_39 : decode cX5_worthNextYear 39 = .ok (.iload_n 2, 1) := by decide +kernel
theorem dX5_worthNextYear_40 : decode cX5_worthNextYear 40 = .ok (.aload_n 0, 1) := by decide +kernel
theorem dX5_worthNextYear_41 : decode cX5_worthNextYear 41 = .ok (.getfield 24, 3) := by decide +kernel
theorem dX5_worthNextYear_44 : decode cX5_worthNextYear 44 = .ok (.iload_n 1, 1) := by decide +kernel
theorem dX5_worthNextYear_45 : decode cX5_worthNextYear 45 = .ok (.iaload, 1) := by decide +kernel
theorem dX5_worthNextYear_46 : decode cX5_worthNextYear 46 = .ok (.imul, 1) := by decide +kernel
theorem dX5_worthNextYear_47 : decode cX5_worthNextYear 47 = .ok (.bipush 100, 2) := by decide +kernel
theorem dX5_worthNextYear_49 : decode cX5_worthNextYear 49 = .ok (.idiv, 1) := by decide +kernel
theorem dX5_worthNextYear_50 : decode cX5_worthNextYear 50 = .ok (.iadd, 1) := by decide +kernel
theorem dX5_worthNextYear_51 : decode cX5_worthNextYear 51 = .ok (.istore_n 3, 1) := by decide +kernel
theorem dX5_worthNextYear_52 : decode cX5_worthNextYear 52 = .ok (.iload_n 3, 1) := by decide +kernel
theorem dX5_worthNextYear_53 : decode cX5_worthNextYear 53 = .ok (.aload_n 0, 1) := by decide +kernel
theorem dX5_worthNextYear_54 : decode cX5_worthNextYear 54 = .ok (.getfield 27, 3) := by decide +kernel
theorem dX5_worthNextYear_57 : decode cX5_worthNextYear 57 = .ok (.iload_n 1, 1) := by decide +kernel
theorem dX5_worthNextYear_58 : decode cX5_worthNextYear 58 = .ok (.iaload, 1) := by decide +kernel
theorem dX5_worthNextYear_59 : decode cX5_worthNextYear 59 = .ok (.if_icmp .gt 7, 3) := by decide +kernel
theorem dX5_worthNextYear_62 : decode cX5_worthNextYear 62 = .ok (.iload_n 3, 1) := by decide +kernel
theorem dX5_worthNextYear_63 : decode cX5_worthNextYear 63 = .ok (.goto 4, 3) := by decide +kernel
theorem dX5_worthNextYear_66 : decode cX5_worthNextYear 66 = .ok (.iload_n 2, 1) := by decide +kernel
theorem dX5_worthNextYear_67 : decode cX5_worthNextYear 67 = .ok (.ireturn, 1) := by decide +kernel
set_option maxRecDepth 20000 in
theorem ggX5_worthBehind_X5_worthNextYear : GoodIn wsX5_worthBehind wsX5_worthNextYear := goodIn_r _ [5, 6, 7, 8, 9, 10, 4, 11, 12, 13, 14, 15, 16, 17, 18, 19, 20, 21, 22, 23] (by decide +kernel) (by decide +kernel)
set_option maxRecDepth 20000 in
theorem gX5_worthBehind_X5_worthNextYear : GoodIn wsX5_worthBehind (wsV RX5 60 RX5 yX5_worthNextYear wsX5_worthNextYear) := goodIn_app (goodIn_of _ (by decide +kernel)) ggX5_worthBehind_X5_worthNextYear
theorem dX5_worthBehind_0 : decode cX5_worthBehind 0 = .ok (.iload_n 2, 1) := by decide +kernel
theorem dX5_worthBehind_1 : decode cX5_worthBehind 1 = .ok (.istore 4, 2) := by decide +kernel
theorem dX5_worthBehind_3 : decode cX5_worthBehind 3 = .ok (.iconst 0, 1) := by decide +kernel
theorem dX5_worthBehind_4 : decode cX5_worthBehind 4 = .ok (.istore 5, 2) := by decide +kernel
theorem dX5_worthBehind_6 : decode cX5_worthBehind 6 = .ok (.iload 5, 2) := by decide +kernel
theorem dX5_worthBehind_8 : decode cX5_worthBehind 8 = .ok (.iload_n 3, 1) := by decide +kernel
theorem dX5_worthBehind_9 : decode cX5_worthBehind 9 = .ok (.if_icmp .ge 32, 3) := by decide +kernel
theorem dX5_worthBehind_12 : decode cX5_worthBehind 12 = .ok (.aload_n 0, 1) := by decide +kernel
theorem dX5_worthBehind_13 : decode cX5_worthBehind 13 = .ok (.iload_n 1, 1) := by decide +kernel
theorem dX5_worthBehind_14 : decode cX5_worthBehind 14 = .ok (.iload 4, 2) := by decide +kernel
theorem dX5_worthBehind_16 : decode cX5_worthBehind 16 = .ok (.invokevirtual 60, 3) := by decide +kernel
theorem dX5_worthBehind_19 : decode cX5_worthBehind 19 = .ok (.istore 6, 2) := by decide +kernel
theorem dX5_worthBehind_21 : decode cX5_worthBehind 21 = .ok (.iload 6, 2) := by decide +kernel
theorem dX5_worthBehind_23 : decode cX5_worthBehind 23 = .ok (.iload 4, 2) := by decide +kernel
theorem dX5_worthBehind_25 : decode cX5_worthBehind 25 = .ok (.if_icmp .ne 6, 3) := by decide +kernel
theorem dX5_worthBehind_28 : decode cX5_worthBehind 28 = .ok (.iload 4, 2) := by decide +kernel
theorem dX5_worthBehind_30 : decode cX5_worthBehind 30 = .ok (.ireturn, 1) := by decide +kernel
theorem dX5_worthBehind_31 : decode cX5_worthBehind 31 = .ok (.iload 6, 2) := by decide +kernel
theorem dX5_worthBehind_33 : decode cX5_worthBehind 33 = .ok (.istore 4, 2) := by decide +kernel
theorem dX5_worthBehind_35 : decode cX5_worthBehind 35 = .ok (.iinc 5 1, 3) := by decide +kernel
theorem dX5_worthBehind_38 : decode cX5_worthBehind 38 = .ok (.goto (-32), 3) := by decide +kernel
theorem dX5_worthBehind_41 : decode cX5_worthBehind 41 = .ok (.iload 4, 2) := by decide +kernel
theorem dX5_worthBehind_43 : decode cX5_worthBehind 43 = .ok (.ireturn, 1) := by decide +kernel
theorem dX6_init_0 : decode cX6_init 0 = .ok (.aload_n 0, 1) := by decide +kernel
theorem dX6_init_1 : decode cX6_init 1 = .ok (.invokespecial 3, 3) := by decide +kernel
theorem dX6_init_4 : decode cX6_init 4 = .ok (.aload_n 0, 1) := by decide +kernel
theorem dX6_init_5 : decode cX6_init 5 = .ok (.sipush 240, 3) := by decide +kernel
theorem dX6_init_8 : decode cX6_init 8 = .ok (.newarray .int, 2) := by decide +kernel
theorem dX6_init_10 : decode cX6_init 10 = .ok (.putfield 9, 3) := by decide +kernel
theorem dX6_init_13 : decode cX6_init 13 = .ok (.aload_n 0, 1) := by decide +kernel
theorem dX6_init_14 : decode cX6_init 14 = .ok (.iconst 3, 1) := by decide +kernel
theorem dX6_init_15 : decode cX6_init 15 = .ok (.newarray .int, 2) := by decide +kernel
theorem dX6_init_17 : decode cX6_init 17 = .ok (.putfield 15, 3) := by decide +kernel
theorem dX6_init_20 : decode cX6_init 20 = .ok (.aload_n 0, 1) := by decide +kernel
theorem dX6_init_21 : decode cX6_init 21 = .ok (.iconst (-1), 1) := by decide +kernel
theorem dX6_init_22 : decode cX6_init 22 = .ok (.putfield 18, 3) := by decide +kernel
theorem dX6_init_25 : decode cX6_init 25 = .ok (.return_, 1) := by decide +kernel
theorem dX6_add_0 : decode cX6_add 0 = .ok (.aload_n 0, 1) := by decide +kernel
theorem dX6_add_1 : decode cX6_add 1 = .ok (.getfield 22, 3) := by decide +kernel
theorem dX6_add_4 : decode cX6_add 4 = .ok (.sipush 240, 3) := by decide +kernel
theorem dX6_add_7 : decode cX6_add 7 = .ok (.if_icmp .ge 23, 3) := by decide +kernel
theorem dX6_add_10 : decode cX6_add 10 = .ok (.aload_n 0, 1) := by decide +kernel
theorem dX6_add_11 : decode cX6_add 11 = .ok (.getfield 9, 3) := by decide +kernel
theorem dX6_add_14 : decode cX6_add 14 = .ok (.aload_n 0, 1) := by decide +kernel
theorem dX6_add_15 : decode cX6_add 15 = .ok (.getfield 22, 3) := by decide +kernel
theorem dX6_add_18 : decode cX6_add 18 = .ok (.iload_n 1, 1) := by decide +kernel
theorem dX6_add_19 : decode cX6_add 19 = .ok (.iastore, 1) := by decide +kernel
theorem dX6_add_20 : decode cX6_add 20 = .ok (.aload_n 0, 1) := by decide +kernel
theorem dX6_add_21 : decode cX6_add 21 = .ok (.dup, 1) := by decide +kernel
theorem dX6_add_22 : decode cX6_add 22 = .ok (.getfield 22, 3) := by decide +kernel
theorem dX6_add_25 : decode cX6_add 25 = .ok (.iconst 1, 1) := by decide +kernel
theorem dX6_add_26 : decode cX6_add 26 = .ok (.iadd, 1) := by decide +kernel
theorem dX6_add_27 : decode cX6_add 27 = .ok (.putfield 22, 3) := by decide +kernel
theorem dX6_add_30 : decode cX6_add 30 = .ok (.return_, 1) := by decide +kernel
theorem dX6_empty_0 : decode cX6_empty 0 = .ok (.aload_n 0, 1) := by decide +kernel
theorem dX6_empty_1 : decode cX6_empty 1 = .ok (.iconst 0, 1) := by decide +kernel
theorem dX6_empty_2 : decode cX6_empty 2 = .ok (.putfield 22, 3) := by decide +kernel
theorem dX6_empty_5 : decode cX6_empty 5 = .ok (.return_, 1) := by decide +kernel
set_option maxRecDepth 20000 in
theorem ggX6_readInto_X5_empty : GoodIn wsX6_readInto wsX5_empty := goodIn_r _ [8, 9, 10, 11, 12, 13, 169, 170, 171, 172, 173, 174, 175, 176, 177, 178, 179] (by decide +kernel) (by decide +kernel)
set_option maxRecDepth 20000 in
theorem gX6_readInto_X5_empty : GoodIn wsX6_readInto (wsV RX6 31 RX5 yX5_empty wsX5_empty) := goodIn_app (goodIn_of _ (by decide +kernel)) ggX6_readInto_X5_empty
set_option maxRecDepth 20000 in
theorem ggX6_readInto_X6_readClauses : GoodIn wsX6_readInto wsX6_readClauses := goodIn_r _ [18, 2, 19, 20, 21, 17, 22, 1, 23, 24, 25, 26, 27, 28, 29, 30, 31, 32, 33, 34, 35, 36, 37, 38, 39, 40, 41, 42, 43, 44, 45, 46, 47, 48, 49, 50, 51, 52, 53, 54, 55, 56, 57, 58, 59, 60, 61, 62, 63, 64, 65, 66, 67, 68, 69, 70, 71, 72, 73, 74, 75, 76, 77, 78, 79, 80, 81, 82, 83, 84, 85, 86, 87, 88, 89, 90, 91, 92, 93, 94, 95, 96, 97, 98, 99, 100, 101, 102, 103, 104, 105, 106, 107, 108, 109, 110, 111, 112, 113, 114, 115, 116, 117, 118, 119, 120, 121, 122, 123, 124, 125, 126, 127, 7, 128, 9, 129, 130, 131, 132, 3, 133, 134, 135, 136, 11, 12, 13, 137, 138, 139, 140, 141, 142, 143, 144, 145, 146, 147, 148, 149, 150, 151, 152, 153, 154, 155, 10, 156, 157, 158, 159, 160, 161, 162, 163, 164, 165, 166, 167, 168, 169, 170, 171, 172, 173, 174, 175, 176, 177, 178, 179] (by decide +kernel) (by decide +kernel)
set_option maxRecDepth 20000 in
theorem gX6_readInto_X6_readClauses : GoodIn wsX6_readInto (wsV RX6 36 RX6 yX6_readClauses wsX6_readClauses) := goodIn_app (goodIn_of _ (by decide +kernel)) ggX6_readInto_X6_readClauses
theorem dX6_readInto_0 : decode cX6_readInto 0 = .ok (.aload_n 0, 1) := by decide +kernel
theorem dX6_readInto_1 : decode cX6_readInto 1 = .ok (.iconst 0, 1) := by decide +kernel
theorem dX6_readInto_2 : decode cX6_readInto 2 = .ok (.putfield 25, 3) := by decide +kernel
theorem dX6_readInto_5 : decode cX6_readInto 5 = .ok (.aload_n 0, 1) := by decide +kernel
theorem dX6_readInto_6 : decode cX6_readInto 6 = .ok (.iconst 0, 1) := by decide +kernel
theorem dX6_readInto_7 : decode cX6_readInto 7 = .ok (.putfield 28, 3) := by decide +kernel
theorem dX6_readInto_10 : decode cX6_readInto 10 = .ok (.aload_n 0, 1) := by decide +kernel
theorem dX6_readInto_11 : decode cX6_readInto 11 = .ok (.iconst (-1), 1) := by decide +kernel
theorem dX6_readInto_12 : decode cX6_readInto 12 = .ok (.putfield 18, 3) := by decide +kernel
theorem dX6_readInto_15 : decode cX6_readInto 15 = .ok (.aload_n 1, 1) := by decide +kernel
theorem dX6_readInto_16 : decode cX6_readInto 16 = .ok (.invokevirtual 31, 3) := by decide +kernel
theorem dX6_readInto_19 : decode cX6_readInto 19 = .ok (.aload_n 0, 1) := by decide +kernel
theorem dX6_readInto_20 : decode cX6_readInto 20 = .ok (.aload_n 1, 1) := by decide +kernel
theorem dX6_readInto_21 : decode cX6_readInto 21 = .ok (.invokevirtual 36, 3) := by decide +kernel
theorem dX6_readInto_24 : decode cX6_readInto 24 = .ok (.return_, 1) := by decide +kernel
set_option maxRecDepth 20000 in
theorem ggX6_readClauses_X6_skipBlanks : GoodIn wsX6_readClauses wsX6_skipBlanks := goodIn_r _ [6, 7, 8, 9, 10, 5, 11, 12, 13, 155, 156, 157, 158, 159, 160] (by decide +kernel) (by decide +kernel)
set_option maxRecDepth 20000 in
theorem gX6_readClauses_X6_skipBlanks : GoodIn wsX6_readClauses (wsV RX6 40 RX6 yX6_skipBlanks wsX6_skipBlanks) := goodIn_app (goodIn_of _ (by decide +kernel)) ggX6_readClauses_X6_skipBlanks
set_option maxRecDepth 20000 in
theorem ggX6_readClauses_X6_here : GoodIn wsX6_readClauses wsX6_here := goodIn_r _ [11, 7, 12, 13, 155, 156, 157, 158, 159, 160] (by decide +kernel) (by decide +kernel)
set_option maxRecDepth 20000 in
theorem gX6_readClauses_X6_here : GoodIn wsX6_readClauses (wsV RX6 43 RX6 yX6_here wsX6_here) := goodIn_app (goodIn_of _ (by decide +kernel)) ggX6_readClauses_X6_here
set_option maxRecDepth 20000 in
theorem ggX6_readClauses_X6_readClause : GoodIn wsX6_readClauses wsX6_readClause := goodIn_r _ [17, 7, 18, 1, 19, 20, 8, 9, 10, 5, 11, 12, 13, 21, 22, 23, 24, 25, 26, 27, 28, 29, 30, 31, 32, 33, 34, 35, 36, 37, 38, 39, 40, 41, 42, 43, 44, 45, 46, 47, 48, 49, 50, 51, 52, 53, 54, 55, 56, 57, 58, 59, 60, 61, 62, 63, 64, 65, 66, 67, 68, 69, 70, 71, 72, 73, 74, 75, 76, 77, 78, 79, 80, 81, 82, 83, 84, 85, 86, 87, 88, 89, 90, 91, 92, 93, 94, 95, 96, 97, 98, 99, 100, 101, 102, 103, 104, 105, 106, 107, 108, 109, 110, 111, 112, 113, 114, 115, 116, 117, 118, 119, 120, 121, 122, 123, 124, 125, 126, 127, 128, 129, 130, 131, 132, 133, 134, 2, 3, 4, 6, 135, 136, 137, 138, 139, 140, 141, 142, 143, 144, 145, 146, 147, 148, 149, 150, 151, 152, 153, 154, 155, 156, 157, 158, 159, 160, 161, 162, 163, 164, 165, 166, 167, 168, 169, 170, 171] (by decide +kernel) (by decide +kernel)
set_option maxRecDepth 20000 in
theorem gX6_readClauses_X6_readClause : GoodIn wsX6_readClauses (wsV RX6 47 RX6 yX6_readClause wsX6_readClause) := goodIn_app (goodIn_of _ (by decide +kernel)) ggX6_readClauses_X6_readClause
theorem dX6_readClauses_0 : decode cX6_readClauses 0 = .ok (.iconst 0, 1) := by decide +kernel
theorem dX6_readClauses_1 : decode cX6_readClauses 1 = .ok (.istore_n 2, 1) := by decide +kernel
theorem dX6_readClauses_2 : decode cX6_readClauses 2 = .ok (.iload_n 2, 1) := by decide +kernel
theorem dX6_readClauses_3 : decode cX6_readClauses 3 = .ok (.sipush 240, 3) := by decide +kernel
theorem dX6_readClauses_6 : decode cX6_readClauses 6 = .ok (.if_icmp .gt 34, 3) := by decide +kernel
theorem dX6_readClauses_9 : decode cX6_readClauses 9 = .ok (.aload_n 0, 1) := by decide +kernel
theorem dX6_readClauses_10 : decode cX6_readClauses 10 = .ok (.getfield 28, 3) := by decide +kernel
theorem dX6_readClauses_13 : decode cX6_readClauses 13 = .ok (.ifCond .ne 27, 3) := by decide +kernel
theorem dX6_readClauses_16 : decode cX6_readClauses 16 = .ok (.aload_n 0, 1) := by decide +kernel
theorem dX6_readClauses_17 : decode cX6_readClauses 17 = .ok (.invokevirtual 40, 3) := by decide +kernel
theorem dX6_readClauses_20 : decode cX6_readClauses 20 = .ok (.aload_n 0, 1) := by decide +kernel
theorem dX6_readClauses_21 : decode cX6_readClauses 21 = .ok (.invokevirtual 43, 3) := by decide +kernel
theorem dX6_readClauses_24 : decode cX6_readClauses 24 = .ok (.iconst (-1), 1) := by decide +kernel
theorem dX6_readClauses_25 : decode cX6_readClauses 25 = .ok (.if_icmp .ne 4, 3) := by decide +kernel
theorem dX6_readClauses_28 : decode cX6_readClauses 28 = .ok (.return_, 1) := by decide +kernel
theorem dX6_readClauses_29 : decode cX6_readClauses 29 = .ok (.aload_n 0, 1) := by decide +kernel
theorem dX6_readClauses_30 : decode cX6_readClauses 30 = .ok (.aload_n 1, 1) := by decide +kernel
theorem dX6_readClauses_31 : decode cX6_readClauses 31 = .ok (.invokevirtual 47, 3) := by decide +kernel
theorem dX6_readClauses_34 : decode cX6_readClauses 34 = .ok (.iinc 2 1, 3) := by decide +kernel
theorem dX6_readClauses_37 : decode cX6_readClauses 37 = .ok (.goto (-35), 3) := by decide +kernel
theorem dX6_readClauses_40 : decode cX6_readClauses 40 = .ok (.return_, 1) := by decide +kernel
set_option maxRecDepth 20000 in
theorem ggX6_readClause_X6_here : GoodIn wsX6_readClause wsX6_here := goodIn_r _ [10, 1, 11, 12, 151, 152, 153, 154, 155, 156] (by decide +kernel) (by decide +kernel)
set_option maxRecDepth 20000 in
theorem gX6_readClause_X6_here : GoodIn wsX6_readClause (wsV RX6 43 RX6 yX6_here wsX6_here) := goodIn_app (goodIn_of _ (by decide +kernel)) ggX6_readClause_X6_here
set_option maxRecDepth 20000 in
theorem ggX6_readClause_J0_indexOf_0f7a4 : GoodIn wsX6_readClause wsJ0_indexOf_0f7a4 := goodIn_r _ [17, 18, 19, 20, 16, 21, 22, 23, 24, 25, 26, 27, 28, 29, 30, 31, 32, 33, 34, 35, 36, 37, 38, 39, 40, 41, 42, 43, 44, 45, 46, 47, 48, 49, 50, 51, 52, 53, 54, 55, 56, 57, 58, 59, 60, 61, 62, 63, 64, 65, 66, 67, 68, 69, 70, 71, 72, 73, 74, 75, 76, 77, 78, 79, 80, 81, 82, 83, 84, 85, 86, 87, 88, 89, 90, 91, 92, 93, 94, 95, 96, 97, 98, 99, 100, 101] (by decide +kernel) (by decide +kernel)
set_option maxRecDepth 20000 in
theorem gX6_readClause_J0_indexOf_0f7a4 : GoodIn wsX6_readClause (wsV RX6 52 RJ0 yJ0_indexOf_0f7a4 wsJ0_indexOf_0f7a4) := goodIn_app (goodIn_of _ (by decide +kernel)) ggX6_readClause_J0_indexOf_0f7a4
set_option maxRecDepth 20000 in
theorem ggX6_readClause_X5_isTold : GoodIn wsX6_readClause wsX5_isTold := goodIn_r _ [106, 107, 157, 158, 159, 160, 161, 162, 163, 164, 165, 166, 167] (by decide +kernel) (by decide +kernel)
set_option maxRecDepth 20000 in
theorem gX6_readClause_X5_isTold : GoodIn wsX6_readClause (wsV RX6 58 RX5 yX5_isTold wsX5_isTold) := goodIn_app (goodIn_of _ (by decide +kernel)) ggX6_readClause_X5_isTold
set_option maxRecDepth 20000 in
theorem ggX6_readClause_X6_blame : GoodIn wsX6_readClause wsX6_blame := goodIn_r _ [111, 3, 112, 151, 152, 153, 154, 155, 156] (by decide +kernel) (by decide +kernel)
set_option maxRecDepth 20000 in
theorem gX6_readClause_X6_blame : GoodIn wsX6_readClause (wsV RX6 62 RX6 yX6_blame wsX6_blame) := goodIn_app (goodIn_of _ (by decide +kernel)) ggX6_readClause_X6_blame
set_option maxRecDepth 20000 in
theorem ggX6_readClause_X5_hasRoomFor : GoodIn wsX6_readClause wsX5_hasRoomFor := goodIn_r _ [116, 117, 118, 119, 120, 103, 104, 105, 106, 107, 157, 158, 159, 160, 161, 162, 163, 164, 165, 166, 167] (by decide +kernel) (by decide +kernel)
set_option maxRecDepth 20000 in
theorem gX6_readClause_X5_hasRoomFor : GoodIn wsX6_readClause (wsV RX6 66 RX5 yX5_hasRoomFor wsX5_hasRoomFor) := goodIn_app (goodIn_of _ (by decide +kernel)) ggX6_readClause_X5_hasRoomFor
set_option maxRecDepth 20000 in
theorem ggX6_readClause_X6_readNumber : GoodIn wsX6_readClause wsX6_readNumber := goodIn_r _ [124, 1, 125, 126, 5, 127, 128, 129, 9, 130, 6, 7, 8, 10, 11, 12, 131, 132, 133, 134, 108, 109, 110, 111, 3, 112, 151, 152, 153, 154, 155, 156] (by decide +kernel) (by decide +kernel)
set_option maxRecDepth 20000 in
theorem gX6_readClause_X6_readNumber : GoodIn wsX6_readClause (wsV RX6 76 RX6 yX6_readNumber wsX6_readNumber) := goodIn_app (goodIn_of _ (by decide +kernel)) ggX6_readClause_X6_readNumber
set_option maxRecDepth 20000 in
theorem ggX6_readClause_X6_readSemicolon : GoodIn wsX6_readClause wsX6_readSemicolon := goodIn_r _ [138, 1, 127, 128, 129, 9, 130, 6, 7, 8, 10, 11, 12, 108, 109, 110, 111, 3, 112, 151, 152, 153, 154, 155, 156] (by decide +kernel) (by decide +kernel)
set_option maxRecDepth 20000 in
theorem gX6_readClause_X6_readSemicolon : GoodIn wsX6_readClause (wsV RX6 79 RX6 yX6_readSemicolon wsX6_readSemicolon) := goodIn_app (goodIn_of _ (by decide +kernel)) ggX6_readClause_X6_readSemicolon
set_option maxRecDepth 20000 in
theorem ggX6_readClause_X5_add : GoodIn wsX6_readClause wsX5_add := goodIn_r _ [142, 107, 143, 144, 117, 145, 118, 146, 147, 119, 148, 149, 150, 114, 115, 105, 116, 120, 103, 104, 106, 157, 158, 159, 160, 161, 162, 163, 164, 165, 166, 167] (by decide +kernel) (by decide +kernel)
set_option maxRecDepth 20000 in
theorem gX6_readClause_X5_add : GoodIn wsX6_readClause (wsV RX6 82 RX5 yX5_add wsX5_add) := goodIn_app (goodIn_of _ (by decide +kernel)) ggX6_readClause_X5_add
theorem dX6_readClause_0 : decode cX6_readClause 0 = .ok (.aload_n 0, 1) := by decide +kernel
theorem dX6_readClause_1 : decode cX6_readClause 1 = .ok (.invokevirtual 43, 3) := by decide +kernel
theorem dX6_readClause_4 : decode cX6_readClause 4 = .ok (.istore_n 2, 1) := by decide +kernel
theorem dX6_readClause_5 : decode cX6_readClause 5 = .ok (.ldc 50, 2) := by decide +kernel
theorem dX6_readClause_7 : decode cX6_readClause 7 = .ok (.iload_n 2, 1) := by decide +kernel
theorem dX6_readClause_8 : decode cX6_readClause 8 = .ok (.i2c, 1) := by decide +kernel
theorem dX6_readClause_9 : decode cX6_readClause 9 = .ok (.invokevirtual 52, 3) := by decide +kernel
theorem dX6_readClause_12 : decode cX6_readClause 12 = .ok (.istore_n 3, 1) := by decide +kernel
theorem dX6_readClause_13 : decode cX6_readClause 13 = .ok (.iload_n 3, 1) := by decide +kernel
theorem dX6_readClause_14 : decode cX6_readClause 14 = .ok (.ifCond .lt 14, 3) := by decide +kernel
theorem dX6_readClause_17 : decode cX6_readClause 17 = .ok (.aload_n 1, 1) := by decide +kernel
theorem dX6_readClause_18 : decode cX6_readClause 18 = .ok (.invokevirtual 58, 3) := by decide +kernel
theorem dX6_readClause_21 : decode cX6_readClause 21 = .ok (.ifCond .ne 17, 3) := by decide +kernel
theorem dX6_readClause_24 : decode cX6_readClause 24 = .ok (.iload_n 3, 1) := by decide +kernel
theorem dX6_readClause_25 : decode cX6_readClause 25 = .ok (.ifCond .eq 13, 3) := by decide +kernel
theorem dX6_readClause_28 : decode cX6_readClause 28 = .ok (.aload_n 0, 1) := by decide +kernel
theorem dX6_readClause_29 : decode cX6_readClause 29 = .ok (.iconst 1, 1) := by decide +kernel
theorem dX6_readClause_30 : decode cX6_readClause 30 = .ok (.aload_n 0, 1) := by decide +kernel
theorem dX6_readClause_31 : decode cX6_readClause 31 = .ok (.getfield 25, 3) := by decide +kernel
theorem dX6_readClause_34 : decode cX6_readClause 34 = .ok (.invokevirtual 62, 3) := by decide +kernel
theorem dX6_readClause_37 : decode cX6_readClause 37 = .ok (.return_, 1) := by decide +kernel
theorem dX6_readClause_38 : decode cX6_readClause 38 = .ok (.aload_n 1, 1) := by decide +kernel
theorem dX6_readClause_39 : decode cX6_readClause 39 = .ok (.iload_n 2, 1) := by decide +kernel
theorem dX6_readClause_40 : decode cX6_readClause 40 = .ok (.invokevirtual 66, 3) := by decide +kernel
theorem dX6_readClause_43 : decode cX6_readClause 43 = .ok (.ifCond .ne 13, 3) := by decide +kernel
theorem dX6_readClause_46 : decode cX6_readClause 46 = .ok (.aload_n 0, 1) := by decide +kernel
theorem dX6_readClause_47 : decode cX6_readClause 47 = .ok (.iconst 3, 1) := by decide +kernel
theorem dX6_readClause_48 : decode cX6_readClause 48 = .ok (.aload_n 0, 1) := by decide +kernel
theorem dX6_readClause_49 : decode cX6_readClause 49 = .ok (.getfield 25, 3) := by decide +kernel
theorem dX6_readClause_52 : decode cX6_readClause 52 = .ok (.invokevirtual 62, 3) := by decide +kernel
theorem dX6_readClause_55 : decode cX6_readClause 55 = .ok (.return_, 1) := by decide +kernel
theorem dX6_readClause_56 : decode cX6_readClause 56 = .ok (.aload_n 0, 1) := by decide +kernel
theorem dX6_readClause_57 : decode cX6_readClause 57 = .ok (.dup, 1) := by decide +kernel
theorem dX6_readClause_58 : decode cX6_readClause 58 = .ok (.getfield 25, 3) := by decide +kernel
theorem dX6_readClause_61 : decode cX6_readClause 61 = .ok (.iconst 1, 1) := by decide +kernel
theorem dX6_readClause_62 : decode cX6_readClause 62 = .ok (.iadd, 1) := by decide +kernel
theorem dX6_readClause_63 : decode cX6_readClause 63 = .ok (.putfield 25, 3) := by decide +kernel
theorem dX6_readClause_66 : decode cX6_readClause 66 = .ok (.iconst 0, 1) := by decide +kernel
theorem dX6_readClause_67 : decode cX6_readClause 67 = .ok (.istore 4, 2) := by decide +kernel
theorem dX6_readClause_69 : decode cX6_readClause 69 = .ok (.iload 4, 2) := by decide +kernel
theorem dX6_readClause_71 : decode cX6_readClause 71 = .ok (.getstatic 70, 3) := by decide +kernel
theorem dX6_readClause_74 : decode cX6_readClause 74 = .ok (.iload_n 3, 1) := by decide +kernel
theorem dX6_readClause_75 : decode cX6_readClause 75 = .ok (.iaload, 1) := by decide +kernel
theorem dX6_readClause_76 : decode cX6_readClause 76 = .ok (.if_icmp .ge 30, 3) := by decide +kernel
theorem dX6_readClause_79 : decode cX6_readClause 79 = .ok (.aload_n 0, 1) := by decide +kernel
theorem dX6_readClause_80 : decode cX6_readClause 80 = .ok (.getfield 28, 3) := by decide +kernel
theorem dX6_readClause_83 : decode cX6_readClause 83 = .ok (.ifCond .ne 23, 3) := by decide +kernel
theorem dX6_readClause_86 : decode cX6_readClause 86 = .ok (.aload_n 0, 1) := by decide +kernel
theorem dX6_readClause_87 : decode cX6_readClause 87 = .ok (.iload 4, 2) := by decide +kernel
theorem dX6_readClause_89 : decode cX6_readClause 89 = .ok (.getstatic 73, 3) := by decide +kernel
theorem dX6_readClause_92 : decode cX6_readClause 92 = .ok (.iload_n 3, 1) := by decide +kernel
theorem dX6_readClause_93 : decode cX6_readClause 93 = .ok (.iaload, 1) := by decide +kernel
theorem dX6_readClause_94 : decode cX6_readClause 94 = .ok (.iload 4, 2) := by decide +kernel
theorem dX6_readClause_96 : decode cX6_readClause 96 = .ok (.iadd, 1) := by decide +kernel
theorem dX6_readClause_97 : decode cX6_readClause 97 = .ok (.invokevirtual 76, 3) := by decide +kernel
theorem dX6_readClause_100 : decode cX6_readClause 100 = .ok (.iinc 4 1, 3) := by decide +kernel
theorem dX6_readClause_103 : decode cX6_readClause 103 = .ok (.goto (-34), 3) := by decide +kernel
theorem dX6_readClause_106 : decode cX6_readClause 106 = .ok (.aload_n 0, 1) := by decide +kernel
theorem dX6_readClause_107 : decode cX6_readClause 107 = .ok (.getfield 28, 3) := by decide +kernel
theorem dX6_readClause_110 : decode cX6_readClause 110 = .ok (.ifCond .ne 7, 3) := by decide +kernel
theorem dX6_readClause_113 : decode cX6_readClause 113 = .ok (.aload_n 0, 1) := by decide +kernel
theorem dX6_readClause_114 : decode cX6_readClause 114 = .ok (.invokevirtual 79, 3) := by decide +kernel
theorem dX6_readClause_117 : decode cX6_readClause 117 = .ok (.aload_n 0, 1) := by decide +kernel
theorem dX6_readClause_118 : decode cX6_readClause 118 = .ok (.getfield 28, 3) := by decide +kernel
theorem dX6_readClause_121 : decode cX6_readClause 121 = .ok (.ifCond .ne 26, 3) := by decide +kernel
theorem dX6_readClause_124 : decode cX6_readClause 124 = .ok (.aload_n 1, 1) := by decide +kernel
theorem dX6_readClause_125 : decode cX6_readClause 125 = .ok (.iload_n 2, 1) := by decide +kernel
theorem dX6_readClause_126 : decode cX6_readClause 126 = .ok (.aload_n 0, 1) := by decide +kernel
theorem dX6_readClause_127 : decode cX6_readClause 127 = .ok (.getfield 15, 3) := by decide +kernel
theorem dX6_readClause_130 : decode cX6_readClause 130 = .ok (.iconst 0, 1) := by decide +kernel
theorem dX6_readClause_131 : decode cX6_readClause 131 = .ok (.iaload, 1) := by decide +kernel
theorem dX6_readClause_132 : decode cX6_readClause 132 = .ok (.aload_n 0, 1) := by decide +kernel
theorem dX6_readClause_133 : decode cX6_readClause 133 = .ok (.getfield 15, 3) := by decide +kernel
theorem dX6_readClause_136 : decode cX6_readClause 136 = .ok (.iconst 1, 1) := by decide +kernel
theorem dX6_readClause_137 : decode cX6_readClause 137 = .ok (.iaload, 1) := by decide +kernel
theorem dX6_readClause_138 : decode cX6_readClause 138 = .ok (.aload_n 0, 1) := by decide +kernel
theorem dX6_readClause_139 : decode cX6_readClause 139 = .ok (.getfield 15, 3) := by decide +kernel
theorem dX6_readClause_142 : decode cX6_readClause 142 = .ok (.iconst 2, 1) := by decide +kernel
theorem dX6_readClause_143 : decode cX6_readClause 143 = .ok (.iaload, 1) := by decide +kernel
theorem dX6_readClause_144 : decode cX6_readClause 144 = .ok (.invokevirtual 82, 3) := by decide +kernel
theorem dX6_readClause_147 : decode cX6_readClause 147 = .ok (.return_, 1) := by decide +kernel
set_option maxRecDepth 20000 in
theorem ggX6_readNumber_X6_skipBlanks : GoodIn wsX6_readNumber wsX6_skipBlanks := goodIn_r _ [9, 1, 10, 11, 12, 8, 13, 14, 15, 26, 27, 28, 29, 30, 31] (by decide +kernel) (by decide +kernel)
set_option maxRecDepth 20000 in
theorem gX6_readNumber_X6_skipBlanks : GoodIn wsX6_readNumber (wsV RX6 40 RX6 yX6_skipBlanks wsX6_skipBlanks) := goodIn_app (goodIn_of _ (by decide +kernel)) ggX6_readNumber_X6_skipBlanks
set_option maxRecDepth 20000 in
theorem ggX6_readNumber_X6_here : GoodIn wsX6_readNumber wsX6_here := goodIn_r _ [13, 1, 14, 15, 26, 27, 28, 29, 30, 31] (by decide +kernel) (by decide +kernel)
set_option maxRecDepth 20000 in
theorem gX6_readNumber_X6_here : GoodIn wsX6_readNumber (wsV RX6 43 RX6 yX6_here wsX6_here) := goodIn_app (goodIn_of _ (by decide +kernel)) ggX6_readNumber_X6_here
set_option maxRecDepth 20000 in
theorem ggX6_readNumber_X6_isFigure : GoodIn wsX6_readNumber wsX6_isFigure := goodIn_r _ [19] (by decide +kernel) (by decide +kernel)
set_option maxRecDepth 20000 in
theorem gX6_readNumber_X6_isFigure : GoodIn wsX6_readNumber (wsV RX6 86 RX6 yX6_isFigure wsX6_isFigure) := goodIn_app (goodIn_of _ (by decide +kernel)) ggX6_readNumber_X6_isFigure
set_option maxRecDepth 20000 in
theorem ggX6_readNumber_X6_blame : GoodIn wsX6_readNumber wsX6_blame := goodIn_r _ [23, 24, 25, 26, 27, 28, 29, 30, 31] (by decide +kernel) (by decide +kernel)
set_option maxRecDepth 20000 in
theorem gX6_readNumber_X6_blame : GoodIn wsX6_readNumber (wsV RX6 62 RX6 yX6_blame wsX6_blame) := goodIn_app (goodIn_of _ (by decide +kernel)) ggX6_readNumber_X6_blame
theorem dX6_readNumber_0 : decode cX6_readNumber 0 = .ok (.aload_n 0, 1) := by decide +kernel
theorem dX6_readNumber_1 : decode cX6_readNumber 1 = .ok (.invokevirtual 40, 3) := by decide +kernel
theorem dX6_readNumber_4 : decode cX6_readNumber 4 = .ok (.aload_n 0, 1) := by decide +kernel
theorem dX6_readNumber_5 : decode cX6_readNumber 5 = .ok (.getfield 25, 3) := by decide +kernel
theorem dX6_readNumber_8 : decode cX6_readNumber 8 = .ok (.istore_n 3, 1) := by decide +kernel
theorem dX6_readNumber_9 : decode cX6_readNumber 9 = .ok (.iconst 0, 1) := by decide +kernel
theorem dX6_readNumber_10 : decode cX6_readNumber 10 = .ok (.istore 4, 2) := by decide +kernel
theorem dX6_readNumber_12 : decode cX6_readNumber 12 = .ok (.iconst 0, 1) := by decide +kernel
theorem dX6_readNumber_13 : decode cX6_readNumber 13 = .ok (.istore 5, 2) := by decide +kernel
theorem dX6_readNumber_15 : decode cX6_readNumber 15 = .ok (.iload 5, 2) := by decide +kernel
theorem dX6_readNumber_17 : decode cX6_readNumber 17 = .ok (.sipush 240, 3) := by decide +kernel
theorem dX6_readNumber_20 : decode cX6_readNumber 20 = .ok (.if_icmp .gt 51, 3) := by decide +kernel
theorem dX6_readNumber_23 : decode cX6_readNumber 23 = .ok (.aload_n 0, 1) := by decide +kernel
theorem dX6_readNumber_24 : decode cX6_readNumber 24 = .ok (.aload_n 0, 1) := by decide +kernel
theorem dX6_readNumber_25 : decode cX6_readNumber 25 = .ok (.invokevirtual 43, 3) := by decide +kernel
theorem dX6_readNumber_28 : decode cX6_readNumber 28 = .ok (.invokevirtual 86, 3) := by decide +kernel
theorem dX6_readNumber_31 : decode cX6_readNumber 31 = .ok (.ifCond .eq 40, 3) := by decide +kernel
theorem dX6_readNumber_34 : decode cX6_readNumber 34 = .ok (.iload 5, 2) := by decide +kernel
theorem dX6_readNumber_36 : decode cX6_readNumber 36 = .ok (.iconst 4, 1) := by decide +kernel
theorem dX6_readNumber_37 : decode cX6_readNumber 37 = .ok (.if_icmp .ge 18, 3) := by decide +kernel
theorem dX6_readNumber_40 : decode cX6_readNumber 40 = .ok (.iload 4, 2) := by decide +kernel
theorem dX6_readNumber_42 : decode cX6_readNumber 42 = .ok (.bipush 10, 2) := by decide +kernel
theorem dX6_readNumber_44 : decode cX6_readNumber 44 = .ok (.imul, 1) := by decide +kernel
theorem dX6_readNumber_45 : decode cX6_readNumber 45 = .ok (.aload_n 0, 1) := by decide +kernel
theorem dX6_readNumber_46 : decode cX6_readNumber 46 = .ok (.invokevirtual 43, 3) := by decide +kernel
theorem dX6_readNumber_49 : decode cX6_readNumber 49 = .ok (.iadd, 1) := by decide +kernel
theorem dX6_readNumber_50 : decode cX6_readNumber 50 = .ok (.bipush 48, 2) := by decide +kernel
theorem dX6_readNumber_52 : decode cX6_readNumber 52 = .ok (.isub, 1) := by decide +kernel
theorem dX6_readNumber_53 : decode cX6_readNumber 53 = .ok (.istore 4, 2) := by decide +kernel
theorem dX6_readNumber_55 : decode cX6_readNumber 55 = .ok (.aload_n 0, 1) := by decide +kernel
theorem dX6_readNumber_56 : decode cX6_readNumber 56 = .ok (.dup, 1) := by decide +kernel
theorem dX6_readNumber_57 : decode cX6_readNumber 57 = .ok (.getfield 25, 3) := by decide +kernel
theorem dX6_readNumber_60 : decode cX6_readNumber 60 = .ok (.iconst 1, 1) := by decide +kernel
theorem dX6_readNumber_61 : decode cX6_readNumber 61 = .ok (.iadd, 1) := by decide +kernel
theorem dX6_readNumber_62 : decode cX6_readNumber 62 = .ok (.putfield 25, 3) := by decide +kernel
theorem dX6_readNumber_65 : decode cX6_readNumber 65 = .ok (.iinc 5 1, 3) := by decide +kernel
theorem dX6_readNumber_68 : decode cX6_readNumber 68 = .ok (.goto (-53), 3) := by decide +kernel
theorem dX6_readNumber_71 : decode cX6_readNumber 71 = .ok (.aload_n 0, 1) := by decide +kernel
theorem dX6_readNumber_72 : decode cX6_readNumber 72 = .ok (.getfield 25, 3) := by decide +kernel
theorem dX6_readNumber_75 : decode cX6_readNumber 75 = .ok (.iload_n 3, 1) := by decide +kernel
theorem dX6_readNumber_76 : decode cX6_readNumber 76 = .ok (.if_icmp .ne 15, 3) := by decide +kernel
theorem dX6_readNumber_79 : decode cX6_readNumber 79 = .ok (.aload_n 0, 1) := by decide +kernel
theorem dX6_readNumber_80 : decode cX6_readNumber 80 = .ok (.iconst 1, 1) := by decide +kernel
theorem dX6_readNumber_81 : decode cX6_readNumber 81 = .ok (.aload_n 0, 1) := by decide +kernel
theorem dX6_readNumber_82 : decode cX6_readNumber 82 = .ok (.getfield 25, 3) := by decide +kernel
theorem dX6_readNumber_85 : decode cX6_readNumber 85 = .ok (.invokevirtual 62, 3) := by decide +kernel
theorem dX6_readNumber_88 : decode cX6_readNumber 88 = .ok (.goto 50, 3) := by decide +kernel
theorem dX6_readNumber_91 : decode cX6_readNumber 91 = .ok (.aload_n 0, 1) := by decide +kernel
theorem dX6_readNumber_92 : decode cX6_readNumber 92 = .ok (.getfield 25, 3) := by decide +kernel
theorem dX6_readNumber_95 : decode cX6_readNumber 95 = .ok (.iload_n 3, 1) := by decide +kernel
theorem dX6_readNumber_96 : decode cX6_readNumber 96 = .ok (.isub, 1) := by decide +kernel
theorem dX6_readNumber_97 : decode cX6_readNumber 97 = .ok (.iconst 4, 1) := by decide +kernel
theorem dX6_readNumber_98 : decode cX6_readNumber 98 = .ok (.if_icmp .gt 23, 3) := by decide +kernel
theorem dX6_readNumber_101 : decode cX6_readNumber 101 = .ok (.iload 4, 2) := by decide +kernel
theorem dX6_readNumber_103 : decode cX6_readNumber 103 = .ok (.getstatic 89, 3) := by decide +kernel
theorem dX6_readNumber_106 : decode cX6_readNumber 106 = .ok (.iload_n 2, 1) := by decide +kernel
theorem dX6_readNumber_107 : decode cX6_readNumber 107 = .ok (.iaload, 1) := by decide +kernel
theorem dX6_readNumber_108 : decode cX6_readNumber 108 = .ok (.if_icmp .lt 13, 3) := by decide +kernel
theorem dX6_readNumber_111 : decode cX6_readNumber 111 = .ok (.iload 4, 2) := by decide +kernel
theorem dX6_readNumber_113 : decode cX6_readNumber 113 = .ok (.getstatic 92, 3) := by decide +kernel
theorem dX6_readNumber_116 : decode cX6_readNumber 116 = .ok (.iload_n 2, 1) := by decide +kernel
theorem dX6_readNumber_117 : decode cX6_readNumber 117 = .ok (.iaload, 1) := by decide +kernel
theorem dX6_readNumber_118 : decode cX6_readNumber 118 = .ok (.if_icmp .le 12, 3) := by decide +kernel
theorem dX6_readNumber_121 : decode cX6_readNumber 121 = .ok (.aload_n 0, 1) := by decide +kernel
theorem dX6_readNumber_122 : decode cX6_readNumber 122 = .ok (.iconst 2, 1) := by decide +kernel
theorem dX6_readNumber_123 : decode cX6_readNumber 123 = .ok (.iload_n 3, 1) := by decide +kernel
theorem dX6_readNumber_124 : decode cX6_readNumber 124 = .ok (.invokevirtual 62, 3) := by decide +kernel
theorem dX6_readNumber_127 : decode cX6_readNumber 127 = .ok (.goto 11, 3) := by decide +kernel
theorem dX6_readNumber_130 : decode cX6_readNumber 130 = .ok (.aload_n 0, 1) := by decide +kernel
theorem dX6_readNumber_131 : decode cX6_readNumber 131 = .ok (.getfield 15, 3) := by decide +kernel
theorem dX6_readNumber_134 : decode cX6_readNumber 134 = .ok (.iload_n 1, 1) := by decide +kernel
theorem dX6_readNumber_135 : decode cX6_readNumber 135 = .ok (.iload 4, 2) := by decide +kernel
theorem dX6_readNumber_137 : decode cX6_readNumber 137 = .ok (.iastore, 1) := by decide +kernel
theorem dX6_readNumber_138 : decode cX6_readNumber 138 = .ok (.return_, 1) := by decide +kernel
set_option maxRecDepth 20000 in
theorem ggX6_readSemicolon_X6_skipBlanks : GoodIn wsX6_readSemicolon wsX6_skipBlanks := goodIn_r _ [6, 1, 7, 8, 9, 5, 10, 11, 12, 19, 20, 21, 22, 23, 24] (by decide +kernel) (by decide +kernel)
set_option maxRecDepth 20000 in
theorem gX6_readSemicolon_X6_skipBlanks : GoodIn wsX6_readSemicolon (wsV RX6 40 RX6 yX6_skipBlanks wsX6_skipBlanks) := goodIn_app (goodIn_of _ (by decide +kernel)) ggX6_readSemicolon_X6_skipBlanks
set_option maxRecDepth 20000 in
theorem ggX6_readSemicolon_X6_here : GoodIn wsX6_readSemicolon wsX6_here := goodIn_r _ [10, 1, 11, 12, 19, 20, 21, 22, 23, 24] (by decide +kernel) (by decide +kernel)
set_option maxRecDepth 20000 in
theorem gX6_readSemicolon_X6_here : GoodIn wsX6_readSemicolon (wsV RX6 43 RX6 yX6_here wsX6_here) := goodIn_app (goodIn_of _ (by decide +kernel)) ggX6_readSemicolon_X6_here
set_option maxRecDepth 20000 in
theorem ggX6_readSemicolon_X6_blame : GoodIn wsX6_readSemicolon wsX6_blame := goodIn_r _ [16, 17, 18, 19, 20, 21, 22, 23, 24] (by decide +kernel) (by decide +kernel)
set_option maxRecDepth 20000 in
theorem gX6_readSemicolon_X6_blame : GoodIn wsX6_readSemicolon (wsV RX6 62 RX6 yX6_blame wsX6_blame) := goodIn_app (goodIn_of _ (by decide +kernel)) ggX6_readSemicolon_X6_blame
theorem dX6_readSemicolon_0 : decode cX6_readSemicolon 0 = .ok (.aload_n 0, 1) := by decide +kernel
theorem dX6_readSemicolon_1 : decode cX6_readSemicolon 1 = .ok (.invokevirtual 40, 3) := by decide +kernel
theorem dX6_readSemicolon_4 : decode cX6_readSemicolon 4 = .ok (.aload_n 0, 1) := by decide +kernel
theorem dX6_readSemicolon_5 : decode cX6_readSemicolon 5 = .ok (.invokevirtual 43, 3) := by decide +kernel
theorem dX6_readSemicolon_8 : decode cX6_readSemicolon 8 = .ok (.bipush 59, 2) := by decide +kernel
theorem dX6_readSemicolon_10 : decode cX6_readSemicolon 10 = .ok (.if_icmp .ne 16, 3) := by decide +kernel
theorem dX6_readSemicolon_13 : decode cX6_readSemicolon 13 = .ok (.aload_n 0, 1) := by decide +kernel
theorem dX6_readSemicolon_14 : decode cX6_readSemicolon 14 = .ok (.dup, 1) := by decide +kernel
theorem dX6_readSemicolon_15 : decode cX6_readSemicolon 15 = .ok (.getfield 25, 3) := by decide +kernel
theorem dX6_readSemicolon_18 : decode cX6_readSemicolon 18 = .ok (.iconst 1, 1) := by decide +kernel
theorem dX6_readSemicolon_19 : decode cX6_readSemicolon 19 = .ok (.iadd, 1) := by decide +kernel
theorem dX6_readSemicolon_20 : decode cX6_readSemicolon 20 = .ok (.putfield 25, 3) := by decide +kernel
theorem dX6_readSemicolon_23 : decode cX6_readSemicolon 23 = .ok (.goto 12, 3) := by decide +kernel
theorem dX6_readSemicolon_26 : decode cX6_readSemicolon 26 = .ok (.aload_n 0, 1) := by decide +kernel
theorem dX6_readSemicolon_27 : decode cX6_readSemicolon 27 = .ok (.iconst 1, 1) := by decide +kernel
theorem dX6_readSemicolon_28 : decode cX6_readSemicolon 28 = .ok (.aload_n 0, 1) := by decide +kernel
theorem dX6_readSemicolon_29 : decode cX6_readSemicolon 29 = .ok (.getfield 25, 3) := by decide +kernel
theorem dX6_readSemicolon_32 : decode cX6_readSemicolon 32 = .ok (.invokevirtual 62, 3) := by decide +kernel
theorem dX6_readSemicolon_35 : decode cX6_readSemicolon 35 = .ok (.return_, 1) := by decide +kernel
set_option maxRecDepth 20000 in
theorem ggX6_skipBlanks_X6_here : GoodIn wsX6_skipBlanks wsX6_here := goodIn_r _ [6, 1, 7, 8, 9, 10, 11, 12, 13, 14] (by decide +kernel) (by decide +kernel)
set_option maxRecDepth 20000 in
theorem gX6_skipBlanks_X6_here : GoodIn wsX6_skipBlanks (wsV RX6 43 RX6 yX6_here wsX6_here) := goodIn_app (goodIn_of _ (by decide +kernel)) ggX6_skipBlanks_X6_here
theorem dX6_skipBlanks_0 : decode cX6_skipBlanks 0 = .ok (.iconst 0, 1) := by decide +kernel
theorem dX6_skipBlanks_1 : decode cX6_skipBlanks 1 = .ok (.istore_n 1, 1) := by decide +kernel
theorem dX6_skipBlanks_2 : decode cX6_skipBlanks 2 = .ok (.iload_n 1, 1) := by decide +kernel
theorem dX6_skipBlanks_3 : decode cX6_skipBlanks 3 = .ok (.sipush 240, 3) := by decide +kernel
theorem dX6_skipBlanks_6 : decode cX6_skipBlanks 6 = .ok (.if_icmp .gt 28, 3) := by decide +kernel
theorem dX6_skipBlanks_9 : decode cX6_skipBlanks 9 = .ok (.aload_n 0, 1) := by decide +kernel
theorem dX6_skipBlanks_10 : decode cX6_skipBlanks 10 = .ok (.invokevirtual 43, 3) := by decide +kernel
theorem dX6_skipBlanks_13 : decode cX6_skipBlanks 13 = .ok (.bipush 32, 2) := by decide +kernel
theorem dX6_skipBlanks_15 : decode cX6_skipBlanks 15 = .ok (.if_icmp .ne 19, 3) := by decide +kernel
theorem dX6_skipBlanks_18 : decode cX6_skipBlanks 18 = .ok (.aload_n 0, 1) := by decide +kernel
theorem dX6_skipBlanks_19 : decode cX6_skipBlanks 19 = .ok (.dup, 1) := by decide +kernel
theorem dX6_skipBlanks_20 : decode cX6_skipBlanks 20 = .ok (.getfield 25, 3) := by decide +kernel
theorem dX6_skipBlanks_23 : decode cX6_skipBlanks 23 = .ok (.iconst 1, 1) := by decide +kernel
theorem dX6_skipBlanks_24 : decode cX6_skipBlanks 24 = .ok (.iadd, 1) := by decide +kernel
theorem dX6_skipBlanks_25 : decode cX6_skipBlanks 25 = .ok (.putfield 25, 3) := by decide +kernel
theorem dX6_skipBlanks_28 : decode cX6_skipBlanks 28 = .ok (.iinc 1 1, 3) := by decide +kernel
theorem dX6_skipBlanks_31 : decode cX6_skipBlanks 31 = .ok (.goto (-29), 3) := by decide +kernel
theorem dX6_skipBlanks_34 : decode cX6_skipBlanks 34 = .ok (.return_, 1) := by decide +kernel
theorem dX6_here_0 : decode cX6_here 0 = .ok (.aload_n 0, 1) := by decide +kernel
theorem dX6_here_1 : decode cX6_here 1 = .ok (.getfield 25, 3) := by decide +kernel
theorem dX6_here_4 : decode cX6_here 4 = .ok (.aload_n 0, 1) := by decide +kernel
theorem dX6_here_5 : decode cX6_here 5 = .ok (.getfield 22, 3) := by decide +kernel
theorem dX6_here_8 : decode cX6_here 8 = .ok (.if_icmp .ge 25, 3) := by decide +kernel
theorem dX6_here_11 : decode cX6_here 11 = .ok (.aload_n 0, 1) := by decide +kernel
theorem dX6_here_12 : decode cX6_here 12 = .ok (.getfield 25, 3) := by decide +kernel
theorem dX6_here_15 : decode cX6_here 15 = .ok (.sipush 240, 3) := by decide +kernel
theorem dX6_here_18 : decode cX6_here 18 = .ok (.if_icmp .ge 15, 3) := by decide +kernel
theorem dX6_here_21 : decode cX6_here 21 = .ok (.aload_n 0, 1) := by decide +kernel
theorem dX6_here_22 : decode cX6_here 22 = .ok (.getfield 9, 3) := by decide +kernel
theorem dX6_here_25 : decode cX6_here 25 = .ok (.aload_n 0, 1) := by decide +kernel
theorem dX6_here_26 : decode cX6_here 26 = .ok (.getfield 25, 3) := by decide +kernel
theorem dX6_here_29 : decode cX6_here 29 = .ok (.iaload, 1) := by decide +kernel
theorem dX6_here_30 : decode cX6_here 30 = .ok (.goto 4, 3) := by decide +kernel
theorem dX6_here_33 : decode cX6_here 33 = .ok (.iconst (-1), 1) := by decide +kernel
theorem dX6_here_34 : decode cX6_here 34 = .ok (.ireturn, 1) := by decide +kernel
theorem dX6_isFigure_0 : decode cX6_isFigure 0 = .ok (.iload_n 1, 1) := by decide +kernel
theorem dX6_isFigure_1 : decode cX6_isFigure 1 = .ok (.bipush 48, 2) := by decide +kernel
theorem dX6_isFigure_3 : decode cX6_isFigure 3 = .ok (.if_icmp .lt 13, 3) := by decide +kernel
theorem dX6_isFigure_6 : decode cX6_isFigure 6 = .ok (.iload_n 1, 1) := by decide +kernel
theorem dX6_isFigure_7 : decode cX6_isFigure 7 = .ok (.bipush 57, 2) := by decide +kernel
theorem dX6_isFigure_9 : decode cX6_isFigure 9 = .ok (.if_icmp .gt 7, 3) := by decide +kernel
theorem dX6_isFigure_12 : decode cX6_isFigure 12 = .ok (.iconst 1, 1) := by decide +kernel
theorem dX6_isFigure_13 : decode cX6_isFigure 13 = .ok (.goto 4, 3) := by decide +kernel
theorem dX6_isFigure_16 : decode cX6_isFigure 16 = .ok (.iconst 0, 1) := by decide +kernel
theorem dX6_isFigure_17 : decode cX6_isFigure 17 = .ok (.ireturn, 1) := by decide +kernel
theorem dX6_blame_0 : decode cX6_blame 0 = .ok (.aload_n 0, 1) := by decide +kernel
theorem dX6_blame_1 : decode cX6_blame 1 = .ok (.iload_n 1, 1) := by decide +kernel
theorem dX6_blame_2 : decode cX6_blame 2 = .ok (.putfield 28, 3) := by decide +kernel
theorem dX6_blame_5 : decode cX6_blame 5 = .ok (.aload_n 0, 1) := by decide +kernel
theorem dX6_blame_6 : decode cX6_blame 6 = .ok (.iload_n 2, 1) := by decide +kernel
theorem dX6_blame_7 : decode cX6_blame 7 = .ok (.putfield 18, 3) := by decide +kernel
theorem dX6_blame_10 : decode cX6_blame 10 = .ok (.return_, 1) := by decide +kernel
