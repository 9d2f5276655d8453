theorem dX8_init_0 : decode cX8_init 0 = .ok (.aload_n 0, 1) := by decide +kernel
theorem dX8_init_1 : decode cX8_init 1 = .ok (.invokespecial 1, 3) := by decide +kernel
theorem dX8_init_4 : decode cX8_init 4 = .ok (.aload_n 0, 1) := by decide +kernel
theorem dX8_init_5 : decode cX8_init 5 = .ok (.sipush 240, 3) := by decide +kernel
theorem dX8_init_8 : decode cX8_init 8 = .ok (.newarray .int, 2) := by decide +kernel
theorem dX8_init_10 : decode cX8_init 10 = .ok (.putfield 7, 3) := by decide +kernel
theorem dX8_init_13 : decode cX8_init 13 = .ok (.aload_n 0, 1) := by decide +kernel
theorem dX8_init_14 : decode cX8_init 14 = .ok (.iconst (-1), 1) := by decide +kernel
theorem dX8_init_15 : decode cX8_init 15 = .ok (.putfield 13, 3) := by decide +kernel
theorem dX8_init_18 : decode cX8_init 18 = .ok (.aload_n 0, 1) := by decide +kernel
theorem dX8_init_19 : decode cX8_init 19 = .ok (.iconst 5, 1) := by decide +kernel
theorem dX8_init_20 : decode cX8_init 20 = .ok (.newarray .int, 2) := by decide +kernel
theorem dX8_init_22 : decode cX8_init 22 = .ok (.putfield 17, 3) := by decide +kernel
theorem dX8_init_25 : decode cX8_init 25 = .ok (.aload_n 0, 1) := by decide +kernel
theorem dX8_init_26 : decode cX8_init 26 = .ok (.iconst 4, 1) := by decide +kernel
theorem dX8_init_27 : decode cX8_init 27 = .ok (.newarray .int, 2) := by decide +kernel
theorem dX8_init_29 : decode cX8_init 29 = .ok (.putfield 20, 3) := by decide +kernel
theorem dX8_init_32 : decode cX8_init 32 = .ok (.aload_n 0, 1) := by decide +kernel
theorem dX8_init_33 : decode cX8_init 33 = .ok (.bipush 14, 2) := by decide +kernel
theorem dX8_init_35 : decode cX8_init 35 = .ok (.newarray .int, 2) := by decide +kernel
theorem dX8_init_37 : decode cX8_init 37 = .ok (.putfield 23, 3) := by decide +kernel
theorem dX8_init_40 : decode cX8_init 40 = .ok (.aload_n 0, 1) := by decide +kernel
theorem dX8_init_41 : decode cX8_init 41 = .ok (.bipush 18, 2) := by decide +kernel
theorem dX8_init_43 : decode cX8_init 43 = .ok (.newarray .int, 2) := by decide +kernel
theorem dX8_init_45 : decode cX8_init 45 = .ok (.putfield 26, 3) := by decide +kernel
theorem dX8_init_48 : decode cX8_init 48 = .ok (.aload_n 0, 1) := by decide +kernel
theorem dX8_init_49 : decode cX8_init 49 = .ok (.iconst 5, 1) := by decide +kernel
theorem dX8_init_50 : decode cX8_init 50 = .ok (.newarray .int, 2) := by decide +kernel
theorem dX8_init_52 : decode cX8_init 52 = .ok (.putfield 29, 3) := by decide +kernel
theorem dX8_init_55 : decode cX8_init 55 = .ok (.aload_n 0, 1) := by decide +kernel
theorem dX8_init_56 : decode cX8_init 56 = .ok (.iconst 4, 1) := by decide +kernel
theorem dX8_init_57 : decode cX8_init 57 = .ok (.newarray .int, 2) := by decide +kernel
theorem dX8_init_59 : decode cX8_init 59 = .ok (.putfield 32, 3) := by decide +kernel
theorem dX8_init_62 : decode cX8_init 62 = .ok (.aload_n 0, 1) := by decide +kernel
theorem dX8_init_63 : decode cX8_init 63 = .ok (.bipush 14, 2) := by decide +kernel
theorem dX8_init_65 : decode cX8_init 65 = .ok (.newarray .int, 2) := by decide +kernel
theorem dX8_init_67 : decode cX8_init 67 = .ok (.putfield 35, 3) := by decide +kernel
theorem dX8_init_70 : decode cX8_init 70 = .ok (.aload_n 0, 1) := by decide +kernel
theorem dX8_init_71 : decode cX8_init 71 = .ok (.bipush 18, 2) := by decide +kernel
theorem dX8_init_73 : decode cX8_init 73 = .ok (.newarray .int, 2) := by decide +kernel
theorem dX8_init_75 : decode cX8_init 75 = .ok (.putfield 38, 3) := by decide +kernel
theorem dX8_init_78 : decode cX8_init 78 = .ok (.aload_n 0, 1) := by decide +kernel
theorem dX8_init_79 : decode cX8_init 79 = .ok (.bipush 35, 2) := by decide +kernel
theorem dX8_init_81 : decode cX8_init 81 = .ok (.newarray .int, 2) := by decide +kernel
theorem dX8_init_83 : decode cX8_init 83 = .ok (.putfield 41, 3) := by decide +kernel
theorem dX8_init_86 : decode cX8_init 86 = .ok (.aload_n 0, 1) := by decide +kernel
theorem dX8_init_87 : decode cX8_init 87 = .ok (.sipush 700, 3) := by decide +kernel
theorem dX8_init_90 : decode cX8_init 90 = .ok (.newarray .int, 2) := by decide +kernel
theorem dX8_init_92 : decode cX8_init 92 = .ok (.putfield 44, 3) := by decide +kernel
theorem dX8_init_95 : decode cX8_init 95 = .ok (.aload_n 0, 1) := by decide +kernel
theorem dX8_init_96 : decode cX8_init 96 = .ok (.bipush 70, 2) := by decide +kernel
theorem dX8_init_98 : decode cX8_init 98 = .ok (.newarray .int, 2) := by decide +kernel
theorem dX8_init_100 : decode cX8_init 100 = .ok (.putfield 47, 3) := by decide +kernel
theorem dX8_init_103 : decode cX8_init 103 = .ok (.aload_n 0, 1) := by decide +kernel
theorem dX8_init_104 : decode cX8_init 104 = .ok (.iconst 2, 1) := by decide +kernel
theorem dX8_init_105 : decode cX8_init 105 = .ok (.newarray .int, 2) := by decide +kernel
theorem dX8_init_107 : decode cX8_init 107 = .ok (.putfield 50, 3) := by decide +kernel
theorem dX8_init_110 : decode cX8_init 110 = .ok (.aload_n 0, 1) := by decide +kernel
theorem dX8_init_111 : decode cX8_init 111 = .ok (.iconst 2, 1) := by decide +kernel
theorem dX8_init_112 : decode cX8_init 112 = .ok (.newarray .boolean, 2) := by decide +kernel
theorem dX8_init_114 : decode cX8_init 114 = .ok (.putfield 53, 3) := by decide +kernel
theorem dX8_init_117 : decode cX8_init 117 = .ok (.aload_n 0, 1) := by decide +kernel
theorem dX8_init_118 : decode cX8_init 118 = .ok (.bipush 18, 2) := by decide +kernel
theorem dX8_init_120 : decode cX8_init 120 = .ok (.newarray .int, 2) := by decide +kernel
theorem dX8_init_122 : decode cX8_init 122 = .ok (.putfield 57, 3) := by decide +kernel
theorem dX8_init_125 : decode cX8_init 125 = .ok (.aload_n 0, 1) := by decide +kernel
theorem dX8_init_126 : decode cX8_init 126 = .ok (.bipush 30, 2) := by decide +kernel
theorem dX8_init_128 : decode cX8_init 128 = .ok (.newarray .int, 2) := by decide +kernel
theorem dX8_init_130 : decode cX8_init 130 = .ok (.putfield 60, 3) := by decide +kernel
theorem dX8_init_133 : decode cX8_init 133 = .ok (.aload_n 0, 1) := by decide +kernel
theorem dX8_init_134 : decode cX8_init 134 = .ok (.bipush 6, 2) := by decide +kernel
theorem dX8_init_136 : decode cX8_init 136 = .ok (.newarray .int, 2) := by decide +kernel
theorem dX8_init_138 : decode cX8_init 138 = .ok (.putfield 63, 3) := by decide +kernel
theorem dX8_init_141 : decode cX8_init 141 = .ok (.aload_n 0, 1) := by decide +kernel
theorem dX8_init_142 : decode cX8_init 142 = .ok (.bipush 124, 2) := by decide +kernel
theorem dX8_init_144 : decode cX8_init 144 = .ok (.newarray .int, 2) := by decide +kernel
theorem dX8_init_146 : decode cX8_init 146 = .ok (.putfield 66, 3) := by decide +kernel
theorem dX8_init_149 : decode cX8_init 149 = .ok (.aload_n 0, 1) := by decide +kernel
theorem dX8_init_150 : decode cX8_init 150 = .ok (.sipush 744, 3) := by decide +kernel
theorem dX8_init_153 : decode cX8_init 153 = .ok (.newarray .int, 2) := by decide +kernel
theorem dX8_init_155 : decode cX8_init 155 = .ok (.putfield 69, 3) := by decide +kernel
theorem dX8_init_158 : decode cX8_init 158 = .ok (.return_, 1) := by decide +kernel
theorem dX8_in_0 : decode cX8_in 0 = .ok (.iload_n 0, 1) := by decide +kernel
theorem dX8_in_1 : decode cX8_in 1 = .ok (.iload_n 1, 1) := by decide +kernel
theorem dX8_in_2 : decode cX8_in 2 = .ok (.if_icmp .lt 12, 3) := by decide +kernel
theorem dX8_in_5 : decode cX8_in 5 = .ok (.iload_n 0, 1) := by decide +kernel
theorem dX8_in_6 : decode cX8_in 6 = .ok (.iload_n 2, 1) := by decide +kernel
theorem dX8_in_7 : decode cX8_in 7 = .ok (.if_icmp .gt 7, 3) := by decide +kernel
theorem dX8_in_10 : decode cX8_in 10 = .ok (.iconst 1, 1) := by decide +kernel
theorem dX8_in_11 : decode cX8_in 11 = .ok (.goto 4, 3) := by decide +kernel
theorem dX8_in_14 : decode cX8_in 14 = .ok (.iconst 0, 1) := by decide +kernel
theorem dX8_in_15 : decode cX8_in 15 = .ok (.ireturn, 1) := by decide +kernel
set_option maxRecDepth 20000 in
theorem ggX8_feed_X8_in : GoodIn wsX8_feed wsX8_in := goodIn_r _ [8] (by decide +kernel) (by decide +kernel)
set_option maxRecDepth 20000 in
theorem gX8_feed_X8_in : GoodIn wsX8_feed (va_wsS RX8 72 yX8_in wsX8_in) := goodIn_app (goodIn_of _ (by decide +kernel)) ggX8_feed_X8_in
theorem dX8_feed_0 : decode cX8_feed 0 = .ok (.iload_n 1, 1) := by decide +kernel
theorem dX8_feed_1 : decode cX8_feed 1 = .ok (.iconst 0, 1) := by decide +kernel
theorem dX8_feed_2 : decode cX8_feed 2 = .ok (.sipush 255, 3) := by decide +kernel
theorem dX8_feed_5 : decode cX8_feed 5 = .ok (.invokestatic 72, 3) := by decide +kernel
theorem dX8_feed_8 : decode cX8_feed 8 = .ok (.ifCond .ne 6, 3) := by decide +kernel
theorem dX8_feed_11 : decode cX8_feed 11 = .ok (.ldc 76, 2) := by decide +kernel
theorem dX8_feed_13 : decode cX8_feed 13 = .ok (.ireturn, 1) := by decide +kernel
theorem dX8_feed_14 : decode cX8_feed 14 = .ok (.aload_n 0, 1) := by decide +kernel
theorem dX8_feed_15 : decode cX8_feed 15 = .ok (.getfield 77, 3) := by decide +kernel
theorem dX8_feed_18 : decode cX8_feed 18 = .ok (.sipush 240, 3) := by decide +kernel
theorem dX8_feed_21 : decode cX8_feed 21 = .ok (.if_icmp .ne 6, 3) := by decide +kernel
theorem dX8_feed_24 : decode cX8_feed 24 = .ok (.ldc 80, 2) := by decide +kernel
theorem dX8_feed_26 : decode cX8_feed 26 = .ok (.ireturn, 1) := by decide +kernel
theorem dX8_feed_27 : decode cX8_feed 27 = .ok (.aload_n 0, 1) := by decide +kernel
theorem dX8_feed_28 : decode cX8_feed 28 = .ok (.getfield 7, 3) := by decide +kernel
theorem dX8_feed_31 : decode cX8_feed 31 = .ok (.aload_n 0, 1) := by decide +kernel
theorem dX8_feed_32 : decode cX8_feed 32 = .ok (.getfield 77, 3) := by decide +kernel
theorem dX8_feed_35 : decode cX8_feed 35 = .ok (.iload_n 1, 1) := by decide +kernel
theorem dX8_feed_36 : decode cX8_feed 36 = .ok (.iastore, 1) := by decide +kernel
theorem dX8_feed_37 : decode cX8_feed 37 = .ok (.aload_n 0, 1) := by decide +kernel
theorem dX8_feed_38 : decode cX8_feed 38 = .ok (.dup, 1) := by decide +kernel
theorem dX8_feed_39 : decode cX8_feed 39 = .ok (.getfield 77, 3) := by decide +kernel
theorem dX8_feed_42 : decode cX8_feed 42 = .ok (.iconst 1, 1) := by decide +kernel
theorem dX8_feed_43 : decode cX8_feed 43 = .ok (.iadd, 1) := by decide +kernel
theorem dX8_feed_44 : decode cX8_feed 44 = .ok (.putfield 77, 3) := by decide +kernel
theorem dX8_feed_47 : decode cX8_feed 47 = .ok (.aload_n 0, 1) := by decide +kernel
theorem dX8_feed_48 : decode cX8_feed 48 = .ok (.getfield 77, 3) := by decide +kernel
theorem dX8_feed_51 : decode cX8_feed 51 = .ok (.ireturn, 1) := by decide +kernel
theorem dX8_look_0 : decode cX8_look 0 = .ok (.aload_n 0, 1) := by decide +kernel
theorem dX8_look_1 : decode cX8_look 1 = .ok (.getfield 81, 3) := by decide +kernel
theorem dX8_look_4 : decode cX8_look 4 = .ok (.aload_n 0, 1) := by decide +kernel
theorem dX8_look_5 : decode cX8_look 5 = .ok (.getfield 77, 3) := by decide +kernel
theorem dX8_look_8 : decode cX8_look 8 = .ok (.if_icmp .ge 15, 3) := by decide +kernel
theorem dX8_look_11 : decode cX8_look 11 = .ok (.aload_n 0, 1) := by decide +kernel
theorem dX8_look_12 : decode cX8_look 12 = .ok (.getfield 7, 3) := by decide +kernel
theorem dX8_look_15 : decode cX8_look 15 = .ok (.aload_n 0, 1) := by decide +kernel
theorem dX8_look_16 : decode cX8_look 16 = .ok (.getfield 81, 3) := by decide +kernel
theorem dX8_look_19 : decode cX8_look 19 = .ok (.iaload, 1) := by decide +kernel
theorem dX8_look_20 : decode cX8_look 20 = .ok (.goto 4, 3) := by decide +kernel
theorem dX8_look_23 : decode cX8_look 23 = .ok (.iconst (-1), 1) := by decide +kernel
theorem dX8_look_24 : decode cX8_look 24 = .ok (.ireturn, 1) := by decide +kernel
set_option maxRecDepth 20000 in
theorem ggX8_skips_X8_look : GoodIn wsX8_skips wsX8_look := goodIn_r _ [7, 2, 8, 9, 10, 11, 12, 13, 14, 15, 16, 17, 18, 19, 20, 21, 22, 23, 24, 25, 26, 27, 28, 29, 30, 31, 32, 33, 34, 35, 36] (by decide +kernel) (by decide +kernel)
set_option maxRecDepth 20000 in
theorem gX8_skips_X8_look : GoodIn wsX8_skips (wsV RX8 87 RX8 yX8_look wsX8_look) := goodIn_app (goodIn_of _ (by decide +kernel)) ggX8_skips_X8_look
theorem dX8_skips_0 : decode cX8_skips 0 = .ok (.aload_n 0, 1) := by decide +kernel
theorem dX8_skips_1 : decode cX8_skips 1 = .ok (.getfield 84, 3) := by decide +kernel
theorem dX8_skips_4 : decode cX8_skips 4 = .ok (.ifCond .ne 25, 3) := by decide +kernel
theorem dX8_skips_7 : decode cX8_skips 7 = .ok (.aload_n 0, 1) := by decide +kernel
theorem dX8_skips_8 : decode cX8_skips 8 = .ok (.invokevirtual 87, 3) := by decide +kernel
theorem dX8_skips_11 : decode cX8_skips 11 = .ok (.bipush 32, 2) := by decide +kernel
theorem dX8_skips_13 : decode cX8_skips 13 = .ok (.if_icmp .ne 16, 3) := by decide +kernel
theorem dX8_skips_16 : decode cX8_skips 16 = .ok (.aload_n 0, 1) := by decide +kernel
theorem dX8_skips_17 : decode cX8_skips 17 = .ok (.dup, 1) := by decide +kernel
theorem dX8_skips_18 : decode cX8_skips 18 = .ok (.getfield 81, 3) := by decide +kernel
theorem dX8_skips_21 : decode cX8_skips 21 = .ok (.iconst 1, 1) := by decide +kernel
theorem dX8_skips_22 : decode cX8_skips 22 = .ok (.iadd, 1) := by decide +kernel
theorem dX8_skips_23 : decode cX8_skips 23 = .ok (.putfield 81, 3) := by decide +kernel
theorem dX8_skips_26 : decode cX8_skips 26 = .ok (.goto (-26), 3) := by decide +kernel
theorem dX8_skips_29 : decode cX8_skips 29 = .ok (.return_, 1) := by decide +kernel
theorem dX8_fails_0 : decode cX8_fails 0 = .ok (.aload_n 0, 1) := by decide +kernel
theorem dX8_fails_1 : decode cX8_fails 1 = .ok (.aload_n 0, 1) := by decide +kernel
theorem dX8_fails_2 : decode cX8_fails 2 = .ok (.getfield 84, 3) := by decide +kernel
theorem dX8_fails_5 : decode cX8_fails 5 = .ok (.ifCond .ne 7, 3) := by decide +kernel
theorem dX8_fails_8 : decode cX8_fails 8 = .ok (.iload_n 1, 1) := by decide +kernel
theorem dX8_fails_9 : decode cX8_fails 9 = .ok (.goto 7, 3) := by decide +kernel
theorem dX8_fails_12 : decode cX8_fails 12 = .ok (.aload_n 0, 1) := by decide +kernel
theorem dX8_fails_13 : decode cX8_fails 13 = .ok (.getfield 84, 3) := by decide +kernel
theorem dX8_fails_16 : decode cX8_fails 16 = .ok (.putfield 84, 3) := by decide +kernel
theorem dX8_fails_19 : decode cX8_fails 19 = .ok (.return_, 1) := by decide +kernel
set_option maxRecDepth 20000 in
theorem ggX8_stops_X8_skips : GoodIn wsX8_stops wsX8_skips := goodIn_r _ [7, 1, 2, 8, 9, 10, 6, 11, 12, 13, 18, 19, 20, 21, 22, 23, 24, 25, 26, 27, 28, 29, 30, 31, 32, 33, 34, 35, 36, 37, 38, 39, 40, 41, 42, 43, 44] (by decide +kernel) (by decide +kernel)
set_option maxRecDepth 20000 in
theorem gX8_stops_X8_skips : GoodIn wsX8_stops (wsV RX8 91 RX8 yX8_skips wsX8_skips) := goodIn_app (goodIn_of _ (by decide +kernel)) ggX8_stops_X8_skips
set_option maxRecDepth 20000 in
theorem ggX8_stops_X8_look : GoodIn wsX8_stops wsX8_look := goodIn_r _ [11, 2, 12, 13, 18, 19, 20, 21, 22, 23, 24, 25, 26, 27, 28, 29, 30, 31, 32, 33, 34, 35, 36, 37, 38, 39, 40, 41, 42, 43, 44] (by decide +kernel) (by decide +kernel)
set_option maxRecDepth 20000 in
theorem gX8_stops_X8_look : GoodIn wsX8_stops (wsV RX8 87 RX8 yX8_look wsX8_look) := goodIn_app (goodIn_of _ (by decide +kernel)) ggX8_stops_X8_look
set_option maxRecDepth 20000 in
theorem ggX8_stops_X8_fails : GoodIn wsX8_stops wsX8_fails := goodIn_r _ [17, 1, 18, 19, 20, 21, 22, 23, 24, 25, 26, 27, 28, 29, 30, 31, 32, 33, 34, 35, 36, 37, 38, 39, 40, 41, 42, 43, 44] (by decide +kernel) (by decide +kernel)
set_option maxRecDepth 20000 in
theorem gX8_stops_X8_fails : GoodIn wsX8_stops (wsV RX8 94 RX8 yX8_fails wsX8_fails) := goodIn_app (goodIn_of _ (by decide +kernel)) ggX8_stops_X8_fails
theorem dX8_stops_0 : decode cX8_stops 0 = .ok (.aload_n 0, 1) := by decide +kernel
theorem dX8_stops_1 : decode cX8_stops 1 = .ok (.invokevirtual 91, 3) := by decide +kernel
theorem dX8_stops_4 : decode cX8_stops 4 = .ok (.aload_n 0, 1) := by decide +kernel
theorem dX8_stops_5 : decode cX8_stops 5 = .ok (.getfield 84, 3) := by decide +kernel
theorem dX8_stops_8 : decode cX8_stops 8 = .ok (.ifCond .ne 30, 3) := by decide +kernel
theorem dX8_stops_11 : decode cX8_stops 11 = .ok (.aload_n 0, 1) := by decide +kernel
theorem dX8_stops_12 : decode cX8_stops 12 = .ok (.invokevirtual 87, 3) := by decide +kernel
theorem dX8_stops_15 : decode cX8_stops 15 = .ok (.bipush 59, 2) := by decide +kernel
theorem dX8_stops_17 : decode cX8_stops 17 = .ok (.if_icmp .ne 16, 3) := by decide +kernel
theorem dX8_stops_20 : decode cX8_stops 20 = .ok (.aload_n 0, 1) := by decide +kernel
theorem dX8_stops_21 : decode cX8_stops 21 = .ok (.dup, 1) := by decide +kernel
theorem dX8_stops_22 : decode cX8_stops 22 = .ok (.getfield 81, 3) := by decide +kernel
theorem dX8_stops_25 : decode cX8_stops 25 = .ok (.iconst 1, 1) := by decide +kernel
theorem dX8_stops_26 : decode cX8_stops 26 = .ok (.iadd, 1) := by decide +kernel
theorem dX8_stops_27 : decode cX8_stops 27 = .ok (.putfield 81, 3) := by decide +kernel
theorem dX8_stops_30 : decode cX8_stops 30 = .ok (.goto 8, 3) := by decide +kernel
theorem dX8_stops_33 : decode cX8_stops 33 = .ok (.aload_n 0, 1) := by decide +kernel
theorem dX8_stops_34 : decode cX8_stops 34 = .ok (.iconst 1, 1) := by decide +kernel
theorem dX8_stops_35 : decode cX8_stops 35 = .ok (.invokevirtual 94, 3) := by decide +kernel
theorem dX8_stops_38 : decode cX8_stops 38 = .ok (.return_, 1) := by decide +kernel
set_option maxRecDepth 20000 in
theorem ggX8_number_X8_skips : GoodIn wsX8_number wsX8_skips := goodIn_r _ [7, 1, 2, 8, 9, 10, 6, 11, 12, 13, 21, 22, 23, 24, 25, 26, 27, 28, 29, 30, 31, 32, 33, 34, 35, 36, 37, 38, 39, 40, 41, 42, 43, 44, 45, 46, 47] (by decide +kernel) (by decide +kernel)
set_option maxRecDepth 20000 in
theorem gX8_number_X8_skips : GoodIn wsX8_number (wsV RX8 91 RX8 yX8_skips wsX8_skips) := goodIn_app (goodIn_of _ (by decide +kernel)) ggX8_number_X8_skips
set_option maxRecDepth 20000 in
theorem ggX8_number_X8_look : GoodIn wsX8_number wsX8_look := goodIn_r _ [11, 2, 12, 13, 21, 22, 23, 24, 25, 26, 27, 28, 29, 30, 31, 32, 33, 34, 35, 36, 37, 38, 39, 40, 41, 42, 43, 44, 45, 46, 47] (by decide +kernel) (by decide +kernel)
set_option maxRecDepth 20000 in
theorem gX8_number_X8_look : GoodIn wsX8_number (wsV RX8 87 RX8 yX8_look wsX8_look) := goodIn_app (goodIn_of _ (by decide +kernel)) ggX8_number_X8_look
set_option maxRecDepth 20000 in
theorem ggX8_number_X8_in : GoodIn wsX8_number wsX8_in := goodIn_r _ [16] (by decide +kernel) (by decide +kernel)
set_option maxRecDepth 20000 in
theorem gX8_number_X8_in : GoodIn wsX8_number (va_wsS RX8 72 yX8_in wsX8_in) := goodIn_app (goodIn_of _ (by decide +kernel)) ggX8_number_X8_in
set_option maxRecDepth 20000 in
theorem ggX8_number_X8_fails : GoodIn wsX8_number wsX8_fails := goodIn_r _ [20, 1, 21, 22, 23, 24, 25, 26, 27, 28, 29, 30, 31, 32, 33, 34, 35, 36, 37, 38, 39, 40, 41, 42, 43, 44, 45, 46, 47] (by decide +kernel) (by decide +kernel)
set_option maxRecDepth 20000 in
theorem gX8_number_X8_fails : GoodIn wsX8_number (wsV RX8 94 RX8 yX8_fails wsX8_fails) := goodIn_app (goodIn_of _ (by decide +kernel)) ggX8_number_X8_fails
theorem dX8_number_0 : decode cX8_number 0 = .ok (.aload_n 0, 1) := by decide +kernel
theorem dX8_number_1 : decode cX8_number 1 = .ok (.invokevirtual 91, 3) := by decide +kernel
theorem dX8_number_4 : decode cX8_number 4 = .ok (.aload_n 0, 1) := by decide +kernel
theorem dX8_number_5 : decode cX8_number 5 = .ok (.getfield 84, 3) := by decide +kernel
theorem dX8_number_8 : decode cX8_number 8 = .ok (.ifCond .eq 5, 3) := by decide +kernel
theorem dX8_number_11 : decode cX8_number 11 = .ok (.iconst 0, 1) := by decide +kernel
theorem dX8_number_12 : decode cX8_number 12 = .ok (.ireturn, 1) := by decide +kernel
theorem dX8_number_13 : decode cX8_number 13 = .ok (.aload_n 0, 1) := by decide +kernel
theorem dX8_number_14 : decode cX8_number 14 = .ok (.invokevirtual 87, 3) := by decide +kernel
theorem dX8_number_17 : decode cX8_number 17 = .ok (.bipush 48, 2) := by decide +kernel
theorem dX8_number_19 : decode cX8_number 19 = .ok (.bipush 57, 2) := by decide +kernel
theorem dX8_number_21 : decode cX8_number 21 = .ok (.invokestatic 72, 3) := by decide +kernel
theorem dX8_number_24 : decode cX8_number 24 = .ok (.ifCond .ne 10, 3) := by decide +kernel
theorem dX8_number_27 : decode cX8_number 27 = .ok (.aload_n 0, 1) := by decide +kernel
theorem dX8_number_28 : decode cX8_number 28 = .ok (.iconst 1, 1) := by decide +kernel
theorem dX8_number_29 : decode cX8_number 29 = .ok (.invokevirtual 94, 3) := by decide +kernel
theorem dX8_number_32 : decode cX8_number 32 = .ok (.iconst 0, 1) := by decide +kernel
theorem dX8_number_33 : decode cX8_number 33 = .ok (.ireturn, 1) := by decide +kernel
theorem dX8_number_34 : decode cX8_number 34 = .ok (.aload_n 0, 1) := by decide +kernel
theorem dX8_number_35 : decode cX8_number 35 = .ok (.getfield 81, 3) := by decide +kernel
theorem dX8_number_38 : decode cX8_number 38 = .ok (.istore_n 3, 1) := by decide +kernel
theorem dX8_number_39 : decode cX8_number 39 = .ok (.iconst 0, 1) := by decide +kernel
theorem dX8_number_40 : decode cX8_number 40 = .ok (.istore 4, 2) := by decide +kernel
theorem dX8_number_42 : decode cX8_number 42 = .ok (.aload_n 0, 1) := by decide +kernel
theorem dX8_number_43 : decode cX8_number 43 = .ok (.invokevirtual 87, 3) := by decide +kernel
theorem dX8_number_46 : decode cX8_number 46 = .ok (.bipush 48, 2) := by decide +kernel
theorem dX8_number_48 : decode cX8_number 48 = .ok (.bipush 57, 2) := by decide +kernel
theorem dX8_number_50 : decode cX8_number 50 = .ok (.invokestatic 72, 3) := by decide +kernel
theorem dX8_number_53 : decode cX8_number 53 = .ok (.ifCond .eq 46, 3) := by decide +kernel
theorem dX8_number_56 : decode cX8_number 56 = .ok (.aload_n 0, 1) := by decide +kernel
theorem dX8_number_57 : decode cX8_number 57 = .ok (.getfield 81, 3) := by decide +kernel
theorem dX8_number_60 : decode cX8_number 60 = .ok (.iload_n 3, 1) := by decide +kernel
theorem dX8_number_61 : decode cX8_number 61 = .ok (.isub, 1) := by decide +kernel
theorem dX8_number_62 : decode cX8_number 62 = .ok (.iconst 4, 1) := by decide +kernel
theorem dX8_number_63 : decode cX8_number 63 = .ok (.if_icmp .ge 19, 3) := by decide +kernel
theorem dX8_number_66 : decode cX8_number 66 = .ok (.bipush 10, 2) := by decide +kernel
theorem dX8_number_68 : decode cX8_number 68 = .ok (.iload 4, 2) := by decide +kernel
theorem dX8_number_70 : decode cX8_number 70 = .ok (.imul, 1) := by decide +kernel
theorem dX8_number_71 : decode cX8_number 71 = .ok (.aload_n 0, 1) := by decide +kernel
theorem dX8_number_72 : decode cX8_number 72 = .ok (.invokevirtual 87, 3) := by decide +kernel
theorem dX8_number_75 : decode cX8_number 75 = .ok (.iadd, 1) := by decide +kernel
theorem dX8_number_76 : decode cX8_number 76 = .ok (.bipush 48, 2) := by decide +kernel
theorem dX8_number_78 : decode cX8_number 78 = .ok (.isub, 1) := by decide +kernel
theorem dX8_number_79 : decode cX8_number 79 = .ok (.goto 5, 3) := by decide +kernel
theorem dX8_number_82 : decode cX8_number 82 = .ok (.iload 4, 2) := by decide +kernel
theorem dX8_number_84 : decode cX8_number 84 = .ok (.istore 4, 2) := by decide +kernel
theorem dX8_number_86 : decode cX8_number 86 = .ok (.aload_n 0, 1) := by decide +kernel
theorem dX8_number_87 : decode cX8_number 87 = .ok (.dup, 1) := by decide +kernel
theorem dX8_number_88 : decode cX8_number 88 = .ok (.getfield 81, 3) := by decide +kernel
theorem dX8_number_91 : decode cX8_number 91 = .ok (.iconst 1, 1) := by decide +kernel
theorem dX8_number_92 : decode cX8_number 92 = .ok (.iadd, 1) := by decide +kernel
theorem dX8_number_93 : decode cX8_number 93 = .ok (.putfield 81, 3) := by decide +kernel
theorem dX8_number_96 : decode cX8_number 96 = .ok (.goto (-54), 3) := by decide +kernel
theorem dX8_number_99 : decode cX8_number 99 = .ok (.aload_n 0, 1) := by decide +kernel
theorem dX8_number_100 : decode cX8_number 100 = .ok (.getfield 81, 3) := by decide +kernel
theorem dX8_number_103 : decode cX8_number 103 = .ok (.iload_n 3, 1) := by decide +kernel
theorem dX8_number_104 : decode cX8_number 104 = .ok (.isub, 1) := by decide +kernel
theorem dX8_number_105 : decode cX8_number 105 = .ok (.iconst 4, 1) := by decide +kernel
theorem dX8_number_106 : decode cX8_number 106 = .ok (.if_icmp .gt 13, 3) := by decide +kernel
theorem dX8_number_109 : decode cX8_number 109 = .ok (.iload 4, 2) := by decide +kernel
theorem dX8_number_111 : decode cX8_number 111 = .ok (.iload_n 1, 1) := by decide +kernel
theorem dX8_number_112 : decode cX8_number 112 = .ok (.iload_n 2, 1) := by decide +kernel
theorem dX8_number_113 : decode cX8_number 113 = .ok (.invokestatic 72, 3) := by decide +kernel
theorem dX8_number_116 : decode cX8_number 116 = .ok (.ifCond .ne 13, 3) := by decide +kernel
theorem dX8_number_119 : decode cX8_number 119 = .ok (.aload_n 0, 1) := by decide +kernel
theorem dX8_number_120 : decode cX8_number 120 = .ok (.iload_n 3, 1) := by decide +kernel
theorem dX8_number_121 : decode cX8_number 121 = .ok (.putfield 81, 3) := by decide +kernel
theorem dX8_number_124 : decode cX8_number 124 = .ok (.aload_n 0, 1) := by decide +kernel
theorem dX8_number_125 : decode cX8_number 125 = .ok (.iconst 2, 1) := by decide +kernel
theorem dX8_number_126 : decode cX8_number 126 = .ok (.invokevirtual 94, 3) := by decide +kernel
theorem dX8_number_129 : decode cX8_number 129 = .ok (.iload 4, 2) := by decide +kernel
theorem dX8_number_131 : decode cX8_number 131 = .ok (.ireturn, 1) := by decide +kernel
set_option maxRecDepth 20000 in
theorem ggX8_opens_X8_fails : GoodIn wsX8_opens wsX8_fails := goodIn_r _ [6, 7, 8, 9, 10, 11, 12, 13, 14, 15, 16, 17, 18, 19, 20, 21, 22, 23, 24, 25, 26, 27, 28, 29, 30, 31, 32, 33, 34] (by decide +kernel) (by decide +kernel)
set_option maxRecDepth 20000 in
theorem gX8_opens_X8_fails : GoodIn wsX8_opens (wsV RX8 94 RX8 yX8_fails wsX8_fails) := goodIn_app (goodIn_of _ (by decide +kernel)) ggX8_opens_X8_fails
theorem dX8_opens_0 : decode cX8_opens 0 = .ok (.iload_n 1, 1) := by decide +kernel
theorem dX8_opens_1 : decode cX8_opens 1 = .ok (.iload_n 2, 1) := by decide +kernel
theorem dX8_opens_2 : decode cX8_opens 2 = .ok (.if_icmp .ne 10, 3) := by decide +kernel
theorem dX8_opens_5 : decode cX8_opens 5 = .ok (.aload_n 0, 1) := by decide +kernel
theorem dX8_opens_6 : decode cX8_opens 6 = .ok (.iconst 3, 1) := by decide +kernel
theorem dX8_opens_7 : decode cX8_opens 7 = .ok (.invokevirtual 94, 3) := by decide +kernel
theorem dX8_opens_10 : decode cX8_opens 10 = .ok (.iconst 0, 1) := by decide +kernel
theorem dX8_opens_11 : decode cX8_opens 11 = .ok (.ireturn, 1) := by decide +kernel
theorem dX8_opens_12 : decode cX8_opens 12 = .ok (.aload_n 0, 1) := by decide +kernel
theorem dX8_opens_13 : decode cX8_opens 13 = .ok (.dup, 1) := by decide +kernel
theorem dX8_opens_14 : decode cX8_opens 14 = .ok (.getfield 81, 3) := by decide +kernel
theorem dX8_opens_17 : decode cX8_opens 17 = .ok (.iconst 1, 1) := by decide +kernel
theorem dX8_opens_18 : decode cX8_opens 18 = .ok (.iadd, 1) := by decide +kernel
theorem dX8_opens_19 : decode cX8_opens 19 = .ok (.putfield 81, 3) := by decide +kernel
theorem dX8_opens_22 : decode cX8_opens 22 = .ok (.iconst 1, 1) := by decide +kernel
theorem dX8_opens_23 : decode cX8_opens 23 = .ok (.ireturn, 1) := by decide +kernel
set_option maxRecDepth 20000 in
theorem ggX8_readsLaw_X8_opens : GoodIn wsX8_readsLaw wsX8_opens := goodIn_r _ [6, 7, 8, 9, 10, 5, 11, 12, 34, 35, 36, 37, 38, 39, 40, 41, 42, 43, 44, 45, 46, 47, 48, 49, 50, 51, 52, 53, 54, 55, 56, 57, 58, 59, 60] (by decide +kernel) (by decide +kernel)
set_option maxRecDepth 20000 in
theorem gX8_readsLaw_X8_opens : GoodIn wsX8_readsLaw (wsV RX8 98 RX8 yX8_opens wsX8_opens) := goodIn_app (goodIn_of _ (by decide +kernel)) ggX8_readsLaw_X8_opens
set_option maxRecDepth 20000 in
theorem ggX8_readsLaw_X8_number : GoodIn wsX8_readsLaw wsX8_number := goodIn_r _ [16, 12, 7, 17, 18, 19, 5, 20, 21, 22, 23, 24, 25, 26, 27, 28, 29, 8, 9, 10, 11, 34, 35, 36, 37, 38, 39, 40, 41, 42, 43, 44, 45, 46, 47, 48, 49, 50, 51, 52, 53, 54, 55, 56, 57, 58, 59, 60] (by decide +kernel) (by decide +kernel)
set_option maxRecDepth 20000 in
theorem gX8_readsLaw_X8_number : GoodIn wsX8_readsLaw (wsV RX8 102 RX8 yX8_number wsX8_number) := goodIn_app (goodIn_of _ (by decide +kernel)) ggX8_readsLaw_X8_number
set_option maxRecDepth 20000 in
theorem ggX8_readsLaw_X8_stops : GoodIn wsX8_readsLaw wsX8_stops := goodIn_r _ [33, 12, 7, 17, 18, 19, 5, 20, 21, 22, 23, 24, 25, 26, 8, 9, 10, 11, 34, 35, 36, 37, 38, 39, 40, 41, 42, 43, 44, 45, 46, 47, 48, 49, 50, 51, 52, 53, 54, 55, 56, 57, 58, 59, 60] (by decide +kernel) (by decide +kernel)
set_option maxRecDepth 20000 in
theorem gX8_readsLaw_X8_stops : GoodIn wsX8_readsLaw (wsV RX8 106 RX8 yX8_stops wsX8_stops) := goodIn_app (goodIn_of _ (by decide +kernel)) ggX8_readsLaw_X8_stops
theorem dX8_readsLaw_0 : decode cX8_readsLaw 0 = .ok (.aload_n 0, 1) := by decide +kernel
theorem dX8_readsLaw_1 : decode cX8_readsLaw 1 = .ok (.aload_n 0, 1) := by decide +kernel
theorem dX8_readsLaw_2 : decode cX8_readsLaw 2 = .ok (.getfield 29, 3) := by decide +kernel
theorem dX8_readsLaw_5 : decode cX8_readsLaw 5 = .ok (.iconst 0, 1) := by decide +kernel
theorem dX8_readsLaw_6 : decode cX8_readsLaw 6 = .ok (.iaload, 1) := by decide +kernel
theorem dX8_readsLaw_7 : decode cX8_readsLaw 7 = .ok (.ifCond .ne 7, 3) := by decide +kernel
theorem dX8_readsLaw_10 : decode cX8_readsLaw 10 = .ok (.iconst 0, 1) := by decide +kernel
theorem dX8_readsLaw_11 : decode cX8_readsLaw 11 = .ok (.goto 4, 3) := by decide +kernel
theorem dX8_readsLaw_14 : decode cX8_readsLaw 14 = .ok (.iconst 1, 1) := by decide +kernel
theorem dX8_readsLaw_15 : decode cX8_readsLaw 15 = .ok (.iconst 1, 1) := by decide +kernel
theorem dX8_readsLaw_16 : decode cX8_readsLaw 16 = .ok (.invokevirtual 98, 3) := by decide +kernel
theorem dX8_readsLaw_19 : decode cX8_readsLaw 19 = .ok (.ifCond .eq 33, 3) := by decide +kernel
theorem dX8_readsLaw_22 : decode cX8_readsLaw 22 = .ok (.aload_n 0, 1) := by decide +kernel
theorem dX8_readsLaw_23 : decode cX8_readsLaw 23 = .ok (.getfield 29, 3) := by decide +kernel
theorem dX8_readsLaw_26 : decode cX8_readsLaw 26 = .ok (.iconst 0, 1) := by decide +kernel
theorem dX8_readsLaw_27 : decode cX8_readsLaw 27 = .ok (.aload_n 0, 1) := by decide +kernel
theorem dX8_readsLaw_28 : decode cX8_readsLaw 28 = .ok (.iconst 1, 1) := by decide +kernel
theorem dX8_readsLaw_29 : decode cX8_readsLaw 29 = .ok (.bipush 99, 2) := by decide +kernel
theorem dX8_readsLaw_31 : decode cX8_readsLaw 31 = .ok (.invokevirtual 102, 3) := by decide +kernel
theorem dX8_readsLaw_34 : decode cX8_readsLaw 34 = .ok (.iastore, 1) := by decide +kernel
theorem dX8_readsLaw_35 : decode cX8_readsLaw 35 = .ok (.aload_n 0, 1) := by decide +kernel
theorem dX8_readsLaw_36 : decode cX8_readsLaw 36 = .ok (.getfield 29, 3) := by decide +kernel
theorem dX8_readsLaw_39 : decode cX8_readsLaw 39 = .ok (.iconst 1, 1) := by decide +kernel
theorem dX8_readsLaw_40 : decode cX8_readsLaw 40 = .ok (.aload_n 0, 1) := by decide +kernel
theorem dX8_readsLaw_41 : decode cX8_readsLaw 41 = .ok (.iconst 1, 1) := by decide +kernel
theorem dX8_readsLaw_42 : decode cX8_readsLaw 42 = .ok (.bipush 60, 2) := by decide +kernel
theorem dX8_readsLaw_44 : decode cX8_readsLaw 44 = .ok (.invokevirtual 102, 3) := by decide +kernel
theorem dX8_readsLaw_47 : decode cX8_readsLaw 47 = .ok (.iastore, 1) := by decide +kernel
theorem dX8_readsLaw_48 : decode cX8_readsLaw 48 = .ok (.aload_n 0, 1) := by decide +kernel
theorem dX8_readsLaw_49 : decode cX8_readsLaw 49 = .ok (.invokevirtual 106, 3) := by decide +kernel
theorem dX8_readsLaw_52 : decode cX8_readsLaw 52 = .ok (.return_, 1) := by decide +kernel
set_option maxRecDepth 20000 in
theorem ggX8_readsDepth_X8_opens : GoodIn wsX8_readsDepth wsX8_opens := goodIn_r _ [7, 8, 9, 10, 11, 6, 12, 13, 35, 36, 37, 38, 39, 40, 41, 42, 43, 44, 45, 46, 47, 48, 49, 50, 51, 52, 53, 54, 55, 56, 57, 58, 59, 60, 61] (by decide +kernel) (by decide +kernel)
set_option maxRecDepth 20000 in
theorem gX8_readsDepth_X8_opens : GoodIn wsX8_readsDepth (wsV RX8 98 RX8 yX8_opens wsX8_opens) := goodIn_app (goodIn_of _ (by decide +kernel)) ggX8_readsDepth_X8_opens
set_option maxRecDepth 20000 in
theorem ggX8_readsDepth_X8_number : GoodIn wsX8_readsDepth wsX8_number := goodIn_r _ [17, 13, 8, 18, 19, 20, 6, 21, 22, 23, 24, 25, 26, 27, 28, 29, 30, 9, 10, 11, 12, 35, 36, 37, 38, 39, 40, 41, 42, 43, 44, 45, 46, 47, 48, 49, 50, 51, 52, 53, 54, 55, 56, 57, 58, 59, 60, 61] (by decide +kernel) (by decide +kernel)
set_option maxRecDepth 20000 in
theorem gX8_readsDepth_X8_number : GoodIn wsX8_readsDepth (wsV RX8 102 RX8 yX8_number wsX8_number) := goodIn_app (goodIn_of _ (by decide +kernel)) ggX8_readsDepth_X8_number
set_option maxRecDepth 20000 in
theorem ggX8_readsDepth_X8_stops : GoodIn wsX8_readsDepth wsX8_stops := goodIn_r _ [34, 13, 8, 18, 19, 20, 6, 21, 22, 23, 24, 25, 26, 27, 9, 10, 11, 12, 35, 36, 37, 38, 39, 40, 41, 42, 43, 44, 45, 46, 47, 48, 49, 50, 51, 52, 53, 54, 55, 56, 57, 58, 59, 60, 61] (by decide +kernel) (by decide +kernel)
set_option maxRecDepth 20000 in
theorem gX8_readsDepth_X8_stops : GoodIn wsX8_readsDepth (wsV RX8 106 RX8 yX8_stops wsX8_stops) := goodIn_app (goodIn_of _ (by decide +kernel)) ggX8_readsDepth_X8_stops
theorem dX8_readsDepth_0 : decode cX8_readsDepth 0 = .ok (.aload_n 0, 1) := by decide +kernel
theorem dX8_readsDepth_1 : decode cX8_readsDepth 1 = .ok (.aload_n 0, 1) := by decide +kernel
theorem dX8_readsDepth_2 : decode cX8_readsDepth 2 = .ok (.getfield 29, 3) := by decide +kernel
theorem dX8_readsDepth_5 : decode cX8_readsDepth 5 = .ok (.iconst 2, 1) := by decide +kernel
theorem dX8_readsDepth_6 : decode cX8_readsDepth 6 = .ok (.iaload, 1) := by decide +kernel
theorem dX8_readsDepth_7 : decode cX8_readsDepth 7 = .ok (.iconst 4, 1) := by decide +kernel
theorem dX8_readsDepth_8 : decode cX8_readsDepth 8 = .ok (.invokevirtual 98, 3) := by decide +kernel
theorem dX8_readsDepth_11 : decode cX8_readsDepth 11 = .ok (.ifCond .eq 36, 3) := by decide +kernel
theorem dX8_readsDepth_14 : decode cX8_readsDepth 14 = .ok (.aload_n 0, 1) := by decide +kernel
theorem dX8_readsDepth_15 : decode cX8_readsDepth 15 = .ok (.getfield 32, 3) := by decide +kernel
theorem dX8_readsDepth_18 : decode cX8_readsDepth 18 = .ok (.aload_n 0, 1) := by decide +kernel
theorem dX8_readsDepth_19 : decode cX8_readsDepth 19 = .ok (.getfield 29, 3) := by decide +kernel
theorem dX8_readsDepth_22 : decode cX8_readsDepth 22 = .ok (.iconst 2, 1) := by decide +kernel
theorem dX8_readsDepth_23 : decode cX8_readsDepth 23 = .ok (.iaload, 1) := by decide +kernel
theorem dX8_readsDepth_24 : decode cX8_readsDepth 24 = .ok (.aload_n 0, 1) := by decide +kernel
theorem dX8_readsDepth_25 : decode cX8_readsDepth 25 = .ok (.iconst 1, 1) := by decide +kernel
theorem dX8_readsDepth_26 : decode cX8_readsDepth 26 = .ok (.sipush 200, 3) := by decide +kernel
theorem dX8_readsDepth_29 : decode cX8_readsDepth 29 = .ok (.invokevirtual 102, 3) := by decide +kernel
theorem dX8_readsDepth_32 : decode cX8_readsDepth 32 = .ok (.iastore, 1) := by decide +kernel
theorem dX8_readsDepth_33 : decode cX8_readsDepth 33 = .ok (.aload_n 0, 1) := by decide +kernel
theorem dX8_readsDepth_34 : decode cX8_readsDepth 34 = .ok (.invokevirtual 106, 3) := by decide +kernel
theorem dX8_readsDepth_37 : decode cX8_readsDepth 37 = .ok (.aload_n 0, 1) := by decide +kernel
theorem dX8_readsDepth_38 : decode cX8_readsDepth 38 = .ok (.getfield 29, 3) := by decide +kernel
theorem dX8_readsDepth_41 : decode cX8_readsDepth 41 = .ok (.iconst 2, 1) := by decide +kernel
theorem dX8_readsDepth_42 : decode cX8_readsDepth 42 = .ok (.dup2, 1) := by decide +kernel
theorem dX8_readsDepth_43 : decode cX8_readsDepth 43 = .ok (.iaload, 1) := by decide +kernel
theorem dX8_readsDepth_44 : decode cX8_readsDepth 44 = .ok (.iconst 1, 1) := by decide +kernel
theorem dX8_readsDepth_45 : decode cX8_readsDepth 45 = .ok (.iadd, 1) := by decide +kernel
theorem dX8_readsDepth_46 : decode cX8_readsDepth 46 = .ok (.iastore, 1) := by decide +kernel
theorem dX8_readsDepth_47 : decode cX8_readsDepth 47 = .ok (.return_, 1) := by decide +kernel
set_option maxRecDepth 20000 in
theorem ggX8_readsPerson_X8_opens : GoodIn wsX8_readsPerson wsX8_opens := goodIn_r _ [7, 8, 9, 10, 11, 6, 12, 13, 35, 36, 37, 38, 39, 40, 41, 42, 43, 44, 45, 46, 47, 48, 49, 50, 51, 52, 53, 54, 55, 56, 57, 58, 59, 60, 61] (by decide +kernel) (by decide +kernel)
set_option maxRecDepth 20000 in
theorem gX8_readsPerson_X8_opens : GoodIn wsX8_readsPerson (wsV RX8 98 RX8 yX8_opens wsX8_opens) := goodIn_app (goodIn_of _ (by decide +kernel)) ggX8_readsPerson_X8_opens
set_option maxRecDepth 20000 in
theorem ggX8_readsPerson_X8_number : GoodIn wsX8_readsPerson wsX8_number := goodIn_r _ [17, 13, 8, 18, 19, 20, 6, 21, 22, 23, 24, 25, 26, 27, 28, 29, 30, 9, 10, 11, 12, 35, 36, 37, 38, 39, 40, 41, 42, 43, 44, 45, 46, 47, 48, 49, 50, 51, 52, 53, 54, 55, 56, 57, 58, 59, 60, 61] (by decide +kernel) (by decide +kernel)
set_option maxRecDepth 20000 in
theorem gX8_readsPerson_X8_number : GoodIn wsX8_readsPerson (wsV RX8 102 RX8 yX8_number wsX8_number) := goodIn_app (goodIn_of _ (by decide +kernel)) ggX8_readsPerson_X8_number
set_option maxRecDepth 20000 in
theorem ggX8_readsPerson_X8_stops : GoodIn wsX8_readsPerson wsX8_stops := goodIn_r _ [34, 13, 8, 18, 19, 20, 6, 21, 22, 23, 24, 25, 26, 27, 9, 10, 11, 12, 35, 36, 37, 38, 39, 40, 41, 42, 43, 44, 45, 46, 47, 48, 49, 50, 51, 52, 53, 54, 55, 56, 57, 58, 59, 60, 61] (by decide +kernel) (by decide +kernel)
set_option maxRecDepth 20000 in
theorem gX8_readsPerson_X8_stops : GoodIn wsX8_readsPerson (wsV RX8 106 RX8 yX8_stops wsX8_stops) := goodIn_app (goodIn_of _ (by decide +kernel)) ggX8_readsPerson_X8_stops
theorem dX8_readsPerson_0 : decode cX8_readsPerson 0 = .ok (.aload_n 0, 1) := by decide +kernel
theorem dX8_readsPerson_1 : decode cX8_readsPerson 1 = .ok (.aload_n 0, 1) := by decide +kernel
theorem dX8_readsPerson_2 : decode cX8_readsPerson 2 = .ok (.getfield 29, 3) := by decide +kernel
theorem dX8_readsPerson_5 : decode cX8_readsPerson 5 = .ok (.iconst 3, 1) := by decide +kernel
theorem dX8_readsPerson_6 : decode cX8_readsPerson 6 = .ok (.iaload, 1) := by decide +kernel
theorem dX8_readsPerson_7 : decode cX8_readsPerson 7 = .ok (.bipush 7, 2) := by decide +kernel
theorem dX8_readsPerson_9 : decode cX8_readsPerson 9 = .ok (.invokevirtual 98, 3) := by decide +kernel
theorem dX8_readsPerson_12 : decode cX8_readsPerson 12 = .ok (.ifCond .eq 60, 3) := by decide +kernel
theorem dX8_readsPerson_15 : decode cX8_readsPerson 15 = .ok (.aload_n 0, 1) := by decide +kernel
theorem dX8_readsPerson_16 : decode cX8_readsPerson 16 = .ok (.getfield 35, 3) := by decide +kernel
theorem dX8_readsPerson_19 : decode cX8_readsPerson 19 = .ok (.iconst 2, 1) := by decide +kernel
theorem dX8_readsPerson_20 : decode cX8_readsPerson 20 = .ok (.aload_n 0, 1) := by decide +kernel
theorem dX8_readsPerson_21 : decode cX8_readsPerson 21 = .ok (.getfield 29, 3) := by decide +kernel
theorem dX8_readsPerson_24 : decode cX8_readsPerson 24 = .ok (.iconst 3, 1) := by decide +kernel
theorem dX8_readsPerson_25 : decode cX8_readsPerson 25 = .ok (.iaload, 1) := by decide +kernel
theorem dX8_readsPerson_26 : decode cX8_readsPerson 26 = .ok (.imul, 1) := by decide +kernel
theorem dX8_readsPerson_27 : decode cX8_readsPerson 27 = .ok (.aload_n 0, 1) := by decide +kernel
theorem dX8_readsPerson_28 : decode cX8_readsPerson 28 = .ok (.iconst 0, 1) := by decide +kernel
theorem dX8_readsPerson_29 : decode cX8_readsPerson 29 = .ok (.bipush 99, 2) := by decide +kernel
theorem dX8_readsPerson_31 : decode cX8_readsPerson 31 = .ok (.invokevirtual 102, 3) := by decide +kernel
theorem dX8_readsPerson_34 : decode cX8_readsPerson 34 = .ok (.iastore, 1) := by decide +kernel
theorem dX8_readsPerson_35 : decode cX8_readsPerson 35 = .ok (.aload_n 0, 1) := by decide +kernel
theorem dX8_readsPerson_36 : decode cX8_readsPerson 36 = .ok (.getfield 35, 3) := by decide +kernel
theorem dX8_readsPerson_39 : decode cX8_readsPerson 39 = .ok (.iconst 2, 1) := by decide +kernel
theorem dX8_readsPerson_40 : decode cX8_readsPerson 40 = .ok (.aload_n 0, 1) := by decide +kernel
theorem dX8_readsPerson_41 : decode cX8_readsPerson 41 = .ok (.getfield 29, 3) := by decide +kernel
theorem dX8_readsPerson_44 : decode cX8_readsPerson 44 = .ok (.iconst 3, 1) := by decide +kernel
theorem dX8_readsPerson_45 : decode cX8_readsPerson 45 = .ok (.iaload, 1) := by decide +kernel
theorem dX8_readsPerson_46 : decode cX8_readsPerson 46 = .ok (.imul, 1) := by decide +kernel
theorem dX8_readsPerson_47 : decode cX8_readsPerson 47 = .ok (.iconst 1, 1) := by decide +kernel
theorem dX8_readsPerson_48 : decode cX8_readsPerson 48 = .ok (.iadd, 1) := by decide +kernel
theorem dX8_readsPerson_49 : decode cX8_readsPerson 49 = .ok (.aload_n 0, 1) := by decide +kernel
theorem dX8_readsPerson_50 : decode cX8_readsPerson 50 = .ok (.iconst 1, 1) := by decide +kernel
theorem dX8_readsPerson_51 : decode cX8_readsPerson 51 = .ok (.sipush 150, 3) := by decide +kernel
theorem dX8_readsPerson_54 : decode cX8_readsPerson 54 = .ok (.invokevirtual 102, 3) := by decide +kernel
theorem dX8_readsPerson_57 : decode cX8_readsPerson 57 = .ok (.iastore, 1) := by decide +kernel
theorem dX8_readsPerson_58 : decode cX8_readsPerson 58 = .ok (.aload_n 0, 1) := by decide +kernel
theorem dX8_readsPerson_59 : decode cX8_readsPerson 59 = .ok (.invokevirtual 106, 3) := by decide +kernel
theorem dX8_readsPerson_62 : decode cX8_readsPerson 62 = .ok (.aload_n 0, 1) := by decide +kernel
theorem dX8_readsPerson_63 : decode cX8_readsPerson 63 = .ok (.getfield 29, 3) := by decide +kernel
theorem dX8_readsPerson_66 : decode cX8_readsPerson 66 = .ok (.iconst 3, 1) := by decide +kernel
theorem dX8_readsPerson_67 : decode cX8_readsPerson 67 = .ok (.dup2, 1) := by decide +kernel
theorem dX8_readsPerson_68 : decode cX8_readsPerson 68 = .ok (.iaload, 1) := by decide +kernel
theorem dX8_readsPerson_69 : decode cX8_readsPerson 69 = .ok (.iconst 1, 1) := by decide +kernel
theorem dX8_readsPerson_70 : decode cX8_readsPerson 70 = .ok (.iadd, 1) := by decide +kernel
theorem dX8_readsPerson_71 : decode cX8_readsPerson 71 = .ok (.iastore, 1) := by decide +kernel
theorem dX8_readsPerson_72 : decode cX8_readsPerson 72 = .ok (.return_, 1) := by decide +kernel
set_option maxRecDepth 20000 in
theorem ggX8_readsGood_X8_opens : GoodIn wsX8_readsGood wsX8_opens := goodIn_r _ [7, 8, 9, 10, 11, 6, 12, 13, 35, 36, 37, 38, 39, 40, 41, 42, 43, 44, 45, 46, 47, 48, 49, 50, 51, 52, 53, 54, 55, 56, 57, 58, 59, 60, 61] (by decide +kernel) (by decide +kernel)
set_option maxRecDepth 20000 in
theorem gX8_readsGood_X8_opens : GoodIn wsX8_readsGood (wsV RX8 98 RX8 yX8_opens wsX8_opens) := goodIn_app (goodIn_of _ (by decide +kernel)) ggX8_readsGood_X8_opens
set_option maxRecDepth 20000 in
theorem ggX8_readsGood_X8_number : GoodIn wsX8_readsGood wsX8_number := goodIn_r _ [17, 13, 8, 18, 19, 20, 6, 21, 22, 23, 24, 25, 26, 27, 28, 29, 30, 9, 10, 11, 12, 35, 36, 37, 38, 39, 40, 41, 42, 43, 44, 45, 46, 47, 48, 49, 50, 51, 52, 53, 54, 55, 56, 57, 58, 59, 60, 61] (by decide +kernel) (by decide +kernel)
set_option maxRecDepth 20000 in
theorem gX8_readsGood_X8_number : GoodIn wsX8_readsGood (wsV RX8 102 RX8 yX8_number wsX8_number) := goodIn_app (goodIn_of _ (by decide +kernel)) ggX8_readsGood_X8_number
set_option maxRecDepth 20000 in
theorem ggX8_readsGood_X8_stops : GoodIn wsX8_readsGood wsX8_stops := goodIn_r _ [34, 13, 8, 18, 19, 20, 6, 21, 22, 23, 24, 25, 26, 27, 9, 10, 11, 12, 35, 36, 37, 38, 39, 40, 41, 42, 43, 44, 45, 46, 47, 48, 49, 50, 51, 52, 53, 54, 55, 56, 57, 58, 59, 60, 61] (by decide +kernel) (by decide +kernel)
set_option maxRecDepth 20000 in
theorem gX8_readsGood_X8_stops : GoodIn wsX8_readsGood (wsV RX8 106 RX8 yX8_stops wsX8_stops) := goodIn_app (goodIn_of _ (by decide +kernel)) ggX8_readsGood_X8_stops
theorem dX8_readsGood_0 : decode cX8_readsGood 0 = .ok (.aload_n 0, 1) := by decide +kernel
theorem dX8_readsGood_1 : decode cX8_readsGood 1 = .ok (.aload_n 0, 1) := by decide +kernel
theorem dX8_readsGood_2 : decode cX8_readsGood 2 = .ok (.getfield 29, 3) := by decide +kernel
theorem dX8_readsGood_5 : decode cX8_readsGood 5 = .ok (.iconst 4, 1) := by decide +kernel
theorem dX8_readsGood_6 : decode cX8_readsGood 6 = .ok (.iaload, 1) := by decide +kernel
theorem dX8_readsGood_7 : decode cX8_readsGood 7 = .ok (.bipush 6, 2) := by decide +kernel
theorem dX8_readsGood_9 : decode cX8_readsGood 9 = .ok (.invokevirtual 98, 3) := by decide +kernel
theorem dX8_readsGood_12 : decode cX8_readsGood 12 = .ok (.ifCond .eq 83, 3) := by decide +kernel
theorem dX8_readsGood_15 : decode cX8_readsGood 15 = .ok (.aload_n 0, 1) := by decide +kernel
theorem dX8_readsGood_16 : decode cX8_readsGood 16 = .ok (.getfield 38, 3) := by decide +kernel
theorem dX8_readsGood_19 : decode cX8_readsGood 19 = .ok (.iconst 3, 1) := by decide +kernel
theorem dX8_readsGood_20 : decode cX8_readsGood 20 = .ok (.aload_n 0, 1) := by decide +kernel
theorem dX8_readsGood_21 : decode cX8_readsGood 21 = .ok (.getfield 29, 3) := by decide +kernel
theorem dX8_readsGood_24 : decode cX8_readsGood 24 = .ok (.iconst 4, 1) := by decide +kernel
theorem dX8_readsGood_25 : decode cX8_readsGood 25 = .ok (.iaload, 1) := by decide +kernel
theorem dX8_readsGood_26 : decode cX8_readsGood 26 = .ok (.imul, 1) := by decide +kernel
theorem dX8_readsGood_27 : decode cX8_readsGood 27 = .ok (.aload_n 0, 1) := by decide +kernel
theorem dX8_readsGood_28 : decode cX8_readsGood 28 = .ok (.iconst 1, 1) := by decide +kernel
theorem dX8_readsGood_29 : decode cX8_readsGood 29 = .ok (.sipush 999, 3) := by decide +kernel
theorem dX8_readsGood_32 : decode cX8_readsGood 32 = .ok (.invokevirtual 102, 3) := by decide +kernel
theorem dX8_readsGood_35 : decode cX8_readsGood 35 = .ok (.iastore, 1) := by decide +kernel
theorem dX8_readsGood_36 : decode cX8_readsGood 36 = .ok (.aload_n 0, 1) := by decide +kernel
theorem dX8_readsGood_37 : decode cX8_readsGood 37 = .ok (.getfield 38, 3) := by decide +kernel
theorem dX8_readsGood_40 : decode cX8_readsGood 40 = .ok (.iconst 3, 1) := by decide +kernel
theorem dX8_readsGood_41 : decode cX8_readsGood 41 = .ok (.aload_n 0, 1) := by decide +kernel
theorem dX8_readsGood_42 : decode cX8_readsGood 42 = .ok (.getfield 29, 3) := by decide +kernel
theorem dX8_readsGood_45 : decode cX8_readsGood 45 = .ok (.iconst 4, 1) := by decide +kernel
theorem dX8_readsGood_46 : decode cX8_readsGood 46 = .ok (.iaload, 1) := by decide +kernel
theorem dX8_readsGood_47 : decode cX8_readsGood 47 = .ok (.imul, 1) := by decide +kernel
theorem dX8_readsGood_48 : decode cX8_readsGood 48 = .ok (.iconst 1, 1) := by decide +kernel
theorem dX8_readsGood_49 : decode cX8_readsGood 49 = .ok (.iadd, 1) := by decide +kernel
theorem dX8_readsGood_50 : decode cX8_readsGood 50 = .ok (.aload_n 0, 1) := by decide +kernel
theorem dX8_readsGood_51 : decode cX8_readsGood 51 = .ok (.iconst 0, 1) := by decide +kernel
theorem dX8_readsGood_52 : decode cX8_readsGood 52 = .ok (.bipush 100, 2) := by decide +kernel
theorem dX8_readsGood_54 : decode cX8_readsGood 54 = .ok (.invokevirtual 102, 3) := by decide +kernel
theorem dX8_readsGood_57 : decode cX8_readsGood 57 = .ok (.iastore, 1) := by decide +kernel
theorem dX8_readsGood_58 : decode cX8_readsGood 58 = .ok (.aload_n 0, 1) := by decide +kernel
theorem dX8_readsGood_59 : decode cX8_readsGood 59 = .ok (.getfield 38, 3) := by decide +kernel
theorem dX8_readsGood_62 : decode cX8_readsGood 62 = .ok (.iconst 3, 1) := by decide +kernel
theorem dX8_readsGood_63 : decode cX8_readsGood 63 = .ok (.aload_n 0, 1) := by decide +kernel
theorem dX8_readsGood_64 : decode cX8_readsGood 64 = .ok (.getfield 29, 3) := by decide +kernel
theorem dX8_readsGood_67 : decode cX8_readsGood 67 = .ok (.iconst 4, 1) := by decide +kernel
theorem dX8_readsGood_68 : decode cX8_readsGood 68 = .ok (.iaload, 1) := by decide +kernel
theorem dX8_readsGood_69 : decode cX8_readsGood 69 = .ok (.imul, 1) := by decide +kernel
theorem dX8_readsGood_70 : decode cX8_readsGood 70 = .ok (.iconst 2, 1) := by decide +kernel
theorem dX8_readsGood_71 : decode cX8_readsGood 71 = .ok (.iadd, 1) := by decide +kernel
theorem dX8_readsGood_72 : decode cX8_readsGood 72 = .ok (.aload_n 0, 1) := by decide +kernel
theorem dX8_readsGood_73 : decode cX8_readsGood 73 = .ok (.iconst 0, 1) := by decide +kernel
theorem dX8_readsGood_74 : decode cX8_readsGood 74 = .ok (.sipush 9999, 3) := by decide +kernel
theorem dX8_readsGood_77 : decode cX8_readsGood 77 = .ok (.invokevirtual 102, 3) := by decide +kernel
theorem dX8_readsGood_80 : decode cX8_readsGood 80 = .ok (.iastore, 1) := by decide +kernel
theorem dX8_readsGood_81 : decode cX8_readsGood 81 = .ok (.aload_n 0, 1) := by decide +kernel
theorem dX8_readsGood_82 : decode cX8_readsGood 82 = .ok (.invokevirtual 106, 3) := by decide +kernel
theorem dX8_readsGood_85 : decode cX8_readsGood 85 = .ok (.aload_n 0, 1) := by decide +kernel
theorem dX8_readsGood_86 : decode cX8_readsGood 86 = .ok (.getfield 29, 3) := by decide +kernel
theorem dX8_readsGood_89 : decode cX8_readsGood 89 = .ok (.iconst 4, 1) := by decide +kernel
theorem dX8_readsGood_90 : decode cX8_readsGood 90 = .ok (.dup2, 1) := by decide +kernel
theorem dX8_readsGood_91 : decode cX8_readsGood 91 = .ok (.iaload, 1) := by decide +kernel
theorem dX8_readsGood_92 : decode cX8_readsGood 92 = .ok (.iconst 1, 1) := by decide +kernel
theorem dX8_readsGood_93 : decode cX8_readsGood 93 = .ok (.iadd, 1) := by decide +kernel
theorem dX8_readsGood_94 : decode cX8_readsGood 94 = .ok (.iastore, 1) := by decide +kernel
theorem dX8_readsGood_95 : decode cX8_readsGood 95 = .ok (.return_, 1) := by decide +kernel
set_option maxRecDepth 20000 in
theorem ggX8_reads_X8_look : GoodIn wsX8_reads wsX8_look := goodIn_r _ [7, 8, 9, 10, 53, 54, 55, 56, 57, 58, 59, 60, 61, 62, 63, 64, 65, 66, 67, 68, 69, 70, 71, 72, 73, 74, 75, 76, 77, 78, 79] (by decide +kernel) (by decide +kernel)
set_option maxRecDepth 20000 in
theorem gX8_reads_X8_look : GoodIn wsX8_reads (wsV RX8 87 RX8 yX8_look wsX8_look) := goodIn_app (goodIn_of _ (by decide +kernel)) ggX8_reads_X8_look
set_option maxRecDepth 20000 in
theorem ggX8_reads_X8_readsLaw : GoodIn wsX8_reads wsX8_readsLaw := goodIn_r _ [14, 2, 15, 16, 17, 6, 18, 8, 19, 20, 21, 22, 1, 23, 24, 25, 26, 27, 28, 29, 30, 3, 4, 5, 7, 9, 10, 31, 32, 33, 34, 35, 36, 37, 53, 54, 55, 56, 57, 58, 59, 60, 61, 62, 63, 64, 65, 66, 67, 68, 69, 70, 71, 72, 73, 74, 75, 76, 77, 78, 79] (by decide +kernel) (by decide +kernel)
set_option maxRecDepth 20000 in
theorem gX8_reads_X8_readsLaw : GoodIn wsX8_reads (wsV RX8 109 RX8 yX8_readsLaw wsX8_readsLaw) := goodIn_app (goodIn_of _ (by decide +kernel)) ggX8_reads_X8_readsLaw
set_option maxRecDepth 20000 in
theorem ggX8_reads_X8_fails : GoodIn wsX8_reads wsX8_fails := goodIn_r _ [22, 1, 53, 54, 55, 56, 57, 58, 59, 60, 61, 62, 63, 64, 65, 66, 67, 68, 69, 70, 71, 72, 73, 74, 75, 76, 77, 78, 79] (by decide +kernel) (by decide +kernel)
set_option maxRecDepth 20000 in
theorem gX8_reads_X8_fails : GoodIn wsX8_reads (wsV RX8 94 RX8 yX8_fails wsX8_fails) := goodIn_app (goodIn_of _ (by decide +kernel)) ggX8_reads_X8_fails
set_option maxRecDepth 20000 in
theorem ggX8_reads_X8_readsDepth : GoodIn wsX8_reads wsX8_readsDepth := goodIn_r _ [41, 2, 42, 15, 16, 17, 6, 18, 8, 19, 20, 21, 22, 1, 23, 24, 25, 26, 27, 28, 29, 30, 3, 4, 5, 7, 9, 10, 31, 32, 33, 34, 35, 36, 37, 53, 54, 55, 56, 57, 58, 59, 60, 61, 62, 63, 64, 65, 66, 67, 68, 69, 70, 71, 72, 73, 74, 75, 76, 77, 78, 79] (by decide +kernel) (by decide +kernel)
set_option maxRecDepth 20000 in
theorem gX8_reads_X8_readsDepth : GoodIn wsX8_reads (wsV RX8 112 RX8 yX8_readsDepth wsX8_readsDepth) := goodIn_app (goodIn_of _ (by decide +kernel)) ggX8_reads_X8_readsDepth
set_option maxRecDepth 20000 in
theorem ggX8_reads_X8_readsPerson : GoodIn wsX8_reads wsX8_readsPerson := goodIn_r _ [46, 2, 47, 15, 16, 17, 6, 18, 8, 19, 20, 21, 22, 1, 23, 24, 25, 26, 27, 28, 29, 30, 3, 4, 5, 7, 9, 10, 31, 32, 33, 34, 35, 36, 37, 53, 54, 55, 56, 57, 58, 59, 60, 61, 62, 63, 64, 65, 66, 67, 68, 69, 70, 71, 72, 73, 74, 75, 76, 77, 78, 79] (by decide +kernel) (by decide +kernel)
set_option maxRecDepth 20000 in
theorem gX8_reads_X8_readsPerson : GoodIn wsX8_reads (wsV RX8 115 RX8 yX8_readsPerson wsX8_readsPerson) := goodIn_app (goodIn_of _ (by decide +kernel)) ggX8_reads_X8_readsPerson
set_option maxRecDepth 20000 in
theorem ggX8_reads_X8_readsGood : GoodIn wsX8_reads wsX8_readsGood := goodIn_r _ [51, 2, 52, 15, 16, 17, 6, 18, 8, 19, 20, 21, 22, 1, 23, 24, 25, 26, 27, 28, 29, 30, 3, 4, 5, 7, 9, 10, 31, 32, 33, 34, 35, 36, 37, 53, 54, 55, 56, 57, 58, 59, 60, 61, 62, 63, 64, 65, 66, 67, 68, 69, 70, 71, 72, 73, 74, 75, 76, 77, 78, 79] (by decide +kernel) (by decide +kernel)
set_option maxRecDepth 20000 in
theorem gX8_reads_X8_readsGood : GoodIn wsX8_reads (wsV RX8 118 RX8 yX8_readsGood wsX8_readsGood) := goodIn_app (goodIn_of _ (by decide +kernel)) ggX8_reads_X8_readsGood
set_option maxRecDepth 20000 in
theorem ggX8_reads_X8_skips : GoodIn wsX8_reads wsX8_skips := goodIn_r _ [30, 1, 8, 3, 4, 5, 6, 7, 9, 10, 53, 54, 55, 56, 57, 58, 59, 60, 61, 62, 63, 64, 65, 66, 67, 68, 69, 70, 71, 72, 73, 74, 75, 76, 77, 78, 79] (by decide +kernel) (by decide +kernel)
set_option maxRecDepth 20000 in
theorem gX8_reads_X8_skips : GoodIn wsX8_reads (wsV RX8 91 RX8 yX8_skips wsX8_skips) := goodIn_app (goodIn_of _ (by decide +kernel)) ggX8_reads_X8_skips
theorem dX8_reads_0 : decode cX8_reads 0 = .ok (.aload_n 0, 1) := by decide +kernel
theorem dX8_reads_1 : decode cX8_reads 1 = .ok (.getfield 84, 3) := by decide +kernel
theorem dX8_reads_4 : decode cX8_reads 4 = .ok (.ifCond .ne 104, 3) := by decide +kernel
theorem dX8_reads_7 : decode cX8_reads 7 = .ok (.aload_n 0, 1) := by decide +kernel
theorem dX8_reads_8 : decode cX8_reads 8 = .ok (.invokevirtual 87, 3) := by decide +kernel
theorem dX8_reads_11 : decode cX8_reads 11 = .ok (.iconst (-1), 1) := by decide +kernel
theorem dX8_reads_12 : decode cX8_reads 12 = .ok (.if_icmp .eq 96, 3) := by decide +kernel
theorem dX8_reads_15 : decode cX8_reads 15 = .ok (.aload_n 0, 1) := by decide +kernel
theorem dX8_reads_16 : decode cX8_reads 16 = .ok (.invokevirtual 87, 3) := by decide +kernel
theorem dX8_reads_19 : decode cX8_reads 19 = .ok (.bipush 115, 2) := by decide +kernel
theorem dX8_reads_21 : decode cX8_reads 21 = .ok (.if_icmp .ne 10, 3) := by decide +kernel
theorem dX8_reads_24 : decode cX8_reads 24 = .ok (.aload_n 0, 1) := by decide +kernel
theorem dX8_reads_25 : decode cX8_reads 25 = .ok (.invokevirtual 109, 3) := by decide +kernel
theorem dX8_reads_28 : decode cX8_reads 28 = .ok (.goto 73, 3) := by decide +kernel
theorem dX8_reads_31 : decode cX8_reads 31 = .ok (.aload_n 0, 1) := by decide +kernel
theorem dX8_reads_32 : decode cX8_reads 32 = .ok (.getfield 29, 3) := by decide +kernel
theorem dX8_reads_35 : decode cX8_reads 35 = .ok (.iconst 0, 1) := by decide +kernel
theorem dX8_reads_36 : decode cX8_reads 36 = .ok (.iaload, 1) := by decide +kernel
theorem dX8_reads_37 : decode cX8_reads 37 = .ok (.ifCond .ne 11, 3) := by decide +kernel
theorem dX8_reads_40 : decode cX8_reads 40 = .ok (.aload_n 0, 1) := by decide +kernel
theorem dX8_reads_41 : decode cX8_reads 41 = .ok (.iconst 1, 1) := by decide +kernel
theorem dX8_reads_42 : decode cX8_reads 42 = .ok (.invokevirtual 94, 3) := by decide +kernel
theorem dX8_reads_45 : decode cX8_reads 45 = .ok (.goto 56, 3) := by decide +kernel
theorem dX8_reads_48 : decode cX8_reads 48 = .ok (.aload_n 0, 1) := by decide +kernel
theorem dX8_reads_49 : decode cX8_reads 49 = .ok (.invokevirtual 87, 3) := by decide +kernel
theorem dX8_reads_52 : decode cX8_reads 52 = .ok (.bipush 100, 2) := by decide +kernel
theorem dX8_reads_54 : decode cX8_reads 54 = .ok (.if_icmp .ne 10, 3) := by decide +kernel
theorem dX8_reads_57 : decode cX8_reads 57 = .ok (.aload_n 0, 1) := by decide +kernel
theorem dX8_reads_58 : decode cX8_reads 58 = .ok (.invokevirtual 112, 3) := by decide +kernel
theorem dX8_reads_61 : decode cX8_reads 61 = .ok (.goto 40, 3) := by decide +kernel
theorem dX8_reads_64 : decode cX8_reads 64 = .ok (.aload_n 0, 1) := by decide +kernel
theorem dX8_reads_65 : decode cX8_reads 65 = .ok (.invokevirtual 87, 3) := by decide +kernel
theorem dX8_reads_68 : decode cX8_reads 68 = .ok (.bipush 112, 2) := by decide +kernel
theorem dX8_reads_70 : decode cX8_reads 70 = .ok (.if_icmp .ne 10, 3) := by decide +kernel
theorem dX8_reads_73 : decode cX8_reads 73 = .ok (.aload_n 0, 1) := by decide +kernel
theorem dX8_reads_74 : decode cX8_reads 74 = .ok (.invokevirtual 115, 3) := by decide +kernel
theorem dX8_reads_77 : decode cX8_reads 77 = .ok (.goto 24, 3) := by decide +kernel
theorem dX8_reads_80 : decode cX8_reads 80 = .ok (.aload_n 0, 1) := by decide +kernel
theorem dX8_reads_81 : decode cX8_reads 81 = .ok (.invokevirtual 87, 3) := by decide +kernel
theorem dX8_reads_84 : decode cX8_reads 84 = .ok (.bipush 103, 2) := by decide +kernel
theorem dX8_reads_86 : decode cX8_reads 86 = .ok (.if_icmp .ne 10, 3) := by decide +kernel
theorem dX8_reads_89 : decode cX8_reads 89 = .ok (.aload_n 0, 1) := by decide +kernel
theorem dX8_reads_90 : decode cX8_reads 90 = .ok (.invokevirtual 118, 3) := by decide +kernel
theorem dX8_reads_93 : decode cX8_reads 93 = .ok (.goto 8, 3) := by decide +kernel
theorem dX8_reads_96 : decode cX8_reads 96 = .ok (.aload_n 0, 1) := by decide +kernel
theorem dX8_reads_97 : decode cX8_reads 97 = .ok (.iconst 1, 1) := by decide +kernel
theorem dX8_reads_98 : decode cX8_reads 98 = .ok (.invokevirtual 94, 3) := by decide +kernel
theorem dX8_reads_101 : decode cX8_reads 101 = .ok (.aload_n 0, 1) := by decide +kernel
theorem dX8_reads_102 : decode cX8_reads 102 = .ok (.invokevirtual 91, 3) := by decide +kernel
theorem dX8_reads_105 : decode cX8_reads 105 = .ok (.goto (-105), 3) := by decide +kernel
theorem dX8_reads_108 : decode cX8_reads 108 = .ok (.return_, 1) := by decide +kernel
theorem dX8_copies_0 : decode cX8_copies 0 = .ok (.iconst 0, 1) := by decide +kernel
theorem dX8_copies_1 : decode cX8_copies 1 = .ok (.istore_n 3, 1) := by decide +kernel
theorem dX8_copies_2 : decode cX8_copies 2 = .ok (.iload_n 3, 1) := by decide +kernel
theorem dX8_copies_3 : decode cX8_copies 3 = .ok (.iload_n 2, 1) := by decide +kernel
theorem dX8_copies_4 : decode cX8_copies 4 = .ok (.if_icmp .ge 15, 3) := by decide +kernel
theorem dX8_copies_7 : decode cX8_copies 7 = .ok (.aload_n 1, 1) := by decide +kernel
theorem dX8_copies_8 : decode cX8_copies 8 = .ok (.iload_n 3, 1) := by decide +kernel
theorem dX8_copies_9 : decode cX8_copies 9 = .ok (.aload_n 0, 1) := by decide +kernel
theorem dX8_copies_10 : decode cX8_copies 10 = .ok (.iload_n 3, 1) := by decide +kernel
theorem dX8_copies_11 : decode cX8_copies 11 = .ok (.iaload, 1) := by decide +kernel
theorem dX8_copies_12 : decode cX8_copies 12 = .ok (.iastore, 1) := by decide +kernel
theorem dX8_copies_13 : decode cX8_copies 13 = .ok (.iinc 3 1, 3) := by decide +kernel
theorem dX8_copies_16 : decode cX8_copies 16 = .ok (.goto (-14), 3) := by decide +kernel
theorem dX8_copies_19 : decode cX8_copies 19 = .ok (.return_, 1) := by decide +kernel
set_option maxRecDepth 20000 in
theorem ggX8_shore_X8_skips : GoodIn wsX8_shore wsX8_skips := goodIn_r _ [22, 2, 1, 23, 24, 25, 21, 26, 7, 27, 70, 71, 72, 73, 74, 75, 76, 77, 78, 79, 80, 81, 82, 83, 84, 85, 86, 87, 88, 89, 90, 91, 92, 93, 94, 95, 96] (by decide +kernel) (by decide +kernel)
set_option maxRecDepth 20000 in
theorem gX8_shore_X8_skips : GoodIn wsX8_shore (wsV RX8 91 RX8 yX8_skips wsX8_skips) := goodIn_app (goodIn_of _ (by decide +kernel)) ggX8_shore_X8_skips
set_option maxRecDepth 20000 in
theorem ggX8_shore_X8_reads : GoodIn wsX8_shore wsX8_reads := goodIn_r _ [31, 2, 5, 23, 24, 25, 21, 26, 1, 7, 27, 32, 33, 34, 35, 36, 37, 38, 39, 40, 41, 42, 43, 44, 45, 46, 47, 18, 19, 20, 22, 48, 49, 50, 51, 52, 53, 54, 55, 56, 57, 58, 6, 59, 60, 61, 62, 4, 63, 64, 65, 66, 3, 70, 71, 72, 73, 74, 75, 76, 77, 78, 79, 80, 81, 82, 83, 84, 85, 86, 87, 88, 89, 90, 91, 92, 93, 94, 95, 96] (by decide +kernel) (by decide +kernel)
set_option maxRecDepth 20000 in
theorem gX8_shore_X8_reads : GoodIn wsX8_shore (wsV RX8 121 RX8 yX8_reads wsX8_reads) := goodIn_app (goodIn_of _ (by decide +kernel)) ggX8_shore_X8_reads
set_option maxRecDepth 20000 in
theorem ggX8_shore_X8_copies : GoodIn wsX8_shore wsX8_copies := goodIn_r _ [69] (by decide +kernel) (by decide +kernel)
set_option maxRecDepth 20000 in
theorem gX8_shore_X8_copies : GoodIn wsX8_shore (va_wsS RX8 124 yX8_copies wsX8_copies) := goodIn_app (goodIn_of _ (by decide +kernel)) ggX8_shore_X8_copies
theorem dX8_shore_0 : decode cX8_shore 0 = .ok (.aload_n 0, 1) := by decide +kernel
theorem dX8_shore_1 : decode cX8_shore 1 = .ok (.iconst 0, 1) := by decide +kernel
theorem dX8_shore_2 : decode cX8_shore 2 = .ok (.putfield 81, 3) := by decide +kernel
theorem dX8_shore_5 : decode cX8_shore 5 = .ok (.aload_n 0, 1) := by decide +kernel
theorem dX8_shore_6 : decode cX8_shore 6 = .ok (.iconst 0, 1) := by decide +kernel
theorem dX8_shore_7 : decode cX8_shore 7 = .ok (.putfield 84, 3) := by decide +kernel
theorem dX8_shore_10 : decode cX8_shore 10 = .ok (.iconst 0, 1) := by decide +kernel
theorem dX8_shore_11 : decode cX8_shore 11 = .ok (.istore_n 1, 1) := by decide +kernel
theorem dX8_shore_12 : decode cX8_shore 12 = .ok (.iload_n 1, 1) := by decide +kernel
theorem dX8_shore_13 : decode cX8_shore 13 = .ok (.bipush 18, 2) := by decide +kernel
theorem dX8_shore_15 : decode cX8_shore 15 = .ok (.if_icmp .ge 16, 3) := by decide +kernel
theorem dX8_shore_18 : decode cX8_shore 18 = .ok (.aload_n 0, 1) := by decide +kernel
theorem dX8_shore_19 : decode cX8_shore 19 = .ok (.getfield 38, 3) := by decide +kernel
theorem dX8_shore_22 : decode cX8_shore 22 = .ok (.iload_n 1, 1) := by decide +kernel
theorem dX8_shore_23 : decode cX8_shore 23 = .ok (.iconst 0, 1) := by decide +kernel
theorem dX8_shore_24 : decode cX8_shore 24 = .ok (.iastore, 1) := by decide +kernel
theorem dX8_shore_25 : decode cX8_shore 25 = .ok (.iinc 1 1, 3) := by decide +kernel
theorem dX8_shore_28 : decode cX8_shore 28 = .ok (.goto (-16), 3) := by decide +kernel
theorem dX8_shore_31 : decode cX8_shore 31 = .ok (.iconst 0, 1) := by decide +kernel
theorem dX8_shore_32 : decode cX8_shore 32 = .ok (.istore_n 1, 1) := by decide +kernel
theorem dX8_shore_33 : decode cX8_shore 33 = .ok (.iload_n 1, 1) := by decide +kernel
theorem dX8_shore_34 : decode cX8_shore 34 = .ok (.bipush 14, 2) := by decide +kernel
theorem dX8_shore_36 : decode cX8_shore 36 = .ok (.if_icmp .ge 16, 3) := by decide +kernel
theorem dX8_shore_39 : decode cX8_shore 39 = .ok (.aload_n 0, 1) := by decide +kernel
theorem dX8_shore_40 : decode cX8_shore 40 = .ok (.getfield 35, 3) := by decide +kernel
theorem dX8_shore_43 : decode cX8_shore 43 = .ok (.iload_n 1, 1) := by decide +kernel
theorem dX8_shore_44 : decode cX8_shore 44 = .ok (.iconst 0, 1) := by decide +kernel
theorem dX8_shore_45 : decode cX8_shore 45 = .ok (.iastore, 1) := by decide +kernel
theorem dX8_shore_46 : decode cX8_shore 46 = .ok (.iinc 1 1, 3) := by decide +kernel
theorem dX8_shore_49 : decode cX8_shore 49 = .ok (.goto (-16), 3) := by decide +kernel
theorem dX8_shore_52 : decode cX8_shore 52 = .ok (.iconst 0, 1) := by decide +kernel
theorem dX8_shore_53 : decode cX8_shore 53 = .ok (.istore_n 1, 1) := by decide +kernel
theorem dX8_shore_54 : decode cX8_shore 54 = .ok (.iload_n 1, 1) := by decide +kernel
theorem dX8_shore_55 : decode cX8_shore 55 = .ok (.iconst 5, 1) := by decide +kernel
theorem dX8_shore_56 : decode cX8_shore 56 = .ok (.if_icmp .ge 16, 3) := by decide +kernel
theorem dX8_shore_59 : decode cX8_shore 59 = .ok (.aload_n 0, 1) := by decide +kernel
theorem dX8_shore_60 : decode cX8_shore 60 = .ok (.getfield 29, 3) := by decide +kernel
theorem dX8_shore_63 : decode cX8_shore 63 = .ok (.iload_n 1, 1) := by decide +kernel
theorem dX8_shore_64 : decode cX8_shore 64 = .ok (.iconst 0, 1) := by decide +kernel
theorem dX8_shore_65 : decode cX8_shore 65 = .ok (.iastore, 1) := by decide +kernel
theorem dX8_shore_66 : decode cX8_shore 66 = .ok (.iinc 1 1, 3) := by decide +kernel
theorem dX8_shore_69 : decode cX8_shore 69 = .ok (.goto (-15), 3) := by decide +kernel
theorem dX8_shore_72 : decode cX8_shore 72 = .ok (.iconst 0, 1) := by decide +kernel
theorem dX8_shore_73 : decode cX8_shore 73 = .ok (.istore_n 1, 1) := by decide +kernel
theorem dX8_shore_74 : decode cX8_shore 74 = .ok (.iload_n 1, 1) := by decide +kernel
theorem dX8_shore_75 : decode cX8_shore 75 = .ok (.iconst 4, 1) := by decide +kernel
theorem dX8_shore_76 : decode cX8_shore 76 = .ok (.if_icmp .ge 16, 3) := by decide +kernel
theorem dX8_shore_79 : decode cX8_shore 79 = .ok (.aload_n 0, 1) := by decide +kernel
theorem dX8_shore_80 : decode cX8_shore 80 = .ok (.getfield 32, 3) := by decide +kernel
theorem dX8_shore_83 : decode cX8_shore 83 = .ok (.iload_n 1, 1) := by decide +kernel
theorem dX8_shore_84 : decode cX8_shore 84 = .ok (.iconst 0, 1) := by decide +kernel
theorem dX8_shore_85 : decode cX8_shore 85 = .ok (.iastore, 1) := by decide +kernel
theorem dX8_shore_86 : decode cX8_shore 86 = .ok (.iinc 1 1, 3) := by decide +kernel
theorem dX8_shore_89 : decode cX8_shore 89 = .ok (.goto (-15), 3) := by decide +kernel
theorem dX8_shore_92 : decode cX8_shore 92 = .ok (.aload_n 0, 1) := by decide +kernel
theorem dX8_shore_93 : decode cX8_shore 93 = .ok (.invokevirtual 91, 3) := by decide +kernel
theorem dX8_shore_96 : decode cX8_shore 96 = .ok (.aload_n 0, 1) := by decide +kernel
theorem dX8_shore_97 : decode cX8_shore 97 = .ok (.invokevirtual 121, 3) := by decide +kernel
theorem dX8_shore_100 : decode cX8_shore 100 = .ok (.aload_n 0, 1) := by decide +kernel
theorem dX8_shore_101 : decode cX8_shore 101 = .ok (.iconst 0, 1) := by decide +kernel
theorem dX8_shore_102 : decode cX8_shore 102 = .ok (.putfield 77, 3) := by decide +kernel
theorem dX8_shore_105 : decode cX8_shore 105 = .ok (.aload_n 0, 1) := by decide +kernel
theorem dX8_shore_106 : decode cX8_shore 106 = .ok (.aload_n 0, 1) := by decide +kernel
theorem dX8_shore_107 : decode cX8_shore 107 = .ok (.getfield 84, 3) := by decide +kernel
theorem dX8_shore_110 : decode cX8_shore 110 = .ok (.ifCond .ne 7, 3) := by decide +kernel
theorem dX8_shore_113 : decode cX8_shore 113 = .ok (.iconst (-1), 1) := by decide +kernel
theorem dX8_shore_114 : decode cX8_shore 114 = .ok (.goto 7, 3) := by decide +kernel
theorem dX8_shore_117 : decode cX8_shore 117 = .ok (.aload_n 0, 1) := by decide +kernel
theorem dX8_shore_118 : decode cX8_shore 118 = .ok (.getfield 81, 3) := by decide +kernel
theorem dX8_shore_121 : decode cX8_shore 121 = .ok (.putfield 13, 3) := by decide +kernel
theorem dX8_shore_124 : decode cX8_shore 124 = .ok (.aload_n 0, 1) := by decide +kernel
theorem dX8_shore_125 : decode cX8_shore 125 = .ok (.getfield 84, 3) := by decide +kernel
theorem dX8_shore_128 : decode cX8_shore 128 = .ok (.ifCond .eq 11, 3) := by decide +kernel
theorem dX8_shore_131 : decode cX8_shore 131 = .ok (.bipush (-10), 2) := by decide +kernel
theorem dX8_shore_133 : decode cX8_shore 133 = .ok (.aload_n 0, 1) := by decide +kernel
theorem dX8_shore_134 : decode cX8_shore 134 = .ok (.getfield 84, 3) := by decide +kernel
theorem dX8_shore_137 : decode cX8_shore 137 = .ok (.isub, 1) := by decide +kernel
theorem dX8_shore_138 : decode cX8_shore 138 = .ok (.ireturn, 1) := by decide +kernel
theorem dX8_shore_139 : decode cX8_shore 139 = .ok (.aload_n 0, 1) := by decide +kernel
theorem dX8_shore_140 : decode cX8_shore 140 = .ok (.getfield 29, 3) := by decide +kernel
theorem dX8_shore_143 : decode cX8_shore 143 = .ok (.aload_n 0, 1) := by decide +kernel
theorem dX8_shore_144 : decode cX8_shore 144 = .ok (.getfield 17, 3) := by decide +kernel
theorem dX8_shore_147 : decode cX8_shore 147 = .ok (.iconst 5, 1) := by decide +kernel
theorem dX8_shore_148 : decode cX8_shore 148 = .ok (.invokestatic 124, 3) := by decide +kernel
theorem dX8_shore_151 : decode cX8_shore 151 = .ok (.aload_n 0, 1) := by decide +kernel
theorem dX8_shore_152 : decode cX8_shore 152 = .ok (.getfield 32, 3) := by decide +kernel
theorem dX8_shore_155 : decode cX8_shore 155 = .ok (.aload_n 0, 1) := by decide +kernel
theorem dX8_shore_156 : decode cX8_shore 156 = .ok (.getfield 20, 3) := by decide +kernel
theorem dX8_shore_159 : decode cX8_shore 159 = .ok (.iconst 4, 1) := by decide +kernel
theorem dX8_shore_160 : decode cX8_shore 160 = .ok (.invokestatic 124, 3) := by decide +kernel
theorem dX8_shore_163 : decode cX8_shore 163 = .ok (.aload_n 0, 1) := by decide +kernel
theorem dX8_shore_164 : decode cX8_shore 164 = .ok (.getfield 35, 3) := by decide +kernel
theorem dX8_shore_167 : decode cX8_shore 167 = .ok (.aload_n 0, 1) := by decide +kernel
theorem dX8_shore_168 : decode cX8_shore 168 = .ok (.getfield 23, 3) := by decide +kernel
theorem dX8_shore_171 : decode cX8_shore 171 = .ok (.bipush 14, 2) := by decide +kernel
theorem dX8_shore_173 : decode cX8_shore 173 = .ok (.invokestatic 124, 3) := by decide +kernel
theorem dX8_shore_176 : decode cX8_shore 176 = .ok (.aload_n 0, 1) := by decide +kernel
theorem dX8_shore_177 : decode cX8_shore 177 = .ok (.getfield 38, 3) := by decide +kernel
theorem dX8_shore_180 : decode cX8_shore 180 = .ok (.aload_n 0, 1) := by decide +kernel
theorem dX8_shore_181 : decode cX8_shore 181 = .ok (.getfield 26, 3) := by decide +kernel
theorem dX8_shore_184 : decode cX8_shore 184 = .ok (.bipush 18, 2) := by decide +kernel
theorem dX8_shore_186 : decode cX8_shore 186 = .ok (.invokestatic 124, 3) := by decide +kernel
theorem dX8_shore_189 : decode cX8_shore 189 = .ok (.iconst 0, 1) := by decide +kernel
theorem dX8_shore_190 : decode cX8_shore 190 = .ok (.istore_n 1, 1) := by decide +kernel
theorem dX8_shore_191 : decode cX8_shore 191 = .ok (.iload_n 1, 1) := by decide +kernel
theorem dX8_shore_192 : decode cX8_shore 192 = .ok (.bipush 35, 2) := by decide +kernel
theorem dX8_shore_194 : decode cX8_shore 194 = .ok (.if_icmp .ge 16, 3) := by decide +kernel
theorem dX8_shore_197 : decode cX8_shore 197 = .ok (.aload_n 0, 1) := by decide +kernel
theorem dX8_shore_198 : decode cX8_shore 198 = .ok (.getfield 41, 3) := by decide +kernel
theorem dX8_shore_201 : decode cX8_shore 201 = .ok (.iload_n 1, 1) := by decide +kernel
theorem dX8_shore_202 : decode cX8_shore 202 = .ok (.iconst 0, 1) := by decide +kernel
theorem dX8_shore_203 : decode cX8_shore 203 = .ok (.iastore, 1) := by decide +kernel
theorem dX8_shore_204 : decode cX8_shore 204 = .ok (.iinc 1 1, 3) := by decide +kernel
theorem dX8_shore_207 : decode cX8_shore 207 = .ok (.goto (-16), 3) := by decide +kernel
theorem dX8_shore_210 : decode cX8_shore 210 = .ok (.iconst 0, 1) := by decide +kernel
theorem dX8_shore_211 : decode cX8_shore 211 = .ok (.istore_n 1, 1) := by decide +kernel
theorem dX8_shore_212 : decode cX8_shore 212 = .ok (.iload_n 1, 1) := by decide +kernel
theorem dX8_shore_213 : decode cX8_shore 213 = .ok (.aload_n 0, 1) := by decide +kernel
theorem dX8_shore_214 : decode cX8_shore 214 = .ok (.getfield 17, 3) := by decide +kernel
theorem dX8_shore_217 : decode cX8_shore 217 = .ok (.iconst 3, 1) := by decide +kernel
theorem dX8_shore_218 : decode cX8_shore 218 = .ok (.iaload, 1) := by decide +kernel
theorem dX8_shore_219 : decode cX8_shore 219 = .ok (.if_icmp .ge 60, 3) := by decide +kernel
theorem dX8_shore_222 : decode cX8_shore 222 = .ok (.aload_n 0, 1) := by decide +kernel
theorem dX8_shore_223 : decode cX8_shore 223 = .ok (.getfield 41, 3) := by decide +kernel
theorem dX8_shore_226 : decode cX8_shore 226 = .ok (.iconst 1, 1) := by decide +kernel
theorem dX8_shore_227 : decode cX8_shore 227 = .ok (.iload_n 1, 1) := by decide +kernel
theorem dX8_shore_228 : decode cX8_shore 228 = .ok (.iadd, 1) := by decide +kernel
theorem dX8_shore_229 : decode cX8_shore 229 = .ok (.aload_n 0, 1) := by decide +kernel
theorem dX8_shore_230 : decode cX8_shore 230 = .ok (.getfield 23, 3) := by decide +kernel
theorem dX8_shore_233 : decode cX8_shore 233 = .ok (.iconst 2, 1) := by decide +kernel
theorem dX8_shore_234 : decode cX8_shore 234 = .ok (.iload_n 1, 1) := by decide +kernel
theorem dX8_shore_235 : decode cX8_shore 235 = .ok (.imul, 1) := by decide +kernel
theorem dX8_shore_236 : decode cX8_shore 236 = .ok (.iaload, 1) := by decide +kernel
theorem dX8_shore_237 : decode cX8_shore 237 = .ok (.iastore, 1) := by decide +kernel
theorem dX8_shore_238 : decode cX8_shore 238 = .ok (.aload_n 0, 1) := by decide +kernel
theorem dX8_shore_239 : decode cX8_shore 239 = .ok (.getfield 41, 3) := by decide +kernel
theorem dX8_shore_242 : decode cX8_shore 242 = .ok (.bipush 8, 2) := by decide +kernel
theorem dX8_shore_244 : decode cX8_shore 244 = .ok (.iload_n 1, 1) := by decide +kernel
theorem dX8_shore_245 : decode cX8_shore 245 = .ok (.iadd, 1) := by decide +kernel
theorem dX8_shore_246 : decode cX8_shore 246 = .ok (.aload_n 0, 1) := by decide +kernel
theorem dX8_shore_247 : decode cX8_shore 247 = .ok (.getfield 23, 3) := by decide +kernel
theorem dX8_shore_250 : decode cX8_shore 250 = .ok (.iconst 2, 1) := by decide +kernel
theorem dX8_shore_251 : decode cX8_shore 251 = .ok (.iload_n 1, 1) := by decide +kernel
theorem dX8_shore_252 : decode cX8_shore 252 = .ok (.imul, 1) := by decide +kernel
theorem dX8_shore_253 : decode cX8_shore 253 = .ok (.iaload, 1) := by decide +kernel
theorem dX8_shore_254 : decode cX8_shore 254 = .ok (.aload_n 0, 1) := by decide +kernel
theorem dX8_shore_255 : decode cX8_shore 255 = .ok (.getfield 23, 3) := by decide +kernel
theorem dX8_shore_258 : decode cX8_shore 258 = .ok (.iconst 2, 1) := by decide +kernel
theorem dX8_shore_259 : decode cX8_shore 259 = .ok (.iload_n 1, 1) := by decide +kernel
theorem dX8_shore_260 : decode cX8_shore 260 = .ok (.imul, 1) := by decide +kernel
theorem dX8_shore_261 : decode cX8_shore 261 = .ok (.iconst 1, 1) := by decide +kernel
theorem dX8_shore_262 : decode cX8_shore 262 = .ok (.iadd, 1) := by decide +kernel
theorem dX8_shore_263 : decode cX8_shore 263 = .ok (.iaload, 1) := by decide +kernel
theorem dX8_shore_264 : decode cX8_shore 264 = .ok (.if_icmp .lt 7, 3) := by decide +kernel
theorem dX8_shore_267 : decode cX8_shore 267 = .ok (.iconst 1, 1) := by decide +kernel
theorem dX8_shore_268 : decode cX8_shore 268 = .ok (.goto 4, 3) := by decide +kernel
theorem dX8_shore_271 : decode cX8_shore 271 = .ok (.iconst 0, 1) := by decide +kernel
theorem dX8_shore_272 : decode cX8_shore 272 = .ok (.iastore, 1) := by decide +kernel
theorem dX8_shore_273 : decode cX8_shore 273 = .ok (.iinc 1 1, 3) := by decide +kernel
theorem dX8_shore_276 : decode cX8_shore 276 = .ok (.goto (-64), 3) := by decide +kernel
theorem dX8_shore_279 : decode cX8_shore 279 = .ok (.iconst 0, 1) := by decide +kernel
theorem dX8_shore_280 : decode cX8_shore 280 = .ok (.istore_n 1, 1) := by decide +kernel
theorem dX8_shore_281 : decode cX8_shore 281 = .ok (.iload_n 1, 1) := by decide +kernel
theorem dX8_shore_282 : decode cX8_shore 282 = .ok (.aload_n 0, 1) := by decide +kernel
theorem dX8_shore_283 : decode cX8_shore 283 = .ok (.getfield 17, 3) := by decide +kernel
theorem dX8_shore_286 : decode cX8_shore 286 = .ok (.iconst 4, 1) := by decide +kernel
theorem dX8_shore_287 : decode cX8_shore 287 = .ok (.iaload, 1) := by decide +kernel
theorem dX8_shore_288 : decode cX8_shore 288 = .ok (.if_icmp .ge 26, 3) := by decide +kernel
theorem dX8_shore_291 : decode cX8_shore 291 = .ok (.aload_n 0, 1) := by decide +kernel
theorem dX8_shore_292 : decode cX8_shore 292 = .ok (.getfield 41, 3) := by decide +kernel
theorem dX8_shore_295 : decode cX8_shore 295 = .ok (.bipush 29, 2) := by decide +kernel
theorem dX8_shore_297 : decode cX8_shore 297 = .ok (.iload_n 1, 1) := by decide +kernel
theorem dX8_shore_298 : decode cX8_shore 298 = .ok (.iadd, 1) := by decide +kernel
theorem dX8_shore_299 : decode cX8_shore 299 = .ok (.aload_n 0, 1) := by decide +kernel
theorem dX8_shore_300 : decode cX8_shore 300 = .ok (.getfield 26, 3) := by decide +kernel
theorem dX8_shore_303 : decode cX8_shore 303 = .ok (.iconst 3, 1) := by decide +kernel
theorem dX8_shore_304 : decode cX8_shore 304 = .ok (.iload_n 1, 1) := by decide +kernel
theorem dX8_shore_305 : decode cX8_shore 305 = .ok (.imul, 1) := by decide +kernel
theorem dX8_shore_306 : decode cX8_shore 306 = .ok (.iaload, 1) := by decide +kernel
theorem dX8_shore_307 : decode cX8_shore 307 = .ok (.iastore, 1) := by decide +kernel
theorem dX8_shore_308 : decode cX8_shore 308 = .ok (.iinc 1 1, 3) := by decide +kernel
theorem dX8_shore_311 : decode cX8_shore 311 = .ok (.goto (-30), 3) := by decide +kernel
theorem dX8_shore_314 : decode cX8_shore 314 = .ok (.aload_n 0, 1) := by decide +kernel
theorem dX8_shore_315 : decode cX8_shore 315 = .ok (.iconst 0, 1) := by decide +kernel
theorem dX8_shore_316 : decode cX8_shore 316 = .ok (.putfield 128, 3) := by decide +kernel
theorem dX8_shore_319 : decode cX8_shore 319 = .ok (.aload_n 0, 1) := by decide +kernel
theorem dX8_shore_320 : decode cX8_shore 320 = .ok (.iconst 0, 1) := by decide +kernel
theorem dX8_shore_321 : decode cX8_shore 321 = .ok (.putfield 131, 3) := by decide +kernel
theorem dX8_shore_324 : decode cX8_shore 324 = .ok (.aload_n 0, 1) := by decide +kernel
theorem dX8_shore_325 : decode cX8_shore 325 = .ok (.iconst 0, 1) := by decide +kernel
theorem dX8_shore_326 : decode cX8_shore 326 = .ok (.putfield 134, 3) := by decide +kernel
theorem dX8_shore_329 : decode cX8_shore 329 = .ok (.aload_n 0, 1) := by decide +kernel
theorem dX8_shore_330 : decode cX8_shore 330 = .ok (.getfield 53, 3) := by decide +kernel
theorem dX8_shore_333 : decode cX8_shore 333 = .ok (.iconst 0, 1) := by decide +kernel
theorem dX8_shore_334 : decode cX8_shore 334 = .ok (.iconst 0, 1) := by decide +kernel
theorem dX8_shore_335 : decode cX8_shore 335 = .ok (.bastore, 1) := by decide +kernel
theorem dX8_shore_336 : decode cX8_shore 336 = .ok (.aload_n 0, 1) := by decide +kernel
theorem dX8_shore_337 : decode cX8_shore 337 = .ok (.getfield 53, 3) := by decide +kernel
theorem dX8_shore_340 : decode cX8_shore 340 = .ok (.iconst 1, 1) := by decide +kernel
theorem dX8_shore_341 : decode cX8_shore 341 = .ok (.iconst 0, 1) := by decide +kernel
theorem dX8_shore_342 : decode cX8_shore 342 = .ok (.bastore, 1) := by decide +kernel
theorem dX8_shore_343 : decode cX8_shore 343 = .ok (.aload_n 0, 1) := by decide +kernel
theorem dX8_shore_344 : decode cX8_shore 344 = .ok (.getfield 17, 3) := by decide +kernel
theorem dX8_shore_347 : decode cX8_shore 347 = .ok (.iconst 3, 1) := by decide +kernel
theorem dX8_shore_348 : decode cX8_shore 348 = .ok (.iaload, 1) := by decide +kernel
theorem dX8_shore_349 : decode cX8_shore 349 = .ok (.ireturn, 1) := by decide +kernel
theorem dX8_fault_0 : decode cX8_fault 0 = .ok (.aload_n 0, 1) := by decide +kernel
theorem dX8_fault_1 : decode cX8_fault 1 = .ok (.getfield 13, 3) := by decide +kernel
theorem dX8_fault_4 : decode cX8_fault 4 = .ok (.ireturn, 1) := by decide +kernel
theorem dX8_isShore_0 : decode cX8_isShore 0 = .ok (.aload_n 0, 1) := by decide +kernel
theorem dX8_isShore_1 : decode cX8_isShore 1 = .ok (.getfield 17, 3) := by decide +kernel
theorem dX8_isShore_4 : decode cX8_isShore 4 = .ok (.iconst 0, 1) := by decide +kernel
theorem dX8_isShore_5 : decode cX8_isShore 5 = .ok (.iaload, 1) := by decide +kernel
theorem dX8_isShore_6 : decode cX8_isShore 6 = .ok (.ifCond .le 7, 3) := by decide +kernel
theorem dX8_isShore_9 : decode cX8_isShore 9 = .ok (.iconst 1, 1) := by decide +kernel
theorem dX8_isShore_10 : decode cX8_isShore 10 = .ok (.goto 4, 3) := by decide +kernel
theorem dX8_isShore_13 : decode cX8_isShore 13 = .ok (.iconst 0, 1) := by decide +kernel
theorem dX8_isShore_14 : decode cX8_isShore 14 = .ok (.ireturn, 1) := by decide +kernel
set_option maxRecDepth 20000 in
theorem ggX8_isDepth_X8_in : GoodIn wsX8_isDepth wsX8_in := goodIn_r _ [5] (by decide +kernel) (by decide +kernel)
set_option maxRecDepth 20000 in
theorem gX8_isDepth_X8_in : GoodIn wsX8_isDepth (va_wsS RX8 72 yX8_in wsX8_in) := goodIn_app (goodIn_of _ (by decide +kernel)) ggX8_isDepth_X8_in
theorem dX8_isDepth_0 : decode cX8_isDepth 0 = .ok (.iload_n 1, 1) := by decide +kernel
theorem dX8_isDepth_1 : decode cX8_isDepth 1 = .ok (.iconst 0, 1) := by decide +kernel
theorem dX8_isDepth_2 : decode cX8_isDepth 2 = .ok (.aload_n 0, 1) := by decide +kernel
theorem dX8_isDepth_3 : decode cX8_isDepth 3 = .ok (.getfield 17, 3) := by decide +kernel
theorem dX8_isDepth_6 : decode cX8_isDepth 6 = .ok (.iconst 2, 1) := by decide +kernel
theorem dX8_isDepth_7 : decode cX8_isDepth 7 = .ok (.iaload, 1) := by decide +kernel
theorem dX8_isDepth_8 : decode cX8_isDepth 8 = .ok (.iconst 1, 1) := by decide +kernel
theorem dX8_isDepth_9 : decode cX8_isDepth 9 = .ok (.isub, 1) := by decide +kernel
theorem dX8_isDepth_10 : decode cX8_isDepth 10 = .ok (.invokestatic 72, 3) := by decide +kernel
theorem dX8_isDepth_13 : decode cX8_isDepth 13 = .ok (.ireturn, 1) := by decide +kernel
set_option maxRecDepth 20000 in
theorem ggX8_isPerson_X8_in : GoodIn wsX8_isPerson wsX8_in := goodIn_r _ [5] (by decide +kernel) (by decide +kernel)
set_option maxRecDepth 20000 in
theorem gX8_isPerson_X8_in : GoodIn wsX8_isPerson (va_wsS RX8 72 yX8_in wsX8_in) := goodIn_app (goodIn_of _ (by decide +kernel)) ggX8_isPerson_X8_in
theorem dX8_isPerson_0 : decode cX8_isPerson 0 = .ok (.iload_n 1, 1) := by decide +kernel
theorem dX8_isPerson_1 : decode cX8_isPerson 1 = .ok (.iconst 0, 1) := by decide +kernel
theorem dX8_isPerson_2 : decode cX8_isPerson 2 = .ok (.aload_n 0, 1) := by decide +kernel
theorem dX8_isPerson_3 : decode cX8_isPerson 3 = .ok (.getfield 17, 3) := by decide +kernel
theorem dX8_isPerson_6 : decode cX8_isPerson 6 = .ok (.iconst 3, 1) := by decide +kernel
theorem dX8_isPerson_7 : decode cX8_isPerson 7 = .ok (.iaload, 1) := by decide +kernel
theorem dX8_isPerson_8 : decode cX8_isPerson 8 = .ok (.iconst 1, 1) := by decide +kernel
theorem dX8_isPerson_9 : decode cX8_isPerson 9 = .ok (.isub, 1) := by decide +kernel
theorem dX8_isPerson_10 : decode cX8_isPerson 10 = .ok (.invokestatic 72, 3) := by decide +kernel
theorem dX8_isPerson_13 : decode cX8_isPerson 13 = .ok (.ireturn, 1) := by decide +kernel
set_option maxRecDepth 20000 in
theorem ggX8_isGood_X8_in : GoodIn wsX8_isGood wsX8_in := goodIn_r _ [5] (by decide +kernel) (by decide +kernel)
set_option maxRecDepth 20000 in
theorem gX8_isGood_X8_in : GoodIn wsX8_isGood (va_wsS RX8 72 yX8_in wsX8_in) := goodIn_app (goodIn_of _ (by decide +kernel)) ggX8_isGood_X8_in
theorem dX8_isGood_0 : decode cX8_isGood 0 = .ok (.iload_n 1, 1) := by decide +kernel
theorem dX8_isGood_1 : decode cX8_isGood 1 = .ok (.iconst 0, 1) := by decide +kernel
theorem dX8_isGood_2 : decode cX8_isGood 2 = .ok (.aload_n 0, 1) := by decide +kernel
theorem dX8_isGood_3 : decode cX8_isGood 3 = .ok (.getfield 17, 3) := by decide +kernel
theorem dX8_isGood_6 : decode cX8_isGood 6 = .ok (.iconst 4, 1) := by decide +kernel
theorem dX8_isGood_7 : decode cX8_isGood 7 = .ok (.iaload, 1) := by decide +kernel
theorem dX8_isGood_8 : decode cX8_isGood 8 = .ok (.iconst 1, 1) := by decide +kernel
theorem dX8_isGood_9 : decode cX8_isGood 9 = .ok (.isub, 1) := by decide +kernel
theorem dX8_isGood_10 : decode cX8_isGood 10 = .ok (.invokestatic 72, 3) := by decide +kernel
theorem dX8_isGood_13 : decode cX8_isGood 13 = .ok (.ireturn, 1) := by decide +kernel
theorem dX8_isAbove_0 : decode cX8_isAbove 0 = .ok (.aload_n 0, 1) := by decide +kernel
theorem dX8_isAbove_1 : decode cX8_isAbove 1 = .ok (.getfield 41, 3) := by decide +kernel
theorem dX8_isAbove_4 : decode cX8_isAbove 4 = .ok (.bipush 8, 2) := by decide +kernel
theorem dX8_isAbove_6 : decode cX8_isAbove 6 = .ok (.iload_n 1, 1) := by decide +kernel
theorem dX8_isAbove_7 : decode cX8_isAbove 7 = .ok (.iadd, 1) := by decide +kernel
theorem dX8_isAbove_8 : decode cX8_isAbove 8 = .ok (.iaload, 1) := by decide +kernel
theorem dX8_isAbove_9 : decode cX8_isAbove 9 = .ok (.ifCond .ne 7, 3) := by decide +kernel
theorem dX8_isAbove_12 : decode cX8_isAbove 12 = .ok (.iconst 1, 1) := by decide +kernel
theorem dX8_isAbove_13 : decode cX8_isAbove 13 = .ok (.goto 4, 3) := by decide +kernel
theorem dX8_isAbove_16 : decode cX8_isAbove 16 = .ok (.iconst 0, 1) := by decide +kernel
theorem dX8_isAbove_17 : decode cX8_isAbove 17 = .ok (.ireturn, 1) := by decide +kernel
theorem dX8_isBelow_0 : decode cX8_isBelow 0 = .ok (.aload_n 0, 1) := by decide +kernel
theorem dX8_isBelow_1 : decode cX8_isBelow 1 = .ok (.getfield 41, 3) := by decide +kernel
theorem dX8_isBelow_4 : decode cX8_isBelow 4 = .ok (.bipush 8, 2) := by decide +kernel
theorem dX8_isBelow_6 : decode cX8_isBelow 6 = .ok (.iload_n 1, 1) := by decide +kernel
theorem dX8_isBelow_7 : decode cX8_isBelow 7 = .ok (.iadd, 1) := by decide +kernel
theorem dX8_isBelow_8 : decode cX8_isBelow 8 = .ok (.iaload, 1) := by decide +kernel
theorem dX8_isBelow_9 : decode cX8_isBelow 9 = .ok (.bipush 10, 2) := by decide +kernel
theorem dX8_isBelow_11 : decode cX8_isBelow 11 = .ok (.if_icmp .lt 7, 3) := by decide +kernel
theorem dX8_isBelow_14 : decode cX8_isBelow 14 = .ok (.iconst 1, 1) := by decide +kernel
theorem dX8_isBelow_15 : decode cX8_isBelow 15 = .ok (.goto 4, 3) := by decide +kernel
theorem dX8_isBelow_18 : decode cX8_isBelow 18 = .ok (.iconst 0, 1) := by decide +kernel
theorem dX8_isBelow_19 : decode cX8_isBelow 19 = .ok (.ireturn, 1) := by decide +kernel
theorem dX8_end_0 : decode cX8_end 0 = .ok (.aload_n 0, 1) := by decide +kernel
theorem dX8_end_1 : decode cX8_end 1 = .ok (.getfield 23, 3) := by decide +kernel
theorem dX8_end_4 : decode cX8_end 4 = .ok (.iconst 2, 1) := by decide +kernel
theorem dX8_end_5 : decode cX8_end 5 = .ok (.iload_n 1, 1) := by decide +kernel
theorem dX8_end_6 : decode cX8_end 6 = .ok (.imul, 1) := by decide +kernel
theorem dX8_end_7 : decode cX8_end 7 = .ok (.iconst 1, 1) := by decide +kernel
theorem dX8_end_8 : decode cX8_end 8 = .ok (.iadd, 1) := by decide +kernel
theorem dX8_end_9 : decode cX8_end 9 = .ok (.iaload, 1) := by decide +kernel
theorem dX8_end_10 : decode cX8_end 10 = .ok (.ireturn, 1) := by decide +kernel
set_option maxRecDepth 20000 in
theorem ggX8_who_X8_isBelow : GoodIn wsX8_who wsX8_isBelow := goodIn_r _ [7, 2, 8, 9, 10, 11, 12, 13, 14, 15, 16, 17, 18, 19, 20, 21, 22, 23, 24, 25, 26, 27, 28, 29, 30, 31, 32, 33, 34] (by decide +kernel) (by decide +kernel)
set_option maxRecDepth 20000 in
theorem gX8_who_X8_isBelow : GoodIn wsX8_who (wsV RX8 137 RX8 yX8_isBelow wsX8_isBelow) := goodIn_app (goodIn_of _ (by decide +kernel)) ggX8_who_X8_isBelow
theorem dX8_who_0 : decode cX8_who 0 = .ok (.iconst 0, 1) := by decide +kernel
theorem dX8_who_1 : decode cX8_who 1 = .ok (.istore_n 2, 1) := by decide +kernel
theorem dX8_who_2 : decode cX8_who 2 = .ok (.iconst 0, 1) := by decide +kernel
theorem dX8_who_3 : decode cX8_who 3 = .ok (.istore_n 3, 1) := by decide +kernel
theorem dX8_who_4 : decode cX8_who 4 = .ok (.iload_n 3, 1) := by decide +kernel
theorem dX8_who_5 : decode cX8_who 5 = .ok (.aload_n 0, 1) := by decide +kernel
theorem dX8_who_6 : decode cX8_who 6 = .ok (.getfield 17, 3) := by decide +kernel
theorem dX8_who_9 : decode cX8_who 9 = .ok (.iconst 3, 1) := by decide +kernel
theorem dX8_who_10 : decode cX8_who 10 = .ok (.iaload, 1) := by decide +kernel
theorem dX8_who_11 : decode cX8_who 11 = .ok (.if_icmp .ge 87, 3) := by decide +kernel
theorem dX8_who_14 : decode cX8_who 14 = .ok (.iload_n 1, 1) := by decide +kernel
theorem dX8_who_15 : decode cX8_who 15 = .ok (.ifCond .ne 24, 3) := by decide +kernel
theorem dX8_who_18 : decode cX8_who 18 = .ok (.aload_n 0, 1) := by decide +kernel
theorem dX8_who_19 : decode cX8_who 19 = .ok (.getfield 41, 3) := by decide +kernel
theorem dX8_who_22 : decode cX8_who 22 = .ok (.bipush 8, 2) := by decide +kernel
theorem dX8_who_24 : decode cX8_who 24 = .ok (.iload_n 3, 1) := by decide +kernel
theorem dX8_who_25 : decode cX8_who 25 = .ok (.iadd, 1) := by decide +kernel
theorem dX8_who_26 : decode cX8_who 26 = .ok (.iaload, 1) := by decide +kernel
theorem dX8_who_27 : decode cX8_who 27 = .ok (.iconst 1, 1) := by decide +kernel
theorem dX8_who_28 : decode cX8_who 28 = .ok (.if_icmp .ne 7, 3) := by decide +kernel
theorem dX8_who_31 : decode cX8_who 31 = .ok (.iconst 1, 1) := by decide +kernel
theorem dX8_who_32 : decode cX8_who 32 = .ok (.goto 43, 3) := by decide +kernel
theorem dX8_who_35 : decode cX8_who 35 = .ok (.iconst 0, 1) := by decide +kernel
theorem dX8_who_36 : decode cX8_who 36 = .ok (.goto 39, 3) := by decide +kernel
theorem dX8_who_39 : decode cX8_who 39 = .ok (.aload_n 0, 1) := by decide +kernel
theorem dX8_who_40 : decode cX8_who 40 = .ok (.iload_n 3, 1) := by decide +kernel
theorem dX8_who_41 : decode cX8_who 41 = .ok (.invokevirtual 137, 3) := by decide +kernel
theorem dX8_who_44 : decode cX8_who 44 = .ok (.ifCond .eq 30, 3) := by decide +kernel
theorem dX8_who_47 : decode cX8_who 47 = .ok (.iload_n 1, 1) := by decide +kernel
theorem dX8_who_48 : decode cX8_who 48 = .ok (.iconst 1, 1) := by decide +kernel
theorem dX8_who_49 : decode cX8_who 49 = .ok (.if_icmp .eq 21, 3) := by decide +kernel
theorem dX8_who_52 : decode cX8_who 52 = .ok (.aload_n 0, 1) := by decide +kernel
theorem dX8_who_53 : decode cX8_who 53 = .ok (.getfield 41, 3) := by decide +kernel
theorem dX8_who_56 : decode cX8_who 56 = .ok (.bipush 22, 2) := by decide +kernel
theorem dX8_who_58 : decode cX8_who 58 = .ok (.iload_n 3, 1) := by decide +kernel
theorem dX8_who_59 : decode cX8_who 59 = .ok (.iadd, 1) := by decide +kernel
theorem dX8_who_60 : decode cX8_who 60 = .ok (.iaload, 1) := by decide +kernel
theorem dX8_who_61 : decode cX8_who 61 = .ok (.aload_n 0, 1) := by decide +kernel
theorem dX8_who_62 : decode cX8_who 62 = .ok (.getfield 17, 3) := by decide +kernel
theorem dX8_who_65 : decode cX8_who 65 = .ok (.iconst 0, 1) := by decide +kernel
theorem dX8_who_66 : decode cX8_who 66 = .ok (.iaload, 1) := by decide +kernel
theorem dX8_who_67 : decode cX8_who 67 = .ok (.if_icmp .lt 7, 3) := by decide +kernel
theorem dX8_who_70 : decode cX8_who 70 = .ok (.iconst 1, 1) := by decide +kernel
theorem dX8_who_71 : decode cX8_who 71 = .ok (.goto 4, 3) := by decide +kernel
theorem dX8_who_74 : decode cX8_who 74 = .ok (.iconst 0, 1) := by decide +kernel
theorem dX8_who_75 : decode cX8_who 75 = .ok (.istore 4, 2) := by decide +kernel
theorem dX8_who_77 : decode cX8_who 77 = .ok (.iload_n 2, 1) := by decide +kernel
theorem dX8_who_78 : decode cX8_who 78 = .ok (.iload 4, 2) := by decide +kernel
theorem dX8_who_80 : decode cX8_who 80 = .ok (.ifCond .eq 9, 3) := by decide +kernel
theorem dX8_who_83 : decode cX8_who 83 = .ok (.iconst 1, 1) := by decide +kernel
theorem dX8_who_84 : decode cX8_who 84 = .ok (.iload_n 3, 1) := by decide +kernel
theorem dX8_who_85 : decode cX8_who 85 = .ok (.ishl, 1) := by decide +kernel
theorem dX8_who_86 : decode cX8_who 86 = .ok (.goto 4, 3) := by decide +kernel
theorem dX8_who_89 : decode cX8_who 89 = .ok (.iconst 0, 1) := by decide +kernel
theorem dX8_who_90 : decode cX8_who 90 = .ok (.ior, 1) := by decide +kernel
theorem dX8_who_91 : decode cX8_who 91 = .ok (.istore_n 2, 1) := by decide +kernel
theorem dX8_who_92 : decode cX8_who 92 = .ok (.iinc 3 1, 3) := by decide +kernel
theorem dX8_who_95 : decode cX8_who 95 = .ok (.goto (-91), 3) := by decide +kernel
theorem dX8_who_98 : decode cX8_who 98 = .ok (.iload_n 2, 1) := by decide +kernel
theorem dX8_who_99 : decode cX8_who 99 = .ok (.ireturn, 1) := by decide +kernel
set_option maxRecDepth 20000 in
theorem ggX8_told_X8_isShore : GoodIn wsX8_told wsX8_isShore := goodIn_r _ [12, 1, 21, 22, 23, 24, 25, 26, 27, 28, 29, 30, 31, 32, 33, 34, 35, 36, 37, 38, 39, 40, 41, 42, 43, 44, 45, 46, 47] (by decide +kernel) (by decide +kernel)
set_option maxRecDepth 20000 in
theorem gX8_told_X8_isShore : GoodIn wsX8_told (wsV RX8 141 RX8 yX8_isShore wsX8_isShore) := goodIn_app (goodIn_of _ (by decide +kernel)) ggX8_told_X8_isShore
set_option maxRecDepth 20000 in
theorem ggX8_told_X8_who : GoodIn wsX8_told wsX8_who := goodIn_r _ [16, 1, 3, 17, 18, 19, 11, 20, 21, 22, 23, 24, 25, 26, 27, 28, 29, 30, 31, 32, 33, 34, 35, 36, 37, 38, 39, 40, 41, 42, 43, 44, 45, 46, 47] (by decide +kernel) (by decide +kernel)
set_option maxRecDepth 20000 in
theorem gX8_told_X8_who : GoodIn wsX8_told (wsV RX8 145 RX8 yX8_who wsX8_who) := goodIn_app (goodIn_of _ (by decide +kernel)) ggX8_told_X8_who
theorem dX8_told_0 : decode cX8_told 0 = .ok (.iload_n 1, 1) := by decide +kernel
theorem dX8_told_1 : decode cX8_told 1 = .ok (.tableswitch 176 0 13 #[71, 78, 85, 92, 99, 106, 111, 118, 143, 149, 155, 161, 166, 171], 71) := by decide +kernel
theorem dX8_told_72 : decode cX8_told 72 = .ok (.aload_n 0, 1) := by decide +kernel
theorem dX8_told_73 : decode cX8_told 73 = .ok (.getfield 17, 3) := by decide +kernel
theorem dX8_told_76 : decode cX8_told 76 = .ok (.iconst 0, 1) := by decide +kernel
theorem dX8_told_77 : decode cX8_told 77 = .ok (.iaload, 1) := by decide +kernel
theorem dX8_told_78 : decode cX8_told 78 = .ok (.ireturn, 1) := by decide +kernel
theorem dX8_told_79 : decode cX8_told 79 = .ok (.aload_n 0, 1) := by decide +kernel
theorem dX8_told_80 : decode cX8_told 80 = .ok (.getfield 17, 3) := by decide +kernel
theorem dX8_told_83 : decode cX8_told 83 = .ok (.iconst 1, 1) := by decide +kernel
theorem dX8_told_84 : decode cX8_told 84 = .ok (.iaload, 1) := by decide +kernel
theorem dX8_told_85 : decode cX8_told 85 = .ok (.ireturn, 1) := by decide +kernel
theorem dX8_told_86 : decode cX8_told 86 = .ok (.aload_n 0, 1) := by decide +kernel
theorem dX8_told_87 : decode cX8_told 87 = .ok (.getfield 17, 3) := by decide +kernel
theorem dX8_told_90 : decode cX8_told 90 = .ok (.iconst 2, 1) := by decide +kernel
theorem dX8_told_91 : decode cX8_told 91 = .ok (.iaload, 1) := by decide +kernel
theorem dX8_told_92 : decode cX8_told 92 = .ok (.ireturn, 1) := by decide +kernel
theorem dX8_told_93 : decode cX8_told 93 = .ok (.aload_n 0, 1) := by decide +kernel
theorem dX8_told_94 : decode cX8_told 94 = .ok (.getfield 17, 3) := by decide +kernel
theorem dX8_told_97 : decode cX8_told 97 = .ok (.iconst 3, 1) := by decide +kernel
theorem dX8_told_98 : decode cX8_told 98 = .ok (.iaload, 1) := by decide +kernel
theorem dX8_told_99 : decode cX8_told 99 = .ok (.ireturn, 1) := by decide +kernel
theorem dX8_told_100 : decode cX8_told 100 = .ok (.aload_n 0, 1) := by decide +kernel
theorem dX8_told_101 : decode cX8_told 101 = .ok (.getfield 17, 3) := by decide +kernel
theorem dX8_told_104 : decode cX8_told 104 = .ok (.iconst 4, 1) := by decide +kernel
theorem dX8_told_105 : decode cX8_told 105 = .ok (.iaload, 1) := by decide +kernel
theorem dX8_told_106 : decode cX8_told 106 = .ok (.ireturn, 1) := by decide +kernel
theorem dX8_told_107 : decode cX8_told 107 = .ok (.aload_n 0, 1) := by decide +kernel
theorem dX8_told_108 : decode cX8_told 108 = .ok (.getfield 77, 3) := by decide +kernel
theorem dX8_told_111 : decode cX8_told 111 = .ok (.ireturn, 1) := by decide +kernel
theorem dX8_told_112 : decode cX8_told 112 = .ok (.aload_n 0, 1) := by decide +kernel
theorem dX8_told_113 : decode cX8_told 113 = .ok (.getfield 41, 3) := by decide +kernel
theorem dX8_told_116 : decode cX8_told 116 = .ok (.iconst 0, 1) := by decide +kernel
theorem dX8_told_117 : decode cX8_told 117 = .ok (.iaload, 1) := by decide +kernel
theorem dX8_told_118 : decode cX8_told 118 = .ok (.ireturn, 1) := by decide +kernel
theorem dX8_told_119 : decode cX8_told 119 = .ok (.aload_n 0, 1) := by decide +kernel
theorem dX8_told_120 : decode cX8_told 120 = .ok (.invokevirtual 141, 3) := by decide +kernel
theorem dX8_told_123 : decode cX8_told 123 = .ok (.ifCond .eq 19, 3) := by decide +kernel
theorem dX8_told_126 : decode cX8_told 126 = .ok (.aload_n 0, 1) := by decide +kernel
theorem dX8_told_127 : decode cX8_told 127 = .ok (.getfield 41, 3) := by decide +kernel
theorem dX8_told_130 : decode cX8_told 130 = .ok (.iconst 0, 1) := by decide +kernel
theorem dX8_told_131 : decode cX8_told 131 = .ok (.iaload, 1) := by decide +kernel
theorem dX8_told_132 : decode cX8_told 132 = .ok (.aload_n 0, 1) := by decide +kernel
theorem dX8_told_133 : decode cX8_told 133 = .ok (.getfield 17, 3) := by decide +kernel
theorem dX8_told_136 : decode cX8_told 136 = .ok (.iconst 1, 1) := by decide +kernel
theorem dX8_told_137 : decode cX8_told 137 = .ok (.iaload, 1) := by decide +kernel
theorem dX8_told_138 : decode cX8_told 138 = .ok (.idiv, 1) := by decide +kernel
theorem dX8_told_139 : decode cX8_told 139 = .ok (.goto 4, 3) := by decide +kernel
theorem dX8_told_142 : decode cX8_told 142 = .ok (.iconst 0, 1) := by decide +kernel
theorem dX8_told_143 : decode cX8_told 143 = .ok (.ireturn, 1) := by decide +kernel
theorem dX8_told_144 : decode cX8_told 144 = .ok (.aload_n 0, 1) := by decide +kernel
theorem dX8_told_145 : decode cX8_told 145 = .ok (.iconst 0, 1) := by decide +kernel
theorem dX8_told_146 : decode cX8_told 146 = .ok (.invokevirtual 145, 3) := by decide +kernel
theorem dX8_told_149 : decode cX8_told 149 = .ok (.ireturn, 1) := by decide +kernel
theorem dX8_told_150 : decode cX8_told 150 = .ok (.aload_n 0, 1) := by decide +kernel
theorem dX8_told_151 : decode cX8_told 151 = .ok (.iconst 1, 1) := by decide +kernel
theorem dX8_told_152 : decode cX8_told 152 = .ok (.invokevirtual 145, 3) := by decide +kernel
theorem dX8_told_155 : decode cX8_told 155 = .ok (.ireturn, 1) := by decide +kernel
theorem dX8_told_156 : decode cX8_told 156 = .ok (.aload_n 0, 1) := by decide +kernel
theorem dX8_told_157 : decode cX8_told 157 = .ok (.iconst 2, 1) := by decide +kernel
theorem dX8_told_158 : decode cX8_told 158 = .ok (.invokevirtual 145, 3) := by decide +kernel
theorem dX8_told_161 : decode cX8_told 161 = .ok (.ireturn, 1) := by decide +kernel
theorem dX8_told_162 : decode cX8_told 162 = .ok (.aload_n 0, 1) := by decide +kernel
theorem dX8_told_163 : decode cX8_told 163 = .ok (.getfield 131, 3) := by decide +kernel
theorem dX8_told_166 : decode cX8_told 166 = .ok (.ireturn, 1) := by decide +kernel
theorem dX8_told_167 : decode cX8_told 167 = .ok (.aload_n 0, 1) := by decide +kernel
theorem dX8_told_168 : decode cX8_told 168 = .ok (.getfield 134, 3) := by decide +kernel
theorem dX8_told_171 : decode cX8_told 171 = .ok (.ireturn, 1) := by decide +kernel
theorem dX8_told_172 : decode cX8_told 172 = .ok (.aload_n 0, 1) := by decide +kernel
theorem dX8_told_173 : decode cX8_told 173 = .ok (.getfield 128, 3) := by decide +kernel
theorem dX8_told_176 : decode cX8_told 176 = .ok (.ireturn, 1) := by decide +kernel
theorem dX8_told_177 : decode cX8_told 177 = .ok (.ldc 76, 2) := by decide +kernel
theorem dX8_told_179 : decode cX8_told 179 = .ok (.ireturn, 1) := by decide +kernel
set_option maxRecDepth 20000 in
theorem ggX8_depth_X8_isDepth : GoodIn wsX8_depth wsX8_isDepth := goodIn_r _ [7, 8, 9, 10, 6, 11, 12, 13, 14, 15, 16, 17, 18, 19, 20, 21, 22, 23, 24, 25, 26, 27, 28, 29, 30, 31, 32, 33, 34, 35, 36, 37, 38] (by decide +kernel) (by decide +kernel)
set_option maxRecDepth 20000 in
theorem gX8_depth_X8_isDepth : GoodIn wsX8_depth (wsV RX8 149 RX8 yX8_isDepth wsX8_isDepth) := goodIn_app (goodIn_of _ (by decide +kernel)) ggX8_depth_X8_isDepth
theorem dX8_depth_0 : decode cX8_depth 0 = .ok (.aload_n 0, 1) := by decide +kernel
theorem dX8_depth_1 : decode cX8_depth 1 = .ok (.iload_n 1, 1) := by decide +kernel
theorem dX8_depth_2 : decode cX8_depth 2 = .ok (.invokevirtual 149, 3) := by decide +kernel
theorem dX8_depth_5 : decode cX8_depth 5 = .ok (.ifCond .eq 12, 3) := by decide +kernel
theorem dX8_depth_8 : decode cX8_depth 8 = .ok (.aload_n 0, 1) := by decide +kernel
theorem dX8_depth_9 : decode cX8_depth 9 = .ok (.getfield 20, 3) := by decide +kernel
theorem dX8_depth_12 : decode cX8_depth 12 = .ok (.iload_n 1, 1) := by decide +kernel
theorem dX8_depth_13 : decode cX8_depth 13 = .ok (.iaload, 1) := by decide +kernel
theorem dX8_depth_14 : decode cX8_depth 14 = .ok (.goto 5, 3) := by decide +kernel
theorem dX8_depth_17 : decode cX8_depth 17 = .ok (.ldc 152, 2) := by decide +kernel
theorem dX8_depth_19 : decode cX8_depth 19 = .ok (.ireturn, 1) := by decide +kernel
set_option maxRecDepth 20000 in
theorem ggX8_daysOf_X8_isBelow : GoodIn wsX8_daysOf wsX8_isBelow := goodIn_r _ [7, 1, 8, 9, 10, 11, 12, 13, 14, 15, 16, 17, 18, 19, 20, 21, 22, 23, 24, 25, 26, 27, 28, 29, 30, 31, 32, 33, 34] (by decide +kernel) (by decide +kernel)
set_option maxRecDepth 20000 in
theorem gX8_daysOf_X8_isBelow : GoodIn wsX8_daysOf (wsV RX8 137 RX8 yX8_isBelow wsX8_isBelow) := goodIn_app (goodIn_of _ (by decide +kernel)) ggX8_daysOf_X8_isBelow
theorem dX8_daysOf_0 : decode cX8_daysOf 0 = .ok (.aload_n 0, 1) := by decide +kernel
theorem dX8_daysOf_1 : decode cX8_daysOf 1 = .ok (.iload_n 1, 1) := by decide +kernel
theorem dX8_daysOf_2 : decode cX8_daysOf 2 = .ok (.invokevirtual 137, 3) := by decide +kernel
theorem dX8_daysOf_5 : decode cX8_daysOf 5 = .ok (.ifCond .eq 33, 3) := by decide +kernel
theorem dX8_daysOf_8 : decode cX8_daysOf 8 = .ok (.aload_n 0, 1) := by decide +kernel
theorem dX8_daysOf_9 : decode cX8_daysOf 9 = .ok (.getfield 41, 3) := by decide +kernel
theorem dX8_daysOf_12 : decode cX8_daysOf 12 = .ok (.bipush 22, 2) := by decide +kernel
theorem dX8_daysOf_14 : decode cX8_daysOf 14 = .ok (.iload_n 1, 1) := by decide +kernel
theorem dX8_daysOf_15 : decode cX8_daysOf 15 = .ok (.iadd, 1) := by decide +kernel
theorem dX8_daysOf_16 : decode cX8_daysOf 16 = .ok (.iaload, 1) := by decide +kernel
theorem dX8_daysOf_17 : decode cX8_daysOf 17 = .ok (.aload_n 0, 1) := by decide +kernel
theorem dX8_daysOf_18 : decode cX8_daysOf 18 = .ok (.getfield 20, 3) := by decide +kernel
theorem dX8_daysOf_21 : decode cX8_daysOf 21 = .ok (.aload_n 0, 1) := by decide +kernel
theorem dX8_daysOf_22 : decode cX8_daysOf 22 = .ok (.getfield 41, 3) := by decide +kernel
theorem dX8_daysOf_25 : decode cX8_daysOf 25 = .ok (.bipush 8, 2) := by decide +kernel
theorem dX8_daysOf_27 : decode cX8_daysOf 27 = .ok (.iload_n 1, 1) := by decide +kernel
theorem dX8_daysOf_28 : decode cX8_daysOf 28 = .ok (.iadd, 1) := by decide +kernel
theorem dX8_daysOf_29 : decode cX8_daysOf 29 = .ok (.iaload, 1) := by decide +kernel
theorem dX8_daysOf_30 : decode cX8_daysOf 30 = .ok (.bipush 10, 2) := by decide +kernel
theorem dX8_daysOf_32 : decode cX8_daysOf 32 = .ok (.isub, 1) := by decide +kernel
theorem dX8_daysOf_33 : decode cX8_daysOf 33 = .ok (.iaload, 1) := by decide +kernel
theorem dX8_daysOf_34 : decode cX8_daysOf 34 = .ok (.idiv, 1) := by decide +kernel
theorem dX8_daysOf_35 : decode cX8_daysOf 35 = .ok (.goto 4, 3) := by decide +kernel
theorem dX8_daysOf_38 : decode cX8_daysOf 38 = .ok (.iconst 0, 1) := by decide +kernel
theorem dX8_daysOf_39 : decode cX8_daysOf 39 = .ok (.ireturn, 1) := by decide +kernel
set_option maxRecDepth 20000 in
theorem ggX8_person_X8_isPerson : GoodIn wsX8_person wsX8_isPerson := goodIn_r _ [8, 9, 10, 11, 7, 12, 27, 28, 29, 30, 31, 32, 33, 34, 35, 36, 37, 38, 39, 40, 41, 42, 43, 44, 45, 46, 47, 48, 49, 50, 51, 52, 53] (by decide +kernel) (by decide +kernel)
set_option maxRecDepth 20000 in
theorem gX8_person_X8_isPerson : GoodIn wsX8_person (wsV RX8 153 RX8 yX8_isPerson wsX8_isPerson) := goodIn_app (goodIn_of _ (by decide +kernel)) ggX8_person_X8_isPerson
set_option maxRecDepth 20000 in
theorem ggX8_person_X8_end : GoodIn wsX8_person wsX8_end := goodIn_r _ [16, 17, 27, 28, 29, 30, 31, 32, 33, 34, 35, 36, 37, 38, 39, 40, 41, 42, 43, 44, 45, 46, 47, 48, 49, 50, 51, 52, 53] (by decide +kernel) (by decide +kernel)
set_option maxRecDepth 20000 in
theorem gX8_person_X8_end : GoodIn wsX8_person (wsV RX8 156 RX8 yX8_end wsX8_end) := goodIn_app (goodIn_of _ (by decide +kernel)) ggX8_person_X8_end
set_option maxRecDepth 20000 in
theorem ggX8_person_X8_daysOf : GoodIn wsX8_person wsX8_daysOf := goodIn_r _ [21, 2, 22, 23, 24, 25, 7, 26, 27, 28, 29, 30, 31, 32, 33, 34, 35, 36, 37, 38, 39, 40, 41, 42, 43, 44, 45, 46, 47, 48, 49, 50, 51, 52, 53] (by decide +kernel) (by decide +kernel)
set_option maxRecDepth 20000 in
theorem gX8_person_X8_daysOf : GoodIn wsX8_person (wsV RX8 159 RX8 yX8_daysOf wsX8_daysOf) := goodIn_app (goodIn_of _ (by decide +kernel)) ggX8_person_X8_daysOf
theorem dX8_person_0 : decode cX8_person 0 = .ok (.aload_n 0, 1) := by decide +kernel
theorem dX8_person_1 : decode cX8_person 1 = .ok (.iload_n 1, 1) := by decide +kernel
theorem dX8_person_2 : decode cX8_person 2 = .ok (.invokevirtual 153, 3) := by decide +kernel
theorem dX8_person_5 : decode cX8_person 5 = .ok (.ifCond .ne 6, 3) := by decide +kernel
theorem dX8_person_8 : decode cX8_person 8 = .ok (.ldc 152, 2) := by decide +kernel
theorem dX8_person_10 : decode cX8_person 10 = .ok (.ireturn, 1) := by decide +kernel
theorem dX8_person_11 : decode cX8_person 11 = .ok (.iload_n 2, 1) := by decide +kernel
theorem dX8_person_12 : decode cX8_person 12 = .ok (.tableswitch 77 0 4 #[36, 45, 51, 61, 71], 36) := by decide +kernel
theorem dX8_person_48 : decode cX8_person 48 = .ok (.aload_n 0, 1) := by decide +kernel
theorem dX8_person_49 : decode cX8_person 49 = .ok (.getfield 41, 3) := by decide +kernel
theorem dX8_person_52 : decode cX8_person 52 = .ok (.iconst 1, 1) := by decide +kernel
theorem dX8_person_53 : decode cX8_person 53 = .ok (.iload_n 1, 1) := by decide +kernel
theorem dX8_person_54 : decode cX8_person 54 = .ok (.iadd, 1) := by decide +kernel
theorem dX8_person_55 : decode cX8_person 55 = .ok (.iaload, 1) := by decide +kernel
theorem dX8_person_56 : decode cX8_person 56 = .ok (.ireturn, 1) := by decide +kernel
theorem dX8_person_57 : decode cX8_person 57 = .ok (.aload_n 0, 1) := by decide +kernel
theorem dX8_person_58 : decode cX8_person 58 = .ok (.iload_n 1, 1) := by decide +kernel
theorem dX8_person_59 : decode cX8_person 59 = .ok (.invokevirtual 156, 3) := by decide +kernel
theorem dX8_person_62 : decode cX8_person 62 = .ok (.ireturn, 1) := by decide +kernel
theorem dX8_person_63 : decode cX8_person 63 = .ok (.aload_n 0, 1) := by decide +kernel
theorem dX8_person_64 : decode cX8_person 64 = .ok (.getfield 41, 3) := by decide +kernel
theorem dX8_person_67 : decode cX8_person 67 = .ok (.bipush 8, 2) := by decide +kernel
theorem dX8_person_69 : decode cX8_person 69 = .ok (.iload_n 1, 1) := by decide +kernel
theorem dX8_person_70 : decode cX8_person 70 = .ok (.iadd, 1) := by decide +kernel
theorem dX8_person_71 : decode cX8_person 71 = .ok (.iaload, 1) := by decide +kernel
theorem dX8_person_72 : decode cX8_person 72 = .ok (.ireturn, 1) := by decide +kernel
theorem dX8_person_73 : decode cX8_person 73 = .ok (.aload_n 0, 1) := by decide +kernel
theorem dX8_person_74 : decode cX8_person 74 = .ok (.getfield 41, 3) := by decide +kernel
theorem dX8_person_77 : decode cX8_person 77 = .ok (.bipush 15, 2) := by decide +kernel
theorem dX8_person_79 : decode cX8_person 79 = .ok (.iload_n 1, 1) := by decide +kernel
theorem dX8_person_80 : decode cX8_person 80 = .ok (.iadd, 1) := by decide +kernel
theorem dX8_person_81 : decode cX8_person 81 = .ok (.iaload, 1) := by decide +kernel
theorem dX8_person_82 : decode cX8_person 82 = .ok (.ireturn, 1) := by decide +kernel
theorem dX8_person_83 : decode cX8_person 83 = .ok (.aload_n 0, 1) := by decide +kernel
theorem dX8_person_84 : decode cX8_person 84 = .ok (.iload_n 1, 1) := by decide +kernel
theorem dX8_person_85 : decode cX8_person 85 = .ok (.invokevirtual 159, 3) := by decide +kernel
theorem dX8_person_88 : decode cX8_person 88 = .ok (.ireturn, 1) := by decide +kernel
theorem dX8_person_89 : decode cX8_person 89 = .ok (.ldc 76, 2) := by decide +kernel
theorem dX8_person_91 : decode cX8_person 91 = .ok (.ireturn, 1) := by decide +kernel
set_option maxRecDepth 20000 in
theorem ggX8_good_X8_isGood : GoodIn wsX8_good wsX8_isGood := goodIn_r _ [9, 10, 11, 12, 8, 13, 14, 15, 16, 17, 18, 19, 20, 21, 22, 23, 24, 25, 26, 27, 28, 29, 30, 31, 32, 33, 34, 35, 36, 37, 38, 39, 40] (by decide +kernel) (by decide +kernel)
set_option maxRecDepth 20000 in
theorem gX8_good_X8_isGood : GoodIn wsX8_good (wsV RX8 162 RX8 yX8_isGood wsX8_isGood) := goodIn_app (goodIn_of _ (by decide +kernel)) ggX8_good_X8_isGood
set_option maxRecDepth 20000 in
theorem ggX8_good_X8_in : GoodIn wsX8_good wsX8_in := goodIn_r _ [13] (by decide +kernel) (by decide +kernel)
set_option maxRecDepth 20000 in
theorem gX8_good_X8_in : GoodIn wsX8_good (va_wsS RX8 72 yX8_in wsX8_in) := goodIn_app (goodIn_of _ (by decide +kernel)) ggX8_good_X8_in
theorem dX8_good_0 : decode cX8_good 0 = .ok (.aload_n 0, 1) := by decide +kernel
theorem dX8_good_1 : decode cX8_good 1 = .ok (.iload_n 1, 1) := by decide +kernel
theorem dX8_good_2 : decode cX8_good 2 = .ok (.invokevirtual 162, 3) := by decide +kernel
theorem dX8_good_5 : decode cX8_good 5 = .ok (.ifCond .ne 6, 3) := by decide +kernel
theorem dX8_good_8 : decode cX8_good 8 = .ok (.ldc 152, 2) := by decide +kernel
theorem dX8_good_10 : decode cX8_good 10 = .ok (.ireturn, 1) := by decide +kernel
theorem dX8_good_11 : decode cX8_good 11 = .ok (.iload_n 2, 1) := by decide +kernel
theorem dX8_good_12 : decode cX8_good 12 = .ok (.iconst 0, 1) := by decide +kernel
theorem dX8_good_13 : decode cX8_good 13 = .ok (.iconst 3, 1) := by decide +kernel
theorem dX8_good_14 : decode cX8_good 14 = .ok (.invokestatic 72, 3) := by decide +kernel
theorem dX8_good_17 : decode cX8_good 17 = .ok (.ifCond .ne 6, 3) := by decide +kernel
theorem dX8_good_20 : decode cX8_good 20 = .ok (.ldc 76, 2) := by decide +kernel
theorem dX8_good_22 : decode cX8_good 22 = .ok (.ireturn, 1) := by decide +kernel
theorem dX8_good_23 : decode cX8_good 23 = .ok (.iload_n 2, 1) := by decide +kernel
theorem dX8_good_24 : decode cX8_good 24 = .ok (.ifCond .ne 15, 3) := by decide +kernel
theorem dX8_good_27 : decode cX8_good 27 = .ok (.aload_n 0, 1) := by decide +kernel
theorem dX8_good_28 : decode cX8_good 28 = .ok (.getfield 41, 3) := by decide +kernel
theorem dX8_good_31 : decode cX8_good 31 = .ok (.bipush 29, 2) := by decide +kernel
theorem dX8_good_33 : decode cX8_good 33 = .ok (.iload_n 1, 1) := by decide +kernel
theorem dX8_good_34 : decode cX8_good 34 = .ok (.iadd, 1) := by decide +kernel
theorem dX8_good_35 : decode cX8_good 35 = .ok (.iaload, 1) := by decide +kernel
theorem dX8_good_36 : decode cX8_good 36 = .ok (.goto 15, 3) := by decide +kernel
theorem dX8_good_39 : decode cX8_good 39 = .ok (.aload_n 0, 1) := by decide +kernel
theorem dX8_good_40 : decode cX8_good 40 = .ok (.getfield 26, 3) := by decide +kernel
theorem dX8_good_43 : decode cX8_good 43 = .ok (.iconst 3, 1) := by decide +kernel
theorem dX8_good_44 : decode cX8_good 44 = .ok (.iload_n 1, 1) := by decide +kernel
theorem dX8_good_45 : decode cX8_good 45 = .ok (.imul, 1) := by decide +kernel
theorem dX8_good_46 : decode cX8_good 46 = .ok (.iload_n 2, 1) := by decide +kernel
theorem dX8_good_47 : decode cX8_good 47 = .ok (.iadd, 1) := by decide +kernel
theorem dX8_good_48 : decode cX8_good 48 = .ok (.iconst 1, 1) := by decide +kernel
theorem dX8_good_49 : decode cX8_good 49 = .ok (.isub, 1) := by decide +kernel
theorem dX8_good_50 : decode cX8_good 50 = .ok (.iaload, 1) := by decide +kernel
theorem dX8_good_51 : decode cX8_good 51 = .ok (.ireturn, 1) := by decide +kernel
theorem dX8_notes_0 : decode cX8_notes 0 = .ok (.aload_n 0, 1) := by decide +kernel
theorem dX8_notes_1 : decode cX8_notes 1 = .ok (.getfield 128, 3) := by decide +kernel
theorem dX8_notes_4 : decode cX8_notes 4 = .ok (.bipush 20, 2) := by decide +kernel
theorem dX8_notes_6 : decode cX8_notes 6 = .ok (.if_icmp .ne 43, 3) := by decide +kernel
theorem dX8_notes_9 : decode cX8_notes 9 = .ok (.iconst 0, 1) := by decide +kernel
theorem dX8_notes_10 : decode cX8_notes 10 = .ok (.istore_n 1, 1) := by decide +kernel
theorem dX8_notes_11 : decode cX8_notes 11 = .ok (.iload_n 1, 1) := by decide +kernel
theorem dX8_notes_12 : decode cX8_notes 12 = .ok (.sipush 665, 3) := by decide +kernel
theorem dX8_notes_15 : decode cX8_notes 15 = .ok (.if_icmp .ge 24, 3) := by decide +kernel
theorem dX8_notes_18 : decode cX8_notes 18 = .ok (.aload_n 0, 1) := by decide +kernel
theorem dX8_notes_19 : decode cX8_notes 19 = .ok (.getfield 44, 3) := by decide +kernel
theorem dX8_notes_22 : decode cX8_notes 22 = .ok (.iload_n 1, 1) := by decide +kernel
theorem dX8_notes_23 : decode cX8_notes 23 = .ok (.aload_n 0, 1) := by decide +kernel
theorem dX8_notes_24 : decode cX8_notes 24 = .ok (.getfield 44, 3) := by decide +kernel
theorem dX8_notes_27 : decode cX8_notes 27 = .ok (.iload_n 1, 1) := by decide +kernel
theorem dX8_notes_28 : decode cX8_notes 28 = .ok (.bipush 35, 2) := by decide +kernel
theorem dX8_notes_30 : decode cX8_notes 30 = .ok (.iadd, 1) := by decide +kernel
theorem dX8_notes_31 : decode cX8_notes 31 = .ok (.iaload, 1) := by decide +kernel
theorem dX8_notes_32 : decode cX8_notes 32 = .ok (.iastore, 1) := by decide +kernel
theorem dX8_notes_33 : decode cX8_notes 33 = .ok (.iinc 1 1, 3) := by decide +kernel
theorem dX8_notes_36 : decode cX8_notes 36 = .ok (.goto (-25), 3) := by decide +kernel
theorem dX8_notes_39 : decode cX8_notes 39 = .ok (.aload_n 0, 1) := by decide +kernel
theorem dX8_notes_40 : decode cX8_notes 40 = .ok (.dup, 1) := by decide +kernel
theorem dX8_notes_41 : decode cX8_notes 41 = .ok (.getfield 128, 3) := by decide +kernel
theorem dX8_notes_44 : decode cX8_notes 44 = .ok (.iconst 1, 1) := by decide +kernel
theorem dX8_notes_45 : decode cX8_notes 45 = .ok (.isub, 1) := by decide +kernel
theorem dX8_notes_46 : decode cX8_notes 46 = .ok (.putfield 128, 3) := by decide +kernel
theorem dX8_notes_49 : decode cX8_notes 49 = .ok (.iconst 0, 1) := by decide +kernel
theorem dX8_notes_50 : decode cX8_notes 50 = .ok (.istore_n 1, 1) := by decide +kernel
theorem dX8_notes_51 : decode cX8_notes 51 = .ok (.iload_n 1, 1) := by decide +kernel
theorem dX8_notes_52 : decode cX8_notes 52 = .ok (.bipush 35, 2) := by decide +kernel
theorem dX8_notes_54 : decode cX8_notes 54 = .ok (.if_icmp .ge 29, 3) := by decide +kernel
theorem dX8_notes_57 : decode cX8_notes 57 = .ok (.aload_n 0, 1) := by decide +kernel
theorem dX8_notes_58 : decode cX8_notes 58 = .ok (.getfield 44, 3) := by decide +kernel
theorem dX8_notes_61 : decode cX8_notes 61 = .ok (.bipush 35, 2) := by decide +kernel
theorem dX8_notes_63 : decode cX8_notes 63 = .ok (.aload_n 0, 1) := by decide +kernel
theorem dX8_notes_64 : decode cX8_notes 64 = .ok (.getfield 128, 3) := by decide +kernel
theorem dX8_notes_67 : decode cX8_notes 67 = .ok (.imul, 1) := by decide +kernel
theorem dX8_notes_68 : decode cX8_notes 68 = .ok (.iload_n 1, 1) := by decide +kernel
theorem dX8_notes_69 : decode cX8_notes 69 = .ok (.iadd, 1) := by decide +kernel
theorem dX8_notes_70 : decode cX8_notes 70 = .ok (.aload_n 0, 1) := by decide +kernel
theorem dX8_notes_71 : decode cX8_notes 71 = .ok (.getfield 41, 3) := by decide +kernel
theorem dX8_notes_74 : decode cX8_notes 74 = .ok (.iload_n 1, 1) := by decide +kernel
theorem dX8_notes_75 : decode cX8_notes 75 = .ok (.iaload, 1) := by decide +kernel
theorem dX8_notes_76 : decode cX8_notes 76 = .ok (.iastore, 1) := by decide +kernel
theorem dX8_notes_77 : decode cX8_notes 77 = .ok (.iinc 1 1, 3) := by decide +kernel
theorem dX8_notes_80 : decode cX8_notes 80 = .ok (.goto (-29), 3) := by decide +kernel
theorem dX8_notes_83 : decode cX8_notes 83 = .ok (.aload_n 0, 1) := by decide +kernel
theorem dX8_notes_84 : decode cX8_notes 84 = .ok (.dup, 1) := by decide +kernel
theorem dX8_notes_85 : decode cX8_notes 85 = .ok (.getfield 128, 3) := by decide +kernel
theorem dX8_notes_88 : decode cX8_notes 88 = .ok (.iconst 1, 1) := by decide +kernel
theorem dX8_notes_89 : decode cX8_notes 89 = .ok (.iadd, 1) := by decide +kernel
theorem dX8_notes_90 : decode cX8_notes 90 = .ok (.putfield 128, 3) := by decide +kernel
theorem dX8_notes_93 : decode cX8_notes 93 = .ok (.return_, 1) := by decide +kernel
theorem dX8_later_0 : decode cX8_later 0 = .ok (.aload_n 0, 1) := by decide +kernel
theorem dX8_later_1 : decode cX8_later 1 = .ok (.getfield 26, 3) := by decide +kernel
theorem dX8_later_4 : decode cX8_later 4 = .ok (.iconst 3, 1) := by decide +kernel
theorem dX8_later_5 : decode cX8_later 5 = .ok (.iload_n 1, 1) := by decide +kernel
theorem dX8_later_6 : decode cX8_later 6 = .ok (.imul, 1) := by decide +kernel
theorem dX8_later_7 : decode cX8_later 7 = .ok (.iconst 1, 1) := by decide +kernel
theorem dX8_later_8 : decode cX8_later 8 = .ok (.iadd, 1) := by decide +kernel
theorem dX8_later_9 : decode cX8_later 9 = .ok (.iaload, 1) := by decide +kernel
theorem dX8_later_10 : decode cX8_later 10 = .ok (.istore_n 3, 1) := by decide +kernel
theorem dX8_later_11 : decode cX8_later 11 = .ok (.iload_n 3, 1) := by decide +kernel
theorem dX8_later_12 : decode cX8_later 12 = .ok (.bipush 50, 2) := by decide +kernel
theorem dX8_later_14 : decode cX8_later 14 = .ok (.if_icmp .le 15, 3) := by decide +kernel
theorem dX8_later_17 : decode cX8_later 17 = .ok (.iload_n 2, 1) := by decide +kernel
theorem dX8_later_18 : decode cX8_later 18 = .ok (.iload_n 2, 1) := by decide +kernel
theorem dX8_later_19 : decode cX8_later 19 = .ok (.iload_n 3, 1) := by decide +kernel
theorem dX8_later_20 : decode cX8_later 20 = .ok (.bipush 50, 2) := by decide +kernel
theorem dX8_later_22 : decode cX8_later 22 = .ok (.isub, 1) := by decide +kernel
theorem dX8_later_23 : decode cX8_later 23 = .ok (.imul, 1) := by decide +kernel
theorem dX8_later_24 : decode cX8_later 24 = .ok (.bipush 100, 2) := by decide +kernel
theorem dX8_later_26 : decode cX8_later 26 = .ok (.idiv, 1) := by decide +kernel
theorem dX8_later_27 : decode cX8_later 27 = .ok (.isub, 1) := by decide +kernel
theorem dX8_later_28 : decode cX8_later 28 = .ok (.ireturn, 1) := by decide +kernel
theorem dX8_later_29 : decode cX8_later 29 = .ok (.iload_n 2, 1) := by decide +kernel
theorem dX8_later_30 : decode cX8_later 30 = .ok (.iload_n 2, 1) := by decide +kernel
theorem dX8_later_31 : decode cX8_later 31 = .ok (.iload_n 3, 1) := by decide +kernel
theorem dX8_later_32 : decode cX8_later 32 = .ok (.imul, 1) := by decide +kernel
theorem dX8_later_33 : decode cX8_later 33 = .ok (.bipush 100, 2) := by decide +kernel
theorem dX8_later_35 : decode cX8_later 35 = .ok (.idiv, 1) := by decide +kernel
theorem dX8_later_36 : decode cX8_later 36 = .ok (.iadd, 1) := by decide +kernel
theorem dX8_later_37 : decode cX8_later 37 = .ok (.istore 4, 2) := by decide +kernel
theorem dX8_later_39 : decode cX8_later 39 = .ok (.iload 4, 2) := by decide +kernel
theorem dX8_later_41 : decode cX8_later 41 = .ok (.aload_n 0, 1) := by decide +kernel
theorem dX8_later_42 : decode cX8_later 42 = .ok (.getfield 26, 3) := by decide +kernel
theorem dX8_later_45 : decode cX8_later 45 = .ok (.iconst 3, 1) := by decide +kernel
theorem dX8_later_46 : decode cX8_later 46 = .ok (.iload_n 1, 1) := by decide +kernel
theorem dX8_later_47 : decode cX8_later 47 = .ok (.imul, 1) := by decide +kernel
theorem dX8_later_48 : decode cX8_later 48 = .ok (.iconst 2, 1) := by decide +kernel
theorem dX8_later_49 : decode cX8_later 49 = .ok (.iadd, 1) := by decide +kernel
theorem dX8_later_50 : decode cX8_later 50 = .ok (.iaload, 1) := by decide +kernel
theorem dX8_later_51 : decode cX8_later 51 = .ok (.if_icmp .gt 8, 3) := by decide +kernel
theorem dX8_later_54 : decode cX8_later 54 = .ok (.iload 4, 2) := by decide +kernel
theorem dX8_later_56 : decode cX8_later 56 = .ok (.goto 4, 3) := by decide +kernel
theorem dX8_later_59 : decode cX8_later 59 = .ok (.iload_n 2, 1) := by decide +kernel
theorem dX8_later_60 : decode cX8_later 60 = .ok (.ireturn, 1) := by decide +kernel
set_option maxRecDepth 20000 in
theorem ggX8_passes_X8_isAbove : GoodIn wsX8_passes wsX8_isAbove := goodIn_r _ [7, 2, 22, 23, 24, 25, 26, 27, 28, 29, 30, 31, 32, 33, 34, 35, 36, 37, 38, 39, 40, 41, 42, 43, 44, 45, 46, 47, 48] (by decide +kernel) (by decide +kernel)
set_option maxRecDepth 20000 in
theorem gX8_passes_X8_isAbove : GoodIn wsX8_passes (wsV RX8 165 RX8 yX8_isAbove wsX8_isAbove) := goodIn_app (goodIn_of _ (by decide +kernel)) ggX8_passes_X8_isAbove
set_option maxRecDepth 20000 in
theorem ggX8_passes_X8_end : GoodIn wsX8_passes wsX8_end := goodIn_r _ [11, 12, 22, 23, 24, 25, 26, 27, 28, 29, 30, 31, 32, 33, 34, 35, 36, 37, 38, 39, 40, 41, 42, 43, 44, 45, 46, 47, 48] (by decide +kernel) (by decide +kernel)
set_option maxRecDepth 20000 in
theorem gX8_passes_X8_end : GoodIn wsX8_passes (wsV RX8 156 RX8 yX8_end wsX8_end) := goodIn_app (goodIn_of _ (by decide +kernel)) ggX8_passes_X8_end
set_option maxRecDepth 20000 in
theorem ggX8_passes_X8_isBelow : GoodIn wsX8_passes wsX8_isBelow := goodIn_r _ [16, 2, 22, 23, 24, 25, 26, 27, 28, 29, 30, 31, 32, 33, 34, 35, 36, 37, 38, 39, 40, 41, 42, 43, 44, 45, 46, 47, 48] (by decide +kernel) (by decide +kernel)
set_option maxRecDepth 20000 in
theorem gX8_passes_X8_isBelow : GoodIn wsX8_passes (wsV RX8 137 RX8 yX8_isBelow wsX8_isBelow) := goodIn_app (goodIn_of _ (by decide +kernel)) ggX8_passes_X8_isBelow
set_option maxRecDepth 20000 in
theorem ggX8_passes_X8_later : GoodIn wsX8_passes wsX8_later := goodIn_r _ [20, 21, 22, 23, 24, 25, 26, 27, 28, 29, 30, 31, 32, 33, 34, 35, 36, 37, 38, 39, 40, 41, 42, 43, 44, 45, 46, 47, 48] (by decide +kernel) (by decide +kernel)
set_option maxRecDepth 20000 in
theorem gX8_passes_X8_later : GoodIn wsX8_passes (wsV RX8 168 RX8 yX8_later wsX8_later) := goodIn_app (goodIn_of _ (by decide +kernel)) ggX8_passes_X8_later
theorem dX8_passes_0 : decode cX8_passes 0 = .ok (.iconst 0, 1) := by decide +kernel
theorem dX8_passes_1 : decode cX8_passes 1 = .ok (.istore_n 1, 1) := by decide +kernel
theorem dX8_passes_2 : decode cX8_passes 2 = .ok (.iload_n 1, 1) := by decide +kernel
theorem dX8_passes_3 : decode cX8_passes 3 = .ok (.aload_n 0, 1) := by decide +kernel
theorem dX8_passes_4 : decode cX8_passes 4 = .ok (.getfield 17, 3) := by decide +kernel
theorem dX8_passes_7 : decode cX8_passes 7 = .ok (.iconst 3, 1) := by decide +kernel
theorem dX8_passes_8 : decode cX8_passes 8 = .ok (.iaload, 1) := by decide +kernel
theorem dX8_passes_9 : decode cX8_passes 9 = .ok (.if_icmp .ge 96, 3) := by decide +kernel
theorem dX8_passes_12 : decode cX8_passes 12 = .ok (.aload_n 0, 1) := by decide +kernel
theorem dX8_passes_13 : decode cX8_passes 13 = .ok (.iload_n 1, 1) := by decide +kernel
theorem dX8_passes_14 : decode cX8_passes 14 = .ok (.invokevirtual 165, 3) := by decide +kernel
theorem dX8_passes_17 : decode cX8_passes 17 = .ok (.ifCond .eq 48, 3) := by decide +kernel
theorem dX8_passes_20 : decode cX8_passes 20 = .ok (.aload_n 0, 1) := by decide +kernel
theorem dX8_passes_21 : decode cX8_passes 21 = .ok (.getfield 41, 3) := by decide +kernel
theorem dX8_passes_24 : decode cX8_passes 24 = .ok (.iconst 1, 1) := by decide +kernel
theorem dX8_passes_25 : decode cX8_passes 25 = .ok (.iload_n 1, 1) := by decide +kernel
theorem dX8_passes_26 : decode cX8_passes 26 = .ok (.iadd, 1) := by decide +kernel
theorem dX8_passes_27 : decode cX8_passes 27 = .ok (.dup2, 1) := by decide +kernel
theorem dX8_passes_28 : decode cX8_passes 28 = .ok (.iaload, 1) := by decide +kernel
theorem dX8_passes_29 : decode cX8_passes 29 = .ok (.iconst 1, 1) := by decide +kernel
theorem dX8_passes_30 : decode cX8_passes 30 = .ok (.iadd, 1) := by decide +kernel
theorem dX8_passes_31 : decode cX8_passes 31 = .ok (.iastore, 1) := by decide +kernel
theorem dX8_passes_32 : decode cX8_passes 32 = .ok (.aload_n 0, 1) := by decide +kernel
theorem dX8_passes_33 : decode cX8_passes 33 = .ok (.getfield 41, 3) := by decide +kernel
theorem dX8_passes_36 : decode cX8_passes 36 = .ok (.bipush 8, 2) := by decide +kernel
theorem dX8_passes_38 : decode cX8_passes 38 = .ok (.iload_n 1, 1) := by decide +kernel
theorem dX8_passes_39 : decode cX8_passes 39 = .ok (.iadd, 1) := by decide +kernel
theorem dX8_passes_40 : decode cX8_passes 40 = .ok (.aload_n 0, 1) := by decide +kernel
theorem dX8_passes_41 : decode cX8_passes 41 = .ok (.getfield 41, 3) := by decide +kernel
theorem dX8_passes_44 : decode cX8_passes 44 = .ok (.iconst 1, 1) := by decide +kernel
theorem dX8_passes_45 : decode cX8_passes 45 = .ok (.iload_n 1, 1) := by decide +kernel
theorem dX8_passes_46 : decode cX8_passes 46 = .ok (.iadd, 1) := by decide +kernel
theorem dX8_passes_47 : decode cX8_passes 47 = .ok (.iaload, 1) := by decide +kernel
theorem dX8_passes_48 : decode cX8_passes 48 = .ok (.aload_n 0, 1) := by decide +kernel
theorem dX8_passes_49 : decode cX8_passes 49 = .ok (.iload_n 1, 1) := by decide +kernel
theorem dX8_passes_50 : decode cX8_passes 50 = .ok (.invokevirtual 156, 3) := by decide +kernel
theorem dX8_passes_53 : decode cX8_passes 53 = .ok (.if_icmp .lt 7, 3) := by decide +kernel
theorem dX8_passes_56 : decode cX8_passes 56 = .ok (.iconst 1, 1) := by decide +kernel
theorem dX8_passes_57 : decode cX8_passes 57 = .ok (.goto 4, 3) := by decide +kernel
theorem dX8_passes_60 : decode cX8_passes 60 = .ok (.iconst 0, 1) := by decide +kernel
theorem dX8_passes_61 : decode cX8_passes 61 = .ok (.iastore, 1) := by decide +kernel
theorem dX8_passes_62 : decode cX8_passes 62 = .ok (.goto 37, 3) := by decide +kernel
theorem dX8_passes_65 : decode cX8_passes 65 = .ok (.aload_n 0, 1) := by decide +kernel
theorem dX8_passes_66 : decode cX8_passes 66 = .ok (.iload_n 1, 1) := by decide +kernel
theorem dX8_passes_67 : decode cX8_passes 67 = .ok (.invokevirtual 137, 3) := by decide +kernel
theorem dX8_passes_70 : decode cX8_passes 70 = .ok (.ifCond .eq 29, 3) := by decide +kernel
theorem dX8_passes_73 : decode cX8_passes 73 = .ok (.aload_n 0, 1) := by decide +kernel
theorem dX8_passes_74 : decode cX8_passes 74 = .ok (.getfield 41, 3) := by decide +kernel
theorem dX8_passes_77 : decode cX8_passes 77 = .ok (.bipush 15, 2) := by decide +kernel
theorem dX8_passes_79 : decode cX8_passes 79 = .ok (.iload_n 1, 1) := by decide +kernel
theorem dX8_passes_80 : decode cX8_passes 80 = .ok (.iadd, 1) := by decide +kernel
theorem dX8_passes_81 : decode cX8_passes 81 = .ok (.dup2, 1) := by decide +kernel
theorem dX8_passes_82 : decode cX8_passes 82 = .ok (.iaload, 1) := by decide +kernel
theorem dX8_passes_83 : decode cX8_passes 83 = .ok (.iconst 1, 1) := by decide +kernel
theorem dX8_passes_84 : decode cX8_passes 84 = .ok (.iadd, 1) := by decide +kernel
theorem dX8_passes_85 : decode cX8_passes 85 = .ok (.iastore, 1) := by decide +kernel
theorem dX8_passes_86 : decode cX8_passes 86 = .ok (.aload_n 0, 1) := by decide +kernel
theorem dX8_passes_87 : decode cX8_passes 87 = .ok (.getfield 41, 3) := by decide +kernel
theorem dX8_passes_90 : decode cX8_passes 90 = .ok (.bipush 22, 2) := by decide +kernel
theorem dX8_passes_92 : decode cX8_passes 92 = .ok (.iload_n 1, 1) := by decide +kernel
theorem dX8_passes_93 : decode cX8_passes 93 = .ok (.iadd, 1) := by decide +kernel
theorem dX8_passes_94 : decode cX8_passes 94 = .ok (.dup2, 1) := by decide +kernel
theorem dX8_passes_95 : decode cX8_passes 95 = .ok (.iaload, 1) := by decide +kernel
theorem dX8_passes_96 : decode cX8_passes 96 = .ok (.iconst 1, 1) := by decide +kernel
theorem dX8_passes_97 : decode cX8_passes 97 = .ok (.iadd, 1) := by decide +kernel
theorem dX8_passes_98 : decode cX8_passes 98 = .ok (.iastore, 1) := by decide +kernel
theorem dX8_passes_99 : decode cX8_passes 99 = .ok (.iinc 1 1, 3) := by decide +kernel
theorem dX8_passes_102 : decode cX8_passes 102 = .ok (.goto (-100), 3) := by decide +kernel
theorem dX8_passes_105 : decode cX8_passes 105 = .ok (.iconst 0, 1) := by decide +kernel
theorem dX8_passes_106 : decode cX8_passes 106 = .ok (.istore_n 1, 1) := by decide +kernel
theorem dX8_passes_107 : decode cX8_passes 107 = .ok (.iload_n 1, 1) := by decide +kernel
theorem dX8_passes_108 : decode cX8_passes 108 = .ok (.aload_n 0, 1) := by decide +kernel
theorem dX8_passes_109 : decode cX8_passes 109 = .ok (.getfield 17, 3) := by decide +kernel
theorem dX8_passes_112 : decode cX8_passes 112 = .ok (.iconst 4, 1) := by decide +kernel
theorem dX8_passes_113 : decode cX8_passes 113 = .ok (.iaload, 1) := by decide +kernel
theorem dX8_passes_114 : decode cX8_passes 114 = .ok (.if_icmp .ge 32, 3) := by decide +kernel
theorem dX8_passes_117 : decode cX8_passes 117 = .ok (.aload_n 0, 1) := by decide +kernel
theorem dX8_passes_118 : decode cX8_passes 118 = .ok (.getfield 41, 3) := by decide +kernel
theorem dX8_passes_121 : decode cX8_passes 121 = .ok (.bipush 29, 2) := by decide +kernel
theorem dX8_passes_123 : decode cX8_passes 123 = .ok (.iload_n 1, 1) := by decide +kernel
theorem dX8_passes_124 : decode cX8_passes 124 = .ok (.iadd, 1) := by decide +kernel
theorem dX8_passes_125 : decode cX8_passes 125 = .ok (.aload_n 0, 1) := by decide +kernel
theorem dX8_passes_126 : decode cX8_passes 126 = .ok (.iload_n 1, 1) := by decide +kernel
theorem dX8_passes_127 : decode cX8_passes 127 = .ok (.aload_n 0, 1) := by decide +kernel
theorem dX8_passes_128 : decode cX8_passes 128 = .ok (.getfield 41, 3) := by decide +kernel
theorem dX8_passes_131 : decode cX8_passes 131 = .ok (.bipush 29, 2) := by decide +kernel
theorem dX8_passes_133 : decode cX8_passes 133 = .ok (.iload_n 1, 1) := by decide +kernel
theorem dX8_passes_134 : decode cX8_passes 134 = .ok (.iadd, 1) := by decide +kernel
theorem dX8_passes_135 : decode cX8_passes 135 = .ok (.iaload, 1) := by decide +kernel
theorem dX8_passes_136 : decode cX8_passes 136 = .ok (.invokevirtual 168, 3) := by decide +kernel
theorem dX8_passes_139 : decode cX8_passes 139 = .ok (.iastore, 1) := by decide +kernel
theorem dX8_passes_140 : decode cX8_passes 140 = .ok (.iinc 1 1, 3) := by decide +kernel
theorem dX8_passes_143 : decode cX8_passes 143 = .ok (.goto (-36), 3) := by decide +kernel
theorem dX8_passes_146 : decode cX8_passes 146 = .ok (.aload_n 0, 1) := by decide +kernel
theorem dX8_passes_147 : decode cX8_passes 147 = .ok (.getfield 41, 3) := by decide +kernel
theorem dX8_passes_150 : decode cX8_passes 150 = .ok (.iconst 0, 1) := by decide +kernel
theorem dX8_passes_151 : decode cX8_passes 151 = .ok (.dup2, 1) := by decide +kernel
theorem dX8_passes_152 : decode cX8_passes 152 = .ok (.iaload, 1) := by decide +kernel
theorem dX8_passes_153 : decode cX8_passes 153 = .ok (.iconst 1, 1) := by decide +kernel
theorem dX8_passes_154 : decode cX8_passes 154 = .ok (.iadd, 1) := by decide +kernel
theorem dX8_passes_155 : decode cX8_passes 155 = .ok (.iastore, 1) := by decide +kernel
theorem dX8_passes_156 : decode cX8_passes 156 = .ok (.return_, 1) := by decide +kernel
set_option maxRecDepth 20000 in
theorem ggX8_barred_X8_in : GoodIn wsX8_barred wsX8_in := goodIn_r _ [9] (by decide +kernel) (by decide +kernel)
set_option maxRecDepth 20000 in
theorem gX8_barred_X8_in : GoodIn wsX8_barred (va_wsS RX8 72 yX8_in wsX8_in) := goodIn_app (goodIn_of _ (by decide +kernel)) ggX8_barred_X8_in
set_option maxRecDepth 20000 in
theorem ggX8_barred_X8_isShore : GoodIn wsX8_barred wsX8_isShore := goodIn_r _ [13, 14, 15, 16, 17, 18, 19, 20, 21, 22, 23, 24, 25, 26, 27, 28, 29, 30, 31, 32, 33, 34, 35, 36, 37, 38, 39, 40, 41] (by decide +kernel) (by decide +kernel)
set_option maxRecDepth 20000 in
theorem gX8_barred_X8_isShore : GoodIn wsX8_barred (wsV RX8 141 RX8 yX8_isShore wsX8_isShore) := goodIn_app (goodIn_of _ (by decide +kernel)) ggX8_barred_X8_isShore
theorem dX8_barred_0 : decode cX8_barred 0 = .ok (.iload_n 1, 1) := by decide +kernel
theorem dX8_barred_1 : decode cX8_barred 1 = .ok (.iconst 1, 1) := by decide +kernel
theorem dX8_barred_2 : decode cX8_barred 2 = .ok (.iload_n 2, 1) := by decide +kernel
theorem dX8_barred_3 : decode cX8_barred 3 = .ok (.invokestatic 72, 3) := by decide +kernel
theorem dX8_barred_6 : decode cX8_barred 6 = .ok (.ifCond .ne 8, 3) := by decide +kernel
theorem dX8_barred_9 : decode cX8_barred 9 = .ok (.ldc 76, 2) := by decide +kernel
theorem dX8_barred_11 : decode cX8_barred 11 = .ok (.goto 32, 3) := by decide +kernel
theorem dX8_barred_14 : decode cX8_barred 14 = .ok (.aload_n 0, 1) := by decide +kernel
theorem dX8_barred_15 : decode cX8_barred 15 = .ok (.invokevirtual 141, 3) := by decide +kernel
theorem dX8_barred_18 : decode cX8_barred 18 = .ok (.ifCond .ne 8, 3) := by decide +kernel
theorem dX8_barred_21 : decode cX8_barred 21 = .ok (.ldc 171, 2) := by decide +kernel
theorem dX8_barred_23 : decode cX8_barred 23 = .ok (.goto 20, 3) := by decide +kernel
theorem dX8_barred_26 : decode cX8_barred 26 = .ok (.aload_n 0, 1) := by decide +kernel
theorem dX8_barred_27 : decode cX8_barred 27 = .ok (.getfield 41, 3) := by decide +kernel
theorem dX8_barred_30 : decode cX8_barred 30 = .ok (.iconst 0, 1) := by decide +kernel
theorem dX8_barred_31 : decode cX8_barred 31 = .ok (.iaload, 1) := by decide +kernel
theorem dX8_barred_32 : decode cX8_barred 32 = .ok (.ldc 172, 2) := by decide +kernel
theorem dX8_barred_34 : decode cX8_barred 34 = .ok (.if_icmp .le 8, 3) := by decide +kernel
theorem dX8_barred_37 : decode cX8_barred 37 = .ok (.ldc 80, 2) := by decide +kernel
theorem dX8_barred_39 : decode cX8_barred 39 = .ok (.goto 4, 3) := by decide +kernel
theorem dX8_barred_42 : decode cX8_barred 42 = .ok (.iconst 0, 1) := by decide +kernel
theorem dX8_barred_43 : decode cX8_barred 43 = .ok (.ireturn, 1) := by decide +kernel
set_option maxRecDepth 20000 in
theorem ggX8_year_X8_barred : GoodIn wsX8_year wsX8_barred := goodIn_r _ [6, 7, 8, 1, 9, 10, 11, 12, 5, 13, 14, 15, 16, 17, 18, 47, 48, 49, 50, 51, 52, 53, 54, 55, 56, 57, 58, 59, 60, 61, 62, 63, 64, 65, 66, 67, 68, 69, 70, 71, 72, 73] (by decide +kernel) (by decide +kernel)
set_option maxRecDepth 20000 in
theorem gX8_year_X8_barred : GoodIn wsX8_year (wsV RX8 173 RX8 yX8_barred wsX8_barred) := goodIn_app (goodIn_of _ (by decide +kernel)) ggX8_year_X8_barred
set_option maxRecDepth 20000 in
theorem ggX8_year_X8_notes : GoodIn wsX8_year wsX8_notes := goodIn_r _ [22, 23, 24, 1, 47, 48, 49, 50, 51, 52, 53, 54, 55, 56, 57, 58, 59, 60, 61, 62, 63, 64, 65, 66, 67, 68, 69, 70, 71, 72, 73] (by decide +kernel) (by decide +kernel)
set_option maxRecDepth 20000 in
theorem gX8_year_X8_notes : GoodIn wsX8_year (wsV RX8 176 RX8 yX8_notes wsX8_notes) := goodIn_app (goodIn_of _ (by decide +kernel)) ggX8_year_X8_notes
set_option maxRecDepth 20000 in
theorem ggX8_year_X8_passes : GoodIn wsX8_year wsX8_passes := goodIn_r _ [28, 18, 1, 29, 30, 31, 5, 32, 33, 34, 35, 36, 37, 38, 39, 40, 41, 42, 43, 44, 45, 46, 47, 48, 49, 50, 51, 52, 53, 54, 55, 56, 57, 58, 59, 60, 61, 62, 63, 64, 65, 66, 67, 68, 69, 70, 71, 72, 73] (by decide +kernel) (by decide +kernel)
set_option maxRecDepth 20000 in
theorem gX8_year_X8_passes : GoodIn wsX8_year (wsV RX8 179 RX8 yX8_passes wsX8_passes) := goodIn_app (goodIn_of _ (by decide +kernel)) ggX8_year_X8_passes
theorem dX8_year_0 : decode cX8_year 0 = .ok (.aload_n 0, 1) := by decide +kernel
theorem dX8_year_1 : decode cX8_year 1 = .ok (.iload_n 1, 1) := by decide +kernel
theorem dX8_year_2 : decode cX8_year 2 = .ok (.sipush 300, 3) := by decide +kernel
theorem dX8_year_5 : decode cX8_year 5 = .ok (.invokevirtual 173, 3) := by decide +kernel
theorem dX8_year_8 : decode cX8_year 8 = .ok (.istore_n 2, 1) := by decide +kernel
theorem dX8_year_9 : decode cX8_year 9 = .ok (.iload_n 2, 1) := by decide +kernel
theorem dX8_year_10 : decode cX8_year 10 = .ok (.ifCond .eq 5, 3) := by decide +kernel
theorem dX8_year_13 : decode cX8_year 13 = .ok (.iload_n 2, 1) := by decide +kernel
theorem dX8_year_14 : decode cX8_year 14 = .ok (.ireturn, 1) := by decide +kernel
theorem dX8_year_15 : decode cX8_year 15 = .ok (.aload_n 0, 1) := by decide +kernel
theorem dX8_year_16 : decode cX8_year 16 = .ok (.invokevirtual 176, 3) := by decide +kernel
theorem dX8_year_19 : decode cX8_year 19 = .ok (.iconst 0, 1) := by decide +kernel
theorem dX8_year_20 : decode cX8_year 20 = .ok (.istore_n 3, 1) := by decide +kernel
theorem dX8_year_21 : decode cX8_year 21 = .ok (.iload_n 3, 1) := by decide +kernel
theorem dX8_year_22 : decode cX8_year 22 = .ok (.iload_n 1, 1) := by decide +kernel
theorem dX8_year_23 : decode cX8_year 23 = .ok (.if_icmp .ge 13, 3) := by decide +kernel
theorem dX8_year_26 : decode cX8_year 26 = .ok (.aload_n 0, 1) := by decide +kernel
theorem dX8_year_27 : decode cX8_year 27 = .ok (.invokevirtual 179, 3) := by decide +kernel
theorem dX8_year_30 : decode cX8_year 30 = .ok (.iinc 3 1, 3) := by decide +kernel
theorem dX8_year_33 : decode cX8_year 33 = .ok (.goto (-12), 3) := by decide +kernel
theorem dX8_year_36 : decode cX8_year 36 = .ok (.aload_n 0, 1) := by decide +kernel
theorem dX8_year_37 : decode cX8_year 37 = .ok (.getfield 41, 3) := by decide +kernel
theorem dX8_year_40 : decode cX8_year 40 = .ok (.iconst 0, 1) := by decide +kernel
theorem dX8_year_41 : decode cX8_year 41 = .ok (.iaload, 1) := by decide +kernel
theorem dX8_year_42 : decode cX8_year 42 = .ok (.ireturn, 1) := by decide +kernel
theorem dX8_descends_0 : decode cX8_descends 0 = .ok (.aload_n 0, 1) := by decide +kernel
theorem dX8_descends_1 : decode cX8_descends 1 = .ok (.getfield 41, 3) := by decide +kernel
theorem dX8_descends_4 : decode cX8_descends 4 = .ok (.bipush 8, 2) := by decide +kernel
theorem dX8_descends_6 : decode cX8_descends 6 = .ok (.iload_n 1, 1) := by decide +kernel
theorem dX8_descends_7 : decode cX8_descends 7 = .ok (.iadd, 1) := by decide +kernel
theorem dX8_descends_8 : decode cX8_descends 8 = .ok (.bipush 10, 2) := by decide +kernel
theorem dX8_descends_10 : decode cX8_descends 10 = .ok (.iload_n 2, 1) := by decide +kernel
theorem dX8_descends_11 : decode cX8_descends 11 = .ok (.iadd, 1) := by decide +kernel
theorem dX8_descends_12 : decode cX8_descends 12 = .ok (.iastore, 1) := by decide +kernel
theorem dX8_descends_13 : decode cX8_descends 13 = .ok (.aload_n 0, 1) := by decide +kernel
theorem dX8_descends_14 : decode cX8_descends 14 = .ok (.getfield 41, 3) := by decide +kernel
theorem dX8_descends_17 : decode cX8_descends 17 = .ok (.bipush 22, 2) := by decide +kernel
theorem dX8_descends_19 : decode cX8_descends 19 = .ok (.iload_n 1, 1) := by decide +kernel
theorem dX8_descends_20 : decode cX8_descends 20 = .ok (.iadd, 1) := by decide +kernel
theorem dX8_descends_21 : decode cX8_descends 21 = .ok (.iconst 0, 1) := by decide +kernel
theorem dX8_descends_22 : decode cX8_descends 22 = .ok (.iastore, 1) := by decide +kernel
theorem dX8_descends_23 : decode cX8_descends 23 = .ok (.return_, 1) := by decide +kernel
set_option maxRecDepth 20000 in
theorem ggX8_down_X8_isPerson : GoodIn wsX8_down wsX8_isPerson := goodIn_r _ [8, 9, 10, 11, 7, 12, 31, 32, 33, 34, 35, 36, 37, 38, 39, 40, 41, 42, 43, 44, 45, 46, 47, 48, 49, 50, 51, 52, 53, 54, 55, 56, 57] (by decide +kernel) (by decide +kernel)
set_option maxRecDepth 20000 in
theorem gX8_down_X8_isPerson : GoodIn wsX8_down (wsV RX8 153 RX8 yX8_isPerson wsX8_isPerson) := goodIn_app (goodIn_of _ (by decide +kernel)) ggX8_down_X8_isPerson
set_option maxRecDepth 20000 in
theorem ggX8_down_X8_isDepth : GoodIn wsX8_down wsX8_isDepth := goodIn_r _ [16, 9, 10, 11, 7, 12, 31, 32, 33, 34, 35, 36, 37, 38, 39, 40, 41, 42, 43, 44, 45, 46, 47, 48, 49, 50, 51, 52, 53, 54, 55, 56, 57] (by decide +kernel) (by decide +kernel)
set_option maxRecDepth 20000 in
theorem gX8_down_X8_isDepth : GoodIn wsX8_down (wsV RX8 149 RX8 yX8_isDepth wsX8_isDepth) := goodIn_app (goodIn_of _ (by decide +kernel)) ggX8_down_X8_isDepth
set_option maxRecDepth 20000 in
theorem ggX8_down_X8_isAbove : GoodIn wsX8_down wsX8_isAbove := goodIn_r _ [20, 3, 31, 32, 33, 34, 35, 36, 37, 38, 39, 40, 41, 42, 43, 44, 45, 46, 47, 48, 49, 50, 51, 52, 53, 54, 55, 56, 57] (by decide +kernel) (by decide +kernel)
set_option maxRecDepth 20000 in
theorem gX8_down_X8_isAbove : GoodIn wsX8_down (wsV RX8 165 RX8 yX8_isAbove wsX8_isAbove) := goodIn_app (goodIn_of _ (by decide +kernel)) ggX8_down_X8_isAbove
set_option maxRecDepth 20000 in
theorem ggX8_down_X8_notes : GoodIn wsX8_down wsX8_notes := goodIn_r _ [24, 25, 26, 3, 31, 32, 33, 34, 35, 36, 37, 38, 39, 40, 41, 42, 43, 44, 45, 46, 47, 48, 49, 50, 51, 52, 53, 54, 55, 56, 57] (by decide +kernel) (by decide +kernel)
set_option maxRecDepth 20000 in
theorem gX8_down_X8_notes : GoodIn wsX8_down (wsV RX8 176 RX8 yX8_notes wsX8_notes) := goodIn_app (goodIn_of _ (by decide +kernel)) ggX8_down_X8_notes
set_option maxRecDepth 20000 in
theorem ggX8_down_X8_descends : GoodIn wsX8_down wsX8_descends := goodIn_r _ [30, 3, 31, 32, 33, 34, 35, 36, 37, 38, 39, 40, 41, 42, 43, 44, 45, 46, 47, 48, 49, 50, 51, 52, 53, 54, 55, 56, 57] (by decide +kernel) (by decide +kernel)
set_option maxRecDepth 20000 in
theorem gX8_down_X8_descends : GoodIn wsX8_down (wsV RX8 182 RX8 yX8_descends wsX8_descends) := goodIn_app (goodIn_of _ (by decide +kernel)) ggX8_down_X8_descends
theorem dX8_down_0 : decode cX8_down 0 = .ok (.aload_n 0, 1) := by decide +kernel
theorem dX8_down_1 : decode cX8_down 1 = .ok (.iload_n 1, 1) := by decide +kernel
theorem dX8_down_2 : decode cX8_down 2 = .ok (.invokevirtual 153, 3) := by decide +kernel
theorem dX8_down_5 : decode cX8_down 5 = .ok (.ifCond .eq 11, 3) := by decide +kernel
theorem dX8_down_8 : decode cX8_down 8 = .ok (.aload_n 0, 1) := by decide +kernel
theorem dX8_down_9 : decode cX8_down 9 = .ok (.iload_n 2, 1) := by decide +kernel
theorem dX8_down_10 : decode cX8_down 10 = .ok (.invokevirtual 149, 3) := by decide +kernel
theorem dX8_down_13 : decode cX8_down 13 = .ok (.ifCond .ne 6, 3) := by decide +kernel
theorem dX8_down_16 : decode cX8_down 16 = .ok (.ldc 152, 2) := by decide +kernel
theorem dX8_down_18 : decode cX8_down 18 = .ok (.ireturn, 1) := by decide +kernel
theorem dX8_down_19 : decode cX8_down 19 = .ok (.aload_n 0, 1) := by decide +kernel
theorem dX8_down_20 : decode cX8_down 20 = .ok (.iload_n 1, 1) := by decide +kernel
theorem dX8_down_21 : decode cX8_down 21 = .ok (.invokevirtual 165, 3) := by decide +kernel
theorem dX8_down_24 : decode cX8_down 24 = .ok (.ifCond .ne 6, 3) := by decide +kernel
theorem dX8_down_27 : decode cX8_down 27 = .ok (.ldc 171, 2) := by decide +kernel
theorem dX8_down_29 : decode cX8_down 29 = .ok (.ireturn, 1) := by decide +kernel
theorem dX8_down_30 : decode cX8_down 30 = .ok (.aload_n 0, 1) := by decide +kernel
theorem dX8_down_31 : decode cX8_down 31 = .ok (.invokevirtual 176, 3) := by decide +kernel
theorem dX8_down_34 : decode cX8_down 34 = .ok (.aload_n 0, 1) := by decide +kernel
theorem dX8_down_35 : decode cX8_down 35 = .ok (.iload_n 1, 1) := by decide +kernel
theorem dX8_down_36 : decode cX8_down 36 = .ok (.iload_n 2, 1) := by decide +kernel
theorem dX8_down_37 : decode cX8_down 37 = .ok (.invokevirtual 182, 3) := by decide +kernel
theorem dX8_down_40 : decode cX8_down 40 = .ok (.aload_n 0, 1) := by decide +kernel
theorem dX8_down_41 : decode cX8_down 41 = .ok (.getfield 41, 3) := by decide +kernel
theorem dX8_down_44 : decode cX8_down 44 = .ok (.iconst 1, 1) := by decide +kernel
theorem dX8_down_45 : decode cX8_down 45 = .ok (.iload_n 1, 1) := by decide +kernel
theorem dX8_down_46 : decode cX8_down 46 = .ok (.iadd, 1) := by decide +kernel
theorem dX8_down_47 : decode cX8_down 47 = .ok (.iaload, 1) := by decide +kernel
theorem dX8_down_48 : decode cX8_down 48 = .ok (.ireturn, 1) := by decide +kernel
theorem dX8_ascends_0 : decode cX8_ascends 0 = .ok (.aload_n 0, 1) := by decide +kernel
theorem dX8_ascends_1 : decode cX8_ascends 1 = .ok (.getfield 41, 3) := by decide +kernel
theorem dX8_ascends_4 : decode cX8_ascends 4 = .ok (.bipush 8, 2) := by decide +kernel
theorem dX8_ascends_6 : decode cX8_ascends 6 = .ok (.iload_n 1, 1) := by decide +kernel
theorem dX8_ascends_7 : decode cX8_ascends 7 = .ok (.iadd, 1) := by decide +kernel
theorem dX8_ascends_8 : decode cX8_ascends 8 = .ok (.iconst 0, 1) := by decide +kernel
theorem dX8_ascends_9 : decode cX8_ascends 9 = .ok (.iastore, 1) := by decide +kernel
theorem dX8_ascends_10 : decode cX8_ascends 10 = .ok (.aload_n 0, 1) := by decide +kernel
theorem dX8_ascends_11 : decode cX8_ascends 11 = .ok (.getfield 41, 3) := by decide +kernel
theorem dX8_ascends_14 : decode cX8_ascends 14 = .ok (.bipush 22, 2) := by decide +kernel
theorem dX8_ascends_16 : decode cX8_ascends 16 = .ok (.iload_n 1, 1) := by decide +kernel
theorem dX8_ascends_17 : decode cX8_ascends 17 = .ok (.iadd, 1) := by decide +kernel
theorem dX8_ascends_18 : decode cX8_ascends 18 = .ok (.iconst 0, 1) := by decide +kernel
theorem dX8_ascends_19 : decode cX8_ascends 19 = .ok (.iastore, 1) := by decide +kernel
theorem dX8_ascends_20 : decode cX8_ascends 20 = .ok (.return_, 1) := by decide +kernel
set_option maxRecDepth 20000 in
theorem ggX8_up_X8_isPerson : GoodIn wsX8_up wsX8_isPerson := goodIn_r _ [7, 8, 9, 10, 6, 11, 32, 33, 34, 35, 36, 37, 38, 39, 40, 41, 42, 43, 44, 45, 46, 47, 48, 49, 50, 51, 52, 53, 54, 55, 56, 57, 58] (by decide +kernel) (by decide +kernel)
set_option maxRecDepth 20000 in
theorem gX8_up_X8_isPerson : GoodIn wsX8_up (wsV RX8 153 RX8 yX8_isPerson wsX8_isPerson) := goodIn_app (goodIn_of _ (by decide +kernel)) ggX8_up_X8_isPerson
set_option maxRecDepth 20000 in
theorem ggX8_up_X8_isBelow : GoodIn wsX8_up wsX8_isBelow := goodIn_r _ [15, 16, 32, 33, 34, 35, 36, 37, 38, 39, 40, 41, 42, 43, 44, 45, 46, 47, 48, 49, 50, 51, 52, 53, 54, 55, 56, 57, 58] (by decide +kernel) (by decide +kernel)
set_option maxRecDepth 20000 in
theorem gX8_up_X8_isBelow : GoodIn wsX8_up (wsV RX8 137 RX8 yX8_isBelow wsX8_isBelow) := goodIn_app (goodIn_of _ (by decide +kernel)) ggX8_up_X8_isBelow
set_option maxRecDepth 20000 in
theorem ggX8_up_X8_notes : GoodIn wsX8_up wsX8_notes := goodIn_r _ [20, 21, 22, 16, 32, 33, 34, 35, 36, 37, 38, 39, 40, 41, 42, 43, 44, 45, 46, 47, 48, 49, 50, 51, 52, 53, 54, 55, 56, 57, 58] (by decide +kernel) (by decide +kernel)
set_option maxRecDepth 20000 in
theorem gX8_up_X8_notes : GoodIn wsX8_up (wsV RX8 176 RX8 yX8_notes wsX8_notes) := goodIn_app (goodIn_of _ (by decide +kernel)) ggX8_up_X8_notes
set_option maxRecDepth 20000 in
theorem ggX8_up_X8_daysOf : GoodIn wsX8_up wsX8_daysOf := goodIn_r _ [26, 16, 27, 12, 13, 14, 6, 15, 32, 33, 34, 35, 36, 37, 38, 39, 40, 41, 42, 43, 44, 45, 46, 47, 48, 49, 50, 51, 52, 53, 54, 55, 56, 57, 58] (by decide +kernel) (by decide +kernel)
set_option maxRecDepth 20000 in
theorem gX8_up_X8_daysOf : GoodIn wsX8_up (wsV RX8 159 RX8 yX8_daysOf wsX8_daysOf) := goodIn_app (goodIn_of _ (by decide +kernel)) ggX8_up_X8_daysOf
set_option maxRecDepth 20000 in
theorem ggX8_up_X8_ascends : GoodIn wsX8_up wsX8_ascends := goodIn_r _ [31, 16, 32, 33, 34, 35, 36, 37, 38, 39, 40, 41, 42, 43, 44, 45, 46, 47, 48, 49, 50, 51, 52, 53, 54, 55, 56, 57, 58] (by decide +kernel) (by decide +kernel)
set_option maxRecDepth 20000 in
theorem gX8_up_X8_ascends : GoodIn wsX8_up (wsV RX8 186 RX8 yX8_ascends wsX8_ascends) := goodIn_app (goodIn_of _ (by decide +kernel)) ggX8_up_X8_ascends
theorem dX8_up_0 : decode cX8_up 0 = .ok (.aload_n 0, 1) := by decide +kernel
theorem dX8_up_1 : decode cX8_up 1 = .ok (.iload_n 1, 1) := by decide +kernel
theorem dX8_up_2 : decode cX8_up 2 = .ok (.invokevirtual 153, 3) := by decide +kernel
theorem dX8_up_5 : decode cX8_up 5 = .ok (.ifCond .ne 6, 3) := by decide +kernel
theorem dX8_up_8 : decode cX8_up 8 = .ok (.ldc 152, 2) := by decide +kernel
theorem dX8_up_10 : decode cX8_up 10 = .ok (.ireturn, 1) := by decide +kernel
theorem dX8_up_11 : decode cX8_up 11 = .ok (.aload_n 0, 1) := by decide +kernel
theorem dX8_up_12 : decode cX8_up 12 = .ok (.iload_n 1, 1) := by decide +kernel
theorem dX8_up_13 : decode cX8_up 13 = .ok (.invokevirtual 137, 3) := by decide +kernel
theorem dX8_up_16 : decode cX8_up 16 = .ok (.ifCond .ne 6, 3) := by decide +kernel
theorem dX8_up_19 : decode cX8_up 19 = .ok (.ldc 171, 2) := by decide +kernel
theorem dX8_up_21 : decode cX8_up 21 = .ok (.ireturn, 1) := by decide +kernel
theorem dX8_up_22 : decode cX8_up 22 = .ok (.aload_n 0, 1) := by decide +kernel
theorem dX8_up_23 : decode cX8_up 23 = .ok (.invokevirtual 176, 3) := by decide +kernel
theorem dX8_up_26 : decode cX8_up 26 = .ok (.aload_n 0, 1) := by decide +kernel
theorem dX8_up_27 : decode cX8_up 27 = .ok (.iload_n 1, 1) := by decide +kernel
theorem dX8_up_28 : decode cX8_up 28 = .ok (.invokevirtual 159, 3) := by decide +kernel
theorem dX8_up_31 : decode cX8_up 31 = .ok (.istore_n 2, 1) := by decide +kernel
theorem dX8_up_32 : decode cX8_up 32 = .ok (.aload_n 0, 1) := by decide +kernel
theorem dX8_up_33 : decode cX8_up 33 = .ok (.iload_n 1, 1) := by decide +kernel
theorem dX8_up_34 : decode cX8_up 34 = .ok (.invokevirtual 186, 3) := by decide +kernel
theorem dX8_up_37 : decode cX8_up 37 = .ok (.iload_n 2, 1) := by decide +kernel
theorem dX8_up_38 : decode cX8_up 38 = .ok (.ireturn, 1) := by decide +kernel
set_option maxRecDepth 20000 in
theorem ggX8_open_X8_isPerson : GoodIn wsX8_open wsX8_isPerson := goodIn_r _ [8, 9, 10, 11, 7, 12, 28, 29, 30, 31, 32, 33, 34, 35, 36, 37, 38, 39, 40, 41, 42, 43, 44, 45, 46, 47, 48, 49, 50, 51, 52, 53, 54] (by decide +kernel) (by decide +kernel)
set_option maxRecDepth 20000 in
theorem gX8_open_X8_isPerson : GoodIn wsX8_open (wsV RX8 153 RX8 yX8_isPerson wsX8_isPerson) := goodIn_app (goodIn_of _ (by decide +kernel)) ggX8_open_X8_isPerson
set_option maxRecDepth 20000 in
theorem ggX8_open_X8_isAbove : GoodIn wsX8_open wsX8_isAbove := goodIn_r _ [16, 3, 28, 29, 30, 31, 32, 33, 34, 35, 36, 37, 38, 39, 40, 41, 42, 43, 44, 45, 46, 47, 48, 49, 50, 51, 52, 53, 54] (by decide +kernel) (by decide +kernel)
set_option maxRecDepth 20000 in
theorem gX8_open_X8_isAbove : GoodIn wsX8_open (wsV RX8 165 RX8 yX8_isAbove wsX8_isAbove) := goodIn_app (goodIn_of _ (by decide +kernel)) ggX8_open_X8_isAbove
set_option maxRecDepth 20000 in
theorem ggX8_open_X8_notes : GoodIn wsX8_open wsX8_notes := goodIn_r _ [20, 21, 22, 3, 28, 29, 30, 31, 32, 33, 34, 35, 36, 37, 38, 39, 40, 41, 42, 43, 44, 45, 46, 47, 48, 49, 50, 51, 52, 53, 54] (by decide +kernel) (by decide +kernel)
set_option maxRecDepth 20000 in
theorem gX8_open_X8_notes : GoodIn wsX8_open (wsV RX8 176 RX8 yX8_notes wsX8_notes) := goodIn_app (goodIn_of _ (by decide +kernel)) ggX8_open_X8_notes
set_option maxRecDepth 20000 in
theorem ggX8_open_X8_end : GoodIn wsX8_open wsX8_end := goodIn_r _ [26, 27, 28, 29, 30, 31, 32, 33, 34, 35, 36, 37, 38, 39, 40, 41, 42, 43, 44, 45, 46, 47, 48, 49, 50, 51, 52, 53, 54] (by decide +kernel) (by decide +kernel)
set_option maxRecDepth 20000 in
theorem gX8_open_X8_end : GoodIn wsX8_open (wsV RX8 156 RX8 yX8_end wsX8_end) := goodIn_app (goodIn_of _ (by decide +kernel)) ggX8_open_X8_end
theorem dX8_open_0 : decode cX8_open 0 = .ok (.aload_n 0, 1) := by decide +kernel
theorem dX8_open_1 : decode cX8_open 1 = .ok (.iload_n 1, 1) := by decide +kernel
theorem dX8_open_2 : decode cX8_open 2 = .ok (.invokevirtual 153, 3) := by decide +kernel
theorem dX8_open_5 : decode cX8_open 5 = .ok (.ifCond .ne 6, 3) := by decide +kernel
theorem dX8_open_8 : decode cX8_open 8 = .ok (.ldc 152, 2) := by decide +kernel
theorem dX8_open_10 : decode cX8_open 10 = .ok (.ireturn, 1) := by decide +kernel
theorem dX8_open_11 : decode cX8_open 11 = .ok (.aload_n 0, 1) := by decide +kernel
theorem dX8_open_12 : decode cX8_open 12 = .ok (.iload_n 1, 1) := by decide +kernel
theorem dX8_open_13 : decode cX8_open 13 = .ok (.invokevirtual 165, 3) := by decide +kernel
theorem dX8_open_16 : decode cX8_open 16 = .ok (.ifCond .ne 6, 3) := by decide +kernel
theorem dX8_open_19 : decode cX8_open 19 = .ok (.ldc 171, 2) := by decide +kernel
theorem dX8_open_21 : decode cX8_open 21 = .ok (.ireturn, 1) := by decide +kernel
theorem dX8_open_22 : decode cX8_open 22 = .ok (.aload_n 0, 1) := by decide +kernel
theorem dX8_open_23 : decode cX8_open 23 = .ok (.invokevirtual 176, 3) := by decide +kernel
theorem dX8_open_26 : decode cX8_open 26 = .ok (.aload_n 0, 1) := by decide +kernel
theorem dX8_open_27 : decode cX8_open 27 = .ok (.getfield 41, 3) := by decide +kernel
theorem dX8_open_30 : decode cX8_open 30 = .ok (.iconst 1, 1) := by decide +kernel
theorem dX8_open_31 : decode cX8_open 31 = .ok (.iload_n 1, 1) := by decide +kernel
theorem dX8_open_32 : decode cX8_open 32 = .ok (.iadd, 1) := by decide +kernel
theorem dX8_open_33 : decode cX8_open 33 = .ok (.dup2, 1) := by decide +kernel
theorem dX8_open_34 : decode cX8_open 34 = .ok (.iaload, 1) := by decide +kernel
theorem dX8_open_35 : decode cX8_open 35 = .ok (.aload_n 0, 1) := by decide +kernel
theorem dX8_open_36 : decode cX8_open 36 = .ok (.getfield 41, 3) := by decide +kernel
theorem dX8_open_39 : decode cX8_open 39 = .ok (.bipush 15, 2) := by decide +kernel
theorem dX8_open_41 : decode cX8_open 41 = .ok (.iload_n 1, 1) := by decide +kernel
theorem dX8_open_42 : decode cX8_open 42 = .ok (.iadd, 1) := by decide +kernel
theorem dX8_open_43 : decode cX8_open 43 = .ok (.iaload, 1) := by decide +kernel
theorem dX8_open_44 : decode cX8_open 44 = .ok (.iadd, 1) := by decide +kernel
theorem dX8_open_45 : decode cX8_open 45 = .ok (.iastore, 1) := by decide +kernel
theorem dX8_open_46 : decode cX8_open 46 = .ok (.aload_n 0, 1) := by decide +kernel
theorem dX8_open_47 : decode cX8_open 47 = .ok (.getfield 41, 3) := by decide +kernel
theorem dX8_open_50 : decode cX8_open 50 = .ok (.bipush 15, 2) := by decide +kernel
theorem dX8_open_52 : decode cX8_open 52 = .ok (.iload_n 1, 1) := by decide +kernel
theorem dX8_open_53 : decode cX8_open 53 = .ok (.iadd, 1) := by decide +kernel
theorem dX8_open_54 : decode cX8_open 54 = .ok (.iconst 0, 1) := by decide +kernel
theorem dX8_open_55 : decode cX8_open 55 = .ok (.iastore, 1) := by decide +kernel
theorem dX8_open_56 : decode cX8_open 56 = .ok (.aload_n 0, 1) := by decide +kernel
theorem dX8_open_57 : decode cX8_open 57 = .ok (.getfield 41, 3) := by decide +kernel
theorem dX8_open_60 : decode cX8_open 60 = .ok (.bipush 8, 2) := by decide +kernel
theorem dX8_open_62 : decode cX8_open 62 = .ok (.iload_n 1, 1) := by decide +kernel
theorem dX8_open_63 : decode cX8_open 63 = .ok (.iadd, 1) := by decide +kernel
theorem dX8_open_64 : decode cX8_open 64 = .ok (.aload_n 0, 1) := by decide +kernel
theorem dX8_open_65 : decode cX8_open 65 = .ok (.getfield 41, 3) := by decide +kernel
theorem dX8_open_68 : decode cX8_open 68 = .ok (.iconst 1, 1) := by decide +kernel
theorem dX8_open_69 : decode cX8_open 69 = .ok (.iload_n 1, 1) := by decide +kernel
theorem dX8_open_70 : decode cX8_open 70 = .ok (.iadd, 1) := by decide +kernel
theorem dX8_open_71 : decode cX8_open 71 = .ok (.iaload, 1) := by decide +kernel
theorem dX8_open_72 : decode cX8_open 72 = .ok (.aload_n 0, 1) := by decide +kernel
theorem dX8_open_73 : decode cX8_open 73 = .ok (.iload_n 1, 1) := by decide +kernel
theorem dX8_open_74 : decode cX8_open 74 = .ok (.invokevirtual 156, 3) := by decide +kernel
theorem dX8_open_77 : decode cX8_open 77 = .ok (.if_icmp .lt 7, 3) := by decide +kernel
theorem dX8_open_80 : decode cX8_open 80 = .ok (.iconst 1, 1) := by decide +kernel
theorem dX8_open_81 : decode cX8_open 81 = .ok (.goto 4, 3) := by decide +kernel
theorem dX8_open_84 : decode cX8_open 84 = .ok (.iconst 0, 1) := by decide +kernel
theorem dX8_open_85 : decode cX8_open 85 = .ok (.iastore, 1) := by decide +kernel
theorem dX8_open_86 : decode cX8_open 86 = .ok (.aload_n 0, 1) := by decide +kernel
theorem dX8_open_87 : decode cX8_open 87 = .ok (.getfield 41, 3) := by decide +kernel
theorem dX8_open_90 : decode cX8_open 90 = .ok (.iconst 1, 1) := by decide +kernel
theorem dX8_open_91 : decode cX8_open 91 = .ok (.iload_n 1, 1) := by decide +kernel
theorem dX8_open_92 : decode cX8_open 92 = .ok (.iadd, 1) := by decide +kernel
theorem dX8_open_93 : decode cX8_open 93 = .ok (.iaload, 1) := by decide +kernel
theorem dX8_open_94 : decode cX8_open 94 = .ok (.ireturn, 1) := by decide +kernel
set_option maxRecDepth 20000 in
theorem ggX8_take_X8_isGood : GoodIn wsX8_take wsX8_isGood := goodIn_r _ [8, 9, 10, 11, 7, 12, 19, 20, 21, 22, 23, 24, 25, 26, 27, 28, 29, 30, 31, 32, 33, 34, 35, 36, 37, 38, 39, 40, 41, 42, 43, 44, 45] (by decide +kernel) (by decide +kernel)
set_option maxRecDepth 20000 in
theorem gX8_take_X8_isGood : GoodIn wsX8_take (wsV RX8 162 RX8 yX8_isGood wsX8_isGood) := goodIn_app (goodIn_of _ (by decide +kernel)) ggX8_take_X8_isGood
set_option maxRecDepth 20000 in
theorem ggX8_take_X8_notes : GoodIn wsX8_take wsX8_notes := goodIn_r _ [16, 17, 18, 2, 19, 20, 21, 22, 23, 24, 25, 26, 27, 28, 29, 30, 31, 32, 33, 34, 35, 36, 37, 38, 39, 40, 41, 42, 43, 44, 45] (by decide +kernel) (by decide +kernel)
set_option maxRecDepth 20000 in
theorem gX8_take_X8_notes : GoodIn wsX8_take (wsV RX8 176 RX8 yX8_notes wsX8_notes) := goodIn_app (goodIn_of _ (by decide +kernel)) ggX8_take_X8_notes
theorem dX8_take_0 : decode cX8_take 0 = .ok (.aload_n 0, 1) := by decide +kernel
theorem dX8_take_1 : decode cX8_take 1 = .ok (.iload_n 1, 1) := by decide +kernel
theorem dX8_take_2 : decode cX8_take 2 = .ok (.invokevirtual 162, 3) := by decide +kernel
theorem dX8_take_5 : decode cX8_take 5 = .ok (.ifCond .ne 6, 3) := by decide +kernel
theorem dX8_take_8 : decode cX8_take 8 = .ok (.ldc 152, 2) := by decide +kernel
theorem dX8_take_10 : decode cX8_take 10 = .ok (.ireturn, 1) := by decide +kernel
theorem dX8_take_11 : decode cX8_take 11 = .ok (.aload_n 0, 1) := by decide +kernel
theorem dX8_take_12 : decode cX8_take 12 = .ok (.getfield 41, 3) := by decide +kernel
theorem dX8_take_15 : decode cX8_take 15 = .ok (.bipush 29, 2) := by decide +kernel
theorem dX8_take_17 : decode cX8_take 17 = .ok (.iload_n 1, 1) := by decide +kernel
theorem dX8_take_18 : decode cX8_take 18 = .ok (.iadd, 1) := by decide +kernel
theorem dX8_take_19 : decode cX8_take 19 = .ok (.iaload, 1) := by decide +kernel
theorem dX8_take_20 : decode cX8_take 20 = .ok (.ifCond .ne 6, 3) := by decide +kernel
theorem dX8_take_23 : decode cX8_take 23 = .ok (.ldc 171, 2) := by decide +kernel
theorem dX8_take_25 : decode cX8_take 25 = .ok (.ireturn, 1) := by decide +kernel
theorem dX8_take_26 : decode cX8_take 26 = .ok (.aload_n 0, 1) := by decide +kernel
theorem dX8_take_27 : decode cX8_take 27 = .ok (.invokevirtual 176, 3) := by decide +kernel
theorem dX8_take_30 : decode cX8_take 30 = .ok (.aload_n 0, 1) := by decide +kernel
theorem dX8_take_31 : decode cX8_take 31 = .ok (.getfield 41, 3) := by decide +kernel
theorem dX8_take_34 : decode cX8_take 34 = .ok (.bipush 29, 2) := by decide +kernel
theorem dX8_take_36 : decode cX8_take 36 = .ok (.iload_n 1, 1) := by decide +kernel
theorem dX8_take_37 : decode cX8_take 37 = .ok (.iadd, 1) := by decide +kernel
theorem dX8_take_38 : decode cX8_take 38 = .ok (.iaload, 1) := by decide +kernel
theorem dX8_take_39 : decode cX8_take 39 = .ok (.istore_n 2, 1) := by decide +kernel
theorem dX8_take_40 : decode cX8_take 40 = .ok (.aload_n 0, 1) := by decide +kernel
theorem dX8_take_41 : decode cX8_take 41 = .ok (.getfield 41, 3) := by decide +kernel
theorem dX8_take_44 : decode cX8_take 44 = .ok (.bipush 29, 2) := by decide +kernel
theorem dX8_take_46 : decode cX8_take 46 = .ok (.iload_n 1, 1) := by decide +kernel
theorem dX8_take_47 : decode cX8_take 47 = .ok (.iadd, 1) := by decide +kernel
theorem dX8_take_48 : decode cX8_take 48 = .ok (.iconst 0, 1) := by decide +kernel
theorem dX8_take_49 : decode cX8_take 49 = .ok (.iastore, 1) := by decide +kernel
theorem dX8_take_50 : decode cX8_take 50 = .ok (.iload_n 2, 1) := by decide +kernel
theorem dX8_take_51 : decode cX8_take 51 = .ok (.ireturn, 1) := by decide +kernel
theorem dX8_draw_0 : decode cX8_draw 0 = .ok (.aload_n 0, 1) := by decide +kernel
theorem dX8_draw_1 : decode cX8_draw 1 = .ok (.aload_n 0, 1) := by decide +kernel
theorem dX8_draw_2 : decode cX8_draw 2 = .ok (.getfield 189, 3) := by decide +kernel
theorem dX8_draw_5 : decode cX8_draw 5 = .ok (.i2l, 1) := by decide +kernel
theorem dX8_draw_6 : decode cX8_draw 6 = .ok (.ldc2_w 192, 3) := by decide +kernel
theorem dX8_draw_9 : decode cX8_draw 9 = .ok (.lmul, 1) := by decide +kernel
theorem dX8_draw_10 : decode cX8_draw 10 = .ok (.ldc2_w 194, 3) := by decide +kernel
theorem dX8_draw_13 : decode cX8_draw 13 = .ok (.ladd, 1) := by decide +kernel
theorem dX8_draw_14 : decode cX8_draw 14 = .ok (.ldc2_w 196, 3) := by decide +kernel
theorem dX8_draw_17 : decode cX8_draw 17 = .ok (.land, 1) := by decide +kernel
theorem dX8_draw_18 : decode cX8_draw 18 = .ok (.l2i, 1) := by decide +kernel
theorem dX8_draw_19 : decode cX8_draw 19 = .ok (.putfield 189, 3) := by decide +kernel
theorem dX8_draw_22 : decode cX8_draw 22 = .ok (.aload_n 0, 1) := by decide +kernel
theorem dX8_draw_23 : decode cX8_draw 23 = .ok (.getfield 189, 3) := by decide +kernel
theorem dX8_draw_26 : decode cX8_draw 26 = .ok (.ldc 198, 2) := by decide +kernel
theorem dX8_draw_28 : decode cX8_draw 28 = .ok (.idiv, 1) := by decide +kernel
theorem dX8_draw_29 : decode cX8_draw 29 = .ok (.iload_n 1, 1) := by decide +kernel
theorem dX8_draw_30 : decode cX8_draw 30 = .ok (.irem, 1) := by decide +kernel
theorem dX8_draw_31 : decode cX8_draw 31 = .ok (.ireturn, 1) := by decide +kernel
set_option maxRecDepth 20000 in
theorem ggX8_drift_X8_barred : GoodIn wsX8_drift wsX8_barred := goodIn_r _ [7, 8, 9, 2, 10, 11, 12, 13, 6, 14, 15, 16, 17, 18, 1, 64, 65, 66, 67, 68, 69, 70, 71, 72, 73, 74, 75, 76, 77, 78, 79, 80, 81, 82, 83, 84, 85, 86, 87, 88, 89, 90] (by decide +kernel) (by decide +kernel)
set_option maxRecDepth 20000 in
theorem gX8_drift_X8_barred : GoodIn wsX8_drift (wsV RX8 173 RX8 yX8_barred wsX8_barred) := goodIn_app (goodIn_of _ (by decide +kernel)) ggX8_drift_X8_barred
set_option maxRecDepth 20000 in
theorem ggX8_drift_X8_notes : GoodIn wsX8_drift wsX8_notes := goodIn_r _ [22, 23, 24, 2, 64, 65, 66, 67, 68, 69, 70, 71, 72, 73, 74, 75, 76, 77, 78, 79, 80, 81, 82, 83, 84, 85, 86, 87, 88, 89, 90] (by decide +kernel) (by decide +kernel)
set_option maxRecDepth 20000 in
theorem gX8_drift_X8_notes : GoodIn wsX8_drift (wsV RX8 176 RX8 yX8_notes wsX8_notes) := goodIn_app (goodIn_of _ (by decide +kernel)) ggX8_drift_X8_notes
set_option maxRecDepth 20000 in
theorem ggX8_drift_X8_draw : GoodIn wsX8_drift wsX8_draw := goodIn_r _ [28, 29, 30, 31, 32, 33, 64, 65, 66, 67, 68, 69, 70, 71, 72, 73, 74, 75, 76, 77, 78, 79, 80, 81, 82, 83, 84, 85, 86, 87, 88, 89, 90] (by decide +kernel) (by decide +kernel)
set_option maxRecDepth 20000 in
theorem gX8_drift_X8_draw : GoodIn wsX8_drift (wsV RX8 199 RX8 yX8_draw wsX8_draw) := goodIn_app (goodIn_of _ (by decide +kernel)) ggX8_drift_X8_draw
set_option maxRecDepth 20000 in
theorem ggX8_drift_X8_isAbove : GoodIn wsX8_drift wsX8_isAbove := goodIn_r _ [37, 2, 64, 65, 66, 67, 68, 69, 70, 71, 72, 73, 74, 75, 76, 77, 78, 79, 80, 81, 82, 83, 84, 85, 86, 87, 88, 89, 90] (by decide +kernel) (by decide +kernel)
set_option maxRecDepth 20000 in
theorem gX8_drift_X8_isAbove : GoodIn wsX8_drift (wsV RX8 165 RX8 yX8_isAbove wsX8_isAbove) := goodIn_app (goodIn_of _ (by decide +kernel)) ggX8_drift_X8_isAbove
set_option maxRecDepth 20000 in
theorem ggX8_drift_X8_descends : GoodIn wsX8_drift wsX8_descends := goodIn_r _ [41, 2, 64, 65, 66, 67, 68, 69, 70, 71, 72, 73, 74, 75, 76, 77, 78, 79, 80, 81, 82, 83, 84, 85, 86, 87, 88, 89, 90] (by decide +kernel) (by decide +kernel)
set_option maxRecDepth 20000 in
theorem gX8_drift_X8_descends : GoodIn wsX8_drift (wsV RX8 182 RX8 yX8_descends wsX8_descends) := goodIn_app (goodIn_of _ (by decide +kernel)) ggX8_drift_X8_descends
set_option maxRecDepth 20000 in
theorem ggX8_drift_X8_isBelow : GoodIn wsX8_drift wsX8_isBelow := goodIn_r _ [45, 2, 64, 65, 66, 67, 68, 69, 70, 71, 72, 73, 74, 75, 76, 77, 78, 79, 80, 81, 82, 83, 84, 85, 86, 87, 88, 89, 90] (by decide +kernel) (by decide +kernel)
set_option maxRecDepth 20000 in
theorem gX8_drift_X8_isBelow : GoodIn wsX8_drift (wsV RX8 137 RX8 yX8_isBelow wsX8_isBelow) := goodIn_app (goodIn_of _ (by decide +kernel)) ggX8_drift_X8_isBelow
set_option maxRecDepth 20000 in
theorem ggX8_drift_X8_ascends : GoodIn wsX8_drift wsX8_ascends := goodIn_r _ [49, 2, 64, 65, 66, 67, 68, 69, 70, 71, 72, 73, 74, 75, 76, 77, 78, 79, 80, 81, 82, 83, 84, 85, 86, 87, 88, 89, 90] (by decide +kernel) (by decide +kernel)
set_option maxRecDepth 20000 in
theorem gX8_drift_X8_ascends : GoodIn wsX8_drift (wsV RX8 186 RX8 yX8_ascends wsX8_ascends) := goodIn_app (goodIn_of _ (by decide +kernel)) ggX8_drift_X8_ascends
set_option maxRecDepth 20000 in
theorem ggX8_drift_X8_passes : GoodIn wsX8_drift wsX8_passes := goodIn_r _ [53, 1, 2, 34, 35, 36, 6, 37, 54, 55, 56, 57, 58, 42, 43, 44, 45, 59, 60, 61, 62, 63, 64, 65, 66, 67, 68, 69, 70, 71, 72, 73, 74, 75, 76, 77, 78, 79, 80, 81, 82, 83, 84, 85, 86, 87, 88, 89, 90] (by decide +kernel) (by decide +kernel)
set_option maxRecDepth 20000 in
theorem gX8_drift_X8_passes : GoodIn wsX8_drift (wsV RX8 179 RX8 yX8_passes wsX8_passes) := goodIn_app (goodIn_of _ (by decide +kernel)) ggX8_drift_X8_passes
theorem dX8_drift_0 : decode cX8_drift 0 = .ok (.aload_n 0, 1) := by decide +kernel
theorem dX8_drift_1 : decode cX8_drift 1 = .ok (.iload_n 1, 1) := by decide +kernel
theorem dX8_drift_2 : decode cX8_drift 2 = .ok (.bipush 60, 2) := by decide +kernel
theorem dX8_drift_4 : decode cX8_drift 4 = .ok (.invokevirtual 173, 3) := by decide +kernel
theorem dX8_drift_7 : decode cX8_drift 7 = .ok (.istore_n 2, 1) := by decide +kernel
theorem dX8_drift_8 : decode cX8_drift 8 = .ok (.iload_n 2, 1) := by decide +kernel
theorem dX8_drift_9 : decode cX8_drift 9 = .ok (.ifCond .eq 5, 3) := by decide +kernel
theorem dX8_drift_12 : decode cX8_drift 12 = .ok (.iload_n 2, 1) := by decide +kernel
theorem dX8_drift_13 : decode cX8_drift 13 = .ok (.ireturn, 1) := by decide +kernel
theorem dX8_drift_14 : decode cX8_drift 14 = .ok (.aload_n 0, 1) := by decide +kernel
theorem dX8_drift_15 : decode cX8_drift 15 = .ok (.invokevirtual 176, 3) := by decide +kernel
theorem dX8_drift_18 : decode cX8_drift 18 = .ok (.iconst 0, 1) := by decide +kernel
theorem dX8_drift_19 : decode cX8_drift 19 = .ok (.istore_n 3, 1) := by decide +kernel
theorem dX8_drift_20 : decode cX8_drift 20 = .ok (.iload_n 3, 1) := by decide +kernel
theorem dX8_drift_21 : decode cX8_drift 21 = .ok (.iload_n 1, 1) := by decide +kernel
theorem dX8_drift_22 : decode cX8_drift 22 = .ok (.if_icmp .ge 114, 3) := by decide +kernel
theorem dX8_drift_25 : decode cX8_drift 25 = .ok (.aload_n 0, 1) := by decide +kernel
theorem dX8_drift_26 : decode cX8_drift 26 = .ok (.getfield 17, 3) := by decide +kernel
theorem dX8_drift_29 : decode cX8_drift 29 = .ok (.iconst 2, 1) := by decide +kernel
theorem dX8_drift_30 : decode cX8_drift 30 = .ok (.iaload, 1) := by decide +kernel
theorem dX8_drift_31 : decode cX8_drift 31 = .ok (.ifCond .le 95, 3) := by decide +kernel
theorem dX8_drift_34 : decode cX8_drift 34 = .ok (.aload_n 0, 1) := by decide +kernel
theorem dX8_drift_35 : decode cX8_drift 35 = .ok (.getfield 17, 3) := by decide +kernel
theorem dX8_drift_38 : decode cX8_drift 38 = .ok (.iconst 3, 1) := by decide +kernel
theorem dX8_drift_39 : decode cX8_drift 39 = .ok (.iaload, 1) := by decide +kernel
theorem dX8_drift_40 : decode cX8_drift 40 = .ok (.ifCond .le 86, 3) := by decide +kernel
theorem dX8_drift_43 : decode cX8_drift 43 = .ok (.aload_n 0, 1) := by decide +kernel
theorem dX8_drift_44 : decode cX8_drift 44 = .ok (.aload_n 0, 1) := by decide +kernel
theorem dX8_drift_45 : decode cX8_drift 45 = .ok (.getfield 17, 3) := by decide +kernel
theorem dX8_drift_48 : decode cX8_drift 48 = .ok (.iconst 3, 1) := by decide +kernel
theorem dX8_drift_49 : decode cX8_drift 49 = .ok (.iaload, 1) := by decide +kernel
theorem dX8_drift_50 : decode cX8_drift 50 = .ok (.invokevirtual 199, 3) := by decide +kernel
theorem dX8_drift_53 : decode cX8_drift 53 = .ok (.istore 4, 2) := by decide +kernel
theorem dX8_drift_55 : decode cX8_drift 55 = .ok (.aload_n 0, 1) := by decide +kernel
theorem dX8_drift_56 : decode cX8_drift 56 = .ok (.aload_n 0, 1) := by decide +kernel
theorem dX8_drift_57 : decode cX8_drift 57 = .ok (.getfield 17, 3) := by decide +kernel
theorem dX8_drift_60 : decode cX8_drift 60 = .ok (.iconst 2, 1) := by decide +kernel
theorem dX8_drift_61 : decode cX8_drift 61 = .ok (.iaload, 1) := by decide +kernel
theorem dX8_drift_62 : decode cX8_drift 62 = .ok (.iconst 2, 1) := by decide +kernel
theorem dX8_drift_63 : decode cX8_drift 63 = .ok (.iadd, 1) := by decide +kernel
theorem dX8_drift_64 : decode cX8_drift 64 = .ok (.invokevirtual 199, 3) := by decide +kernel
theorem dX8_drift_67 : decode cX8_drift 67 = .ok (.istore 5, 2) := by decide +kernel
theorem dX8_drift_69 : decode cX8_drift 69 = .ok (.iload 5, 2) := by decide +kernel
theorem dX8_drift_71 : decode cX8_drift 71 = .ok (.aload_n 0, 1) := by decide +kernel
theorem dX8_drift_72 : decode cX8_drift 72 = .ok (.getfield 17, 3) := by decide +kernel
theorem dX8_drift_75 : decode cX8_drift 75 = .ok (.iconst 2, 1) := by decide +kernel
theorem dX8_drift_76 : decode cX8_drift 76 = .ok (.iaload, 1) := by decide +kernel
theorem dX8_drift_77 : decode cX8_drift 77 = .ok (.if_icmp .ge 23, 3) := by decide +kernel
theorem dX8_drift_80 : decode cX8_drift 80 = .ok (.aload_n 0, 1) := by decide +kernel
theorem dX8_drift_81 : decode cX8_drift 81 = .ok (.iload 4, 2) := by decide +kernel
theorem dX8_drift_83 : decode cX8_drift 83 = .ok (.invokevirtual 165, 3) := by decide +kernel
theorem dX8_drift_86 : decode cX8_drift 86 = .ok (.ifCond .eq 14, 3) := by decide +kernel
theorem dX8_drift_89 : decode cX8_drift 89 = .ok (.aload_n 0, 1) := by decide +kernel
theorem dX8_drift_90 : decode cX8_drift 90 = .ok (.iload 4, 2) := by decide +kernel
theorem dX8_drift_92 : decode cX8_drift 92 = .ok (.iload 5, 2) := by decide +kernel
theorem dX8_drift_94 : decode cX8_drift 94 = .ok (.invokevirtual 182, 3) := by decide +kernel
theorem dX8_drift_97 : decode cX8_drift 97 = .ok (.goto 29, 3) := by decide +kernel
theorem dX8_drift_100 : decode cX8_drift 100 = .ok (.iload 5, 2) := by decide +kernel
theorem dX8_drift_102 : decode cX8_drift 102 = .ok (.aload_n 0, 1) := by decide +kernel
theorem dX8_drift_103 : decode cX8_drift 103 = .ok (.getfield 17, 3) := by decide +kernel
theorem dX8_drift_106 : decode cX8_drift 106 = .ok (.iconst 2, 1) := by decide +kernel
theorem dX8_drift_107 : decode cX8_drift 107 = .ok (.iaload, 1) := by decide +kernel
theorem dX8_drift_108 : decode cX8_drift 108 = .ok (.if_icmp .lt 18, 3) := by decide +kernel
theorem dX8_drift_111 : decode cX8_drift 111 = .ok (.aload_n 0, 1) := by decide +kernel
theorem dX8_drift_112 : decode cX8_drift 112 = .ok (.iload 4, 2) := by decide +kernel
theorem dX8_drift_114 : decode cX8_drift 114 = .ok (.invokevirtual 137, 3) := by decide +kernel
theorem dX8_drift_117 : decode cX8_drift 117 = .ok (.ifCond .eq 9, 3) := by decide +kernel
theorem dX8_drift_120 : decode cX8_drift 120 = .ok (.aload_n 0, 1) := by decide +kernel
theorem dX8_drift_121 : decode cX8_drift 121 = .ok (.iload 4, 2) := by decide +kernel
theorem dX8_drift_123 : decode cX8_drift 123 = .ok (.invokevirtual 186, 3) := by decide +kernel
theorem dX8_drift_126 : decode cX8_drift 126 = .ok (.aload_n 0, 1) := by decide +kernel
theorem dX8_drift_127 : decode cX8_drift 127 = .ok (.invokevirtual 179, 3) := by decide +kernel
theorem dX8_drift_130 : decode cX8_drift 130 = .ok (.iinc 3 1, 3) := by decide +kernel
theorem dX8_drift_133 : decode cX8_drift 133 = .ok (.goto (-113), 3) := by decide +kernel
theorem dX8_drift_136 : decode cX8_drift 136 = .ok (.aload_n 0, 1) := by decide +kernel
theorem dX8_drift_137 : decode cX8_drift 137 = .ok (.getfield 41, 3) := by decide +kernel
theorem dX8_drift_140 : decode cX8_drift 140 = .ok (.iconst 0, 1) := by decide +kernel
theorem dX8_drift_141 : decode cX8_drift 141 = .ok (.iaload, 1) := by decide +kernel
theorem dX8_drift_142 : decode cX8_drift 142 = .ok (.ireturn, 1) := by decide +kernel
theorem dX8_undo_0 : decode cX8_undo 0 = .ok (.aload_n 0, 1) := by decide +kernel
theorem dX8_undo_1 : decode cX8_undo 1 = .ok (.getfield 128, 3) := by decide +kernel
theorem dX8_undo_4 : decode cX8_undo 4 = .ok (.ifCond .ne 6, 3) := by decide +kernel
theorem dX8_undo_7 : decode cX8_undo 7 = .ok (.ldc 171, 2) := by decide +kernel
theorem dX8_undo_9 : decode cX8_undo 9 = .ok (.ireturn, 1) := by decide +kernel
theorem dX8_undo_10 : decode cX8_undo 10 = .ok (.aload_n 0, 1) := by decide +kernel
theorem dX8_undo_11 : decode cX8_undo 11 = .ok (.dup, 1) := by decide +kernel
theorem dX8_undo_12 : decode cX8_undo 12 = .ok (.getfield 128, 3) := by decide +kernel
theorem dX8_undo_15 : decode cX8_undo 15 = .ok (.iconst 1, 1) := by decide +kernel
theorem dX8_undo_16 : decode cX8_undo 16 = .ok (.isub, 1) := by decide +kernel
theorem dX8_undo_17 : decode cX8_undo 17 = .ok (.putfield 128, 3) := by decide +kernel
theorem dX8_undo_20 : decode cX8_undo 20 = .ok (.iconst 0, 1) := by decide +kernel
theorem dX8_undo_21 : decode cX8_undo 21 = .ok (.istore_n 1, 1) := by decide +kernel
theorem dX8_undo_22 : decode cX8_undo 22 = .ok (.iload_n 1, 1) := by decide +kernel
theorem dX8_undo_23 : decode cX8_undo 23 = .ok (.bipush 35, 2) := by decide +kernel
theorem dX8_undo_25 : decode cX8_undo 25 = .ok (.if_icmp .ge 29, 3) := by decide +kernel
theorem dX8_undo_28 : decode cX8_undo 28 = .ok (.aload_n 0, 1) := by decide +kernel
theorem dX8_undo_29 : decode cX8_undo 29 = .ok (.getfield 41, 3) := by decide +kernel
theorem dX8_undo_32 : decode cX8_undo 32 = .ok (.iload_n 1, 1) := by decide +kernel
theorem dX8_undo_33 : decode cX8_undo 33 = .ok (.aload_n 0, 1) := by decide +kernel
theorem dX8_undo_34 : decode cX8_undo 34 = .ok (.getfield 44, 3) := by decide +kernel
theorem dX8_undo_37 : decode cX8_undo 37 = .ok (.bipush 35, 2) := by decide +kernel
theorem dX8_undo_39 : decode cX8_undo 39 = .ok (.aload_n 0, 1) := by decide +kernel
theorem dX8_undo_40 : decode cX8_undo 40 = .ok (.getfield 128, 3) := by decide +kernel
theorem dX8_undo_43 : decode cX8_undo 43 = .ok (.imul, 1) := by decide +kernel
theorem dX8_undo_44 : decode cX8_undo 44 = .ok (.iload_n 1, 1) := by decide +kernel
theorem dX8_undo_45 : decode cX8_undo 45 = .ok (.iadd, 1) := by decide +kernel
theorem dX8_undo_46 : decode cX8_undo 46 = .ok (.iaload, 1) := by decide +kernel
theorem dX8_undo_47 : decode cX8_undo 47 = .ok (.iastore, 1) := by decide +kernel
theorem dX8_undo_48 : decode cX8_undo 48 = .ok (.iinc 1 1, 3) := by decide +kernel
theorem dX8_undo_51 : decode cX8_undo 51 = .ok (.goto (-29), 3) := by decide +kernel
theorem dX8_undo_54 : decode cX8_undo 54 = .ok (.aload_n 0, 1) := by decide +kernel
theorem dX8_undo_55 : decode cX8_undo 55 = .ok (.getfield 128, 3) := by decide +kernel
theorem dX8_undo_58 : decode cX8_undo 58 = .ok (.ireturn, 1) := by decide +kernel
theorem dX8_off_0 : decode cX8_off 0 = .ok (.iload_n 0, 1) := by decide +kernel
theorem dX8_off_1 : decode cX8_off 1 = .ok (.iload_n 1, 1) := by decide +kernel
theorem dX8_off_2 : decode cX8_off 2 = .ok (.if_icmp .le 9, 3) := by decide +kernel
theorem dX8_off_5 : decode cX8_off 5 = .ok (.iload_n 0, 1) := by decide +kernel
theorem dX8_off_6 : decode cX8_off 6 = .ok (.iload_n 1, 1) := by decide +kernel
theorem dX8_off_7 : decode cX8_off 7 = .ok (.isub, 1) := by decide +kernel
theorem dX8_off_8 : decode cX8_off 8 = .ok (.goto 6, 3) := by decide +kernel
theorem dX8_off_11 : decode cX8_off 11 = .ok (.iload_n 1, 1) := by decide +kernel
theorem dX8_off_12 : decode cX8_off 12 = .ok (.iload_n 0, 1) := by decide +kernel
theorem dX8_off_13 : decode cX8_off 13 = .ok (.isub, 1) := by decide +kernel
theorem dX8_off_14 : decode cX8_off 14 = .ok (.ireturn, 1) := by decide +kernel
set_option maxRecDepth 20000 in
theorem ggX8_meet_X8_isPerson : GoodIn wsX8_meet wsX8_isPerson := goodIn_r _ [10, 11, 12, 13, 9, 14, 31, 32, 33, 34, 35, 36, 37, 38, 39, 40, 41, 42, 43, 44, 45, 46, 47, 48, 49, 50, 51, 52, 53, 54, 55, 56, 57] (by decide +kernel) (by decide +kernel)
set_option maxRecDepth 20000 in
theorem gX8_meet_X8_isPerson : GoodIn wsX8_meet (wsV RX8 153 RX8 yX8_isPerson wsX8_isPerson) := goodIn_app (goodIn_of _ (by decide +kernel)) ggX8_meet_X8_isPerson
set_option maxRecDepth 20000 in
theorem ggX8_meet_X8_isDepth : GoodIn wsX8_meet wsX8_isDepth := goodIn_r _ [18, 11, 12, 13, 9, 14, 31, 32, 33, 34, 35, 36, 37, 38, 39, 40, 41, 42, 43, 44, 45, 46, 47, 48, 49, 50, 51, 52, 53, 54, 55, 56, 57] (by decide +kernel) (by decide +kernel)
set_option maxRecDepth 20000 in
theorem gX8_meet_X8_isDepth : GoodIn wsX8_meet (wsV RX8 149 RX8 yX8_isDepth wsX8_isDepth) := goodIn_app (goodIn_of _ (by decide +kernel)) ggX8_meet_X8_isDepth
set_option maxRecDepth 20000 in
theorem ggX8_meet_X8_in : GoodIn wsX8_meet wsX8_in := goodIn_r _ [14] (by decide +kernel) (by decide +kernel)
set_option maxRecDepth 20000 in
theorem gX8_meet_X8_in : GoodIn wsX8_meet (va_wsS RX8 72 yX8_in wsX8_in) := goodIn_app (goodIn_of _ (by decide +kernel)) ggX8_meet_X8_in
set_option maxRecDepth 20000 in
theorem ggX8_meet_X8_isAbove : GoodIn wsX8_meet wsX8_isAbove := goodIn_r _ [22, 4, 31, 32, 33, 34, 35, 36, 37, 38, 39, 40, 41, 42, 43, 44, 45, 46, 47, 48, 49, 50, 51, 52, 53, 54, 55, 56, 57] (by decide +kernel) (by decide +kernel)
set_option maxRecDepth 20000 in
theorem gX8_meet_X8_isAbove : GoodIn wsX8_meet (wsV RX8 165 RX8 yX8_isAbove wsX8_isAbove) := goodIn_app (goodIn_of _ (by decide +kernel)) ggX8_meet_X8_isAbove
set_option maxRecDepth 20000 in
theorem ggX8_meet_X8_off : GoodIn wsX8_meet wsX8_off := goodIn_r _ [25] (by decide +kernel) (by decide +kernel)
set_option maxRecDepth 20000 in
theorem gX8_meet_X8_off : GoodIn wsX8_meet (va_wsS RX8 202 yX8_off wsX8_off) := goodIn_app (goodIn_of _ (by decide +kernel)) ggX8_meet_X8_off
set_option maxRecDepth 20000 in
theorem ggX8_meet_X8_end : GoodIn wsX8_meet wsX8_end := goodIn_r _ [29, 30, 31, 32, 33, 34, 35, 36, 37, 38, 39, 40, 41, 42, 43, 44, 45, 46, 47, 48, 49, 50, 51, 52, 53, 54, 55, 56, 57] (by decide +kernel) (by decide +kernel)
set_option maxRecDepth 20000 in
theorem gX8_meet_X8_end : GoodIn wsX8_meet (wsV RX8 156 RX8 yX8_end wsX8_end) := goodIn_app (goodIn_of _ (by decide +kernel)) ggX8_meet_X8_end
theorem dX8_meet_0 : decode cX8_meet 0 = .ok (.aload_n 0, 1) := by decide +kernel
theorem dX8_meet_1 : decode cX8_meet 1 = .ok (.iload_n 1, 1) := by decide +kernel
theorem dX8_meet_2 : decode cX8_meet 2 = .ok (.invokevirtual 153, 3) := by decide +kernel
theorem dX8_meet_5 : decode cX8_meet 5 = .ok (.ifCond .eq 24, 3) := by decide +kernel
theorem dX8_meet_8 : decode cX8_meet 8 = .ok (.aload_n 0, 1) := by decide +kernel
theorem dX8_meet_9 : decode cX8_meet 9 = .ok (.iload_n 2, 1) := by decide +kernel
theorem dX8_meet_10 : decode cX8_meet 10 = .ok (.invokevirtual 153, 3) := by decide +kernel
theorem dX8_meet_13 : decode cX8_meet 13 = .ok (.ifCond .eq 16, 3) := by decide +kernel
theorem dX8_meet_16 : decode cX8_meet 16 = .ok (.iload_n 1, 1) := by decide +kernel
theorem dX8_meet_17 : decode cX8_meet 17 = .ok (.iload_n 2, 1) := by decide +kernel
theorem dX8_meet_18 : decode cX8_meet 18 = .ok (.if_icmp .eq 11, 3) := by decide +kernel
theorem dX8_meet_21 : decode cX8_meet 21 = .ok (.aload_n 0, 1) := by decide +kernel
theorem dX8_meet_22 : decode cX8_meet 22 = .ok (.iload_n 3, 1) := by decide +kernel
theorem dX8_meet_23 : decode cX8_meet 23 = .ok (.invokevirtual 149, 3) := by decide +kernel
theorem dX8_meet_26 : decode cX8_meet 26 = .ok (.ifCond .ne 6, 3) := by decide +kernel
theorem dX8_meet_29 : decode cX8_meet 29 = .ok (.ldc 152, 2) := by decide +kernel
theorem dX8_meet_31 : decode cX8_meet 31 = .ok (.ireturn, 1) := by decide +kernel
theorem dX8_meet_32 : decode cX8_meet 32 = .ok (.iload 4, 2) := by decide +kernel
theorem dX8_meet_34 : decode cX8_meet 34 = .ok (.sipush (-199), 3) := by decide +kernel
theorem dX8_meet_37 : decode cX8_meet 37 = .ok (.sipush 199, 3) := by decide +kernel
theorem dX8_meet_40 : decode cX8_meet 40 = .ok (.invokestatic 72, 3) := by decide +kernel
theorem dX8_meet_43 : decode cX8_meet 43 = .ok (.ifCond .eq 13, 3) := by decide +kernel
theorem dX8_meet_46 : decode cX8_meet 46 = .ok (.iload 5, 2) := by decide +kernel
theorem dX8_meet_48 : decode cX8_meet 48 = .ok (.iconst 0, 1) := by decide +kernel
theorem dX8_meet_49 : decode cX8_meet 49 = .ok (.iconst 1, 1) := by decide +kernel
theorem dX8_meet_50 : decode cX8_meet 50 = .ok (.invokestatic 72, 3) := by decide +kernel
theorem dX8_meet_53 : decode cX8_meet 53 = .ok (.ifCond .ne 6, 3) := by decide +kernel
theorem dX8_meet_56 : decode cX8_meet 56 = .ok (.ldc 76, 2) := by decide +kernel
theorem dX8_meet_58 : decode cX8_meet 58 = .ok (.ireturn, 1) := by decide +kernel
theorem dX8_meet_59 : decode cX8_meet 59 = .ok (.aload_n 0, 1) := by decide +kernel
theorem dX8_meet_60 : decode cX8_meet 60 = .ok (.iload_n 1, 1) := by decide +kernel
theorem dX8_meet_61 : decode cX8_meet 61 = .ok (.invokevirtual 165, 3) := by decide +kernel
theorem dX8_meet_64 : decode cX8_meet 64 = .ok (.ifCond .eq 11, 3) := by decide +kernel
theorem dX8_meet_67 : decode cX8_meet 67 = .ok (.aload_n 0, 1) := by decide +kernel
theorem dX8_meet_68 : decode cX8_meet 68 = .ok (.iload_n 2, 1) := by decide +kernel
theorem dX8_meet_69 : decode cX8_meet 69 = .ok (.invokevirtual 165, 3) := by decide +kernel
theorem dX8_meet_72 : decode cX8_meet 72 = .ok (.ifCond .ne 6, 3) := by decide +kernel
theorem dX8_meet_75 : decode cX8_meet 75 = .ok (.ldc 171, 2) := by decide +kernel
theorem dX8_meet_77 : decode cX8_meet 77 = .ok (.ireturn, 1) := by decide +kernel
theorem dX8_meet_78 : decode cX8_meet 78 = .ok (.iconst (-1), 1) := by decide +kernel
theorem dX8_meet_79 : decode cX8_meet 79 = .ok (.istore 6, 2) := by decide +kernel
theorem dX8_meet_81 : decode cX8_meet 81 = .ok (.iconst (-1), 1) := by decide +kernel
theorem dX8_meet_82 : decode cX8_meet 82 = .ok (.istore 7, 2) := by decide +kernel
theorem dX8_meet_84 : decode cX8_meet 84 = .ok (.iconst 0, 1) := by decide +kernel
theorem dX8_meet_85 : decode cX8_meet 85 = .ok (.istore 8, 2) := by decide +kernel
theorem dX8_meet_87 : decode cX8_meet 87 = .ok (.iload 8, 2) := by decide +kernel
theorem dX8_meet_89 : decode cX8_meet 89 = .ok (.bipush 100, 2) := by decide +kernel
theorem dX8_meet_91 : decode cX8_meet 91 = .ok (.if_icmp .ge 105, 3) := by decide +kernel
theorem dX8_meet_94 : decode cX8_meet 94 = .ok (.aload_n 0, 1) := by decide +kernel
theorem dX8_meet_95 : decode cX8_meet 95 = .ok (.getfield 41, 3) := by decide +kernel
theorem dX8_meet_98 : decode cX8_meet 98 = .ok (.iconst 1, 1) := by decide +kernel
theorem dX8_meet_99 : decode cX8_meet 99 = .ok (.iload_n 1, 1) := by decide +kernel
theorem dX8_meet_100 : decode cX8_meet 100 = .ok (.iadd, 1) := by decide +kernel
theorem dX8_meet_101 : decode cX8_meet 101 = .ok (.iaload, 1) := by decide +kernel
theorem dX8_meet_102 : decode cX8_meet 102 = .ok (.iload 8, 2) := by decide +kernel
theorem dX8_meet_104 : decode cX8_meet 104 = .ok (.aload_n 0, 1) := by decide +kernel
theorem dX8_meet_105 : decode cX8_meet 105 = .ok (.getfield 20, 3) := by decide +kernel
theorem dX8_meet_108 : decode cX8_meet 108 = .ok (.iload_n 3, 1) := by decide +kernel
theorem dX8_meet_109 : decode cX8_meet 109 = .ok (.iaload, 1) := by decide +kernel
theorem dX8_meet_110 : decode cX8_meet 110 = .ok (.imul, 1) := by decide +kernel
theorem dX8_meet_111 : decode cX8_meet 111 = .ok (.iadd, 1) := by decide +kernel
theorem dX8_meet_112 : decode cX8_meet 112 = .ok (.istore 9, 2) := by decide +kernel
theorem dX8_meet_114 : decode cX8_meet 114 = .ok (.iload 9, 2) := by decide +kernel
theorem dX8_meet_116 : decode cX8_meet 116 = .ok (.aload_n 0, 1) := by decide +kernel
theorem dX8_meet_117 : decode cX8_meet 117 = .ok (.getfield 41, 3) := by decide +kernel
theorem dX8_meet_120 : decode cX8_meet 120 = .ok (.iconst 1, 1) := by decide +kernel
theorem dX8_meet_121 : decode cX8_meet 121 = .ok (.iload_n 2, 1) := by decide +kernel
theorem dX8_meet_122 : decode cX8_meet 122 = .ok (.iadd, 1) := by decide +kernel
theorem dX8_meet_123 : decode cX8_meet 123 = .ok (.iaload, 1) := by decide +kernel
theorem dX8_meet_124 : decode cX8_meet 124 = .ok (.isub, 1) := by decide +kernel
theorem dX8_meet_125 : decode cX8_meet 125 = .ok (.iload 4, 2) := by decide +kernel
theorem dX8_meet_127 : decode cX8_meet 127 = .ok (.invokestatic 202, 3) := by decide +kernel
theorem dX8_meet_130 : decode cX8_meet 130 = .ok (.istore 10, 2) := by decide +kernel
theorem dX8_meet_132 : decode cX8_meet 132 = .ok (.iload 9, 2) := by decide +kernel
theorem dX8_meet_134 : decode cX8_meet 134 = .ok (.aload_n 0, 1) := by decide +kernel
theorem dX8_meet_135 : decode cX8_meet 135 = .ok (.iload_n 1, 1) := by decide +kernel
theorem dX8_meet_136 : decode cX8_meet 136 = .ok (.invokevirtual 156, 3) := by decide +kernel
theorem dX8_meet_139 : decode cX8_meet 139 = .ok (.if_icmp .ge 20, 3) := by decide +kernel
theorem dX8_meet_142 : decode cX8_meet 142 = .ok (.iload 6, 2) := by decide +kernel
theorem dX8_meet_144 : decode cX8_meet 144 = .ok (.iconst (-1), 1) := by decide +kernel
theorem dX8_meet_145 : decode cX8_meet 145 = .ok (.if_icmp .eq 10, 3) := by decide +kernel
theorem dX8_meet_148 : decode cX8_meet 148 = .ok (.iload 10, 2) := by decide +kernel
theorem dX8_meet_150 : decode cX8_meet 150 = .ok (.iload 7, 2) := by decide +kernel
theorem dX8_meet_152 : decode cX8_meet 152 = .ok (.if_icmp .ge 7, 3) := by decide +kernel
theorem dX8_meet_155 : decode cX8_meet 155 = .ok (.iconst 1, 1) := by decide +kernel
theorem dX8_meet_156 : decode cX8_meet 156 = .ok (.goto 4, 3) := by decide +kernel
theorem dX8_meet_159 : decode cX8_meet 159 = .ok (.iconst 0, 1) := by decide +kernel
theorem dX8_meet_160 : decode cX8_meet 160 = .ok (.istore 11, 2) := by decide +kernel
theorem dX8_meet_162 : decode cX8_meet 162 = .ok (.iload 11, 2) := by decide +kernel
theorem dX8_meet_164 : decode cX8_meet 164 = .ok (.ifCond .eq 8, 3) := by decide +kernel
theorem dX8_meet_167 : decode cX8_meet 167 = .ok (.iload 8, 2) := by decide +kernel
theorem dX8_meet_169 : decode cX8_meet 169 = .ok (.goto 5, 3) := by decide +kernel
theorem dX8_meet_172 : decode cX8_meet 172 = .ok (.iload 6, 2) := by decide +kernel
theorem dX8_meet_174 : decode cX8_meet 174 = .ok (.istore 6, 2) := by decide +kernel
theorem dX8_meet_176 : decode cX8_meet 176 = .ok (.iload 11, 2) := by decide +kernel
theorem dX8_meet_178 : decode cX8_meet 178 = .ok (.ifCond .eq 8, 3) := by decide +kernel
theorem dX8_meet_181 : decode cX8_meet 181 = .ok (.iload 10, 2) := by decide +kernel
theorem dX8_meet_183 : decode cX8_meet 183 = .ok (.goto 5, 3) := by decide +kernel
theorem dX8_meet_186 : decode cX8_meet 186 = .ok (.iload 7, 2) := by decide +kernel
theorem dX8_meet_188 : decode cX8_meet 188 = .ok (.istore 7, 2) := by decide +kernel
theorem dX8_meet_190 : decode cX8_meet 190 = .ok (.iinc 8 1, 3) := by decide +kernel
theorem dX8_meet_193 : decode cX8_meet 193 = .ok (.goto (-106), 3) := by decide +kernel
theorem dX8_meet_196 : decode cX8_meet 196 = .ok (.iload 5, 2) := by decide +kernel
theorem dX8_meet_198 : decode cX8_meet 198 = .ok (.ifCond .ne 8, 3) := by decide +kernel
theorem dX8_meet_201 : decode cX8_meet 201 = .ok (.iload 6, 2) := by decide +kernel
theorem dX8_meet_203 : decode cX8_meet 203 = .ok (.goto 5, 3) := by decide +kernel
theorem dX8_meet_206 : decode cX8_meet 206 = .ok (.iload 7, 2) := by decide +kernel
theorem dX8_meet_208 : decode cX8_meet 208 = .ok (.ireturn, 1) := by decide +kernel
theorem dX8_spanOf_0 : decode cX8_spanOf 0 = .ok (.iload_n 1, 1) := by decide +kernel
theorem dX8_spanOf_1 : decode cX8_spanOf 1 = .ok (.ifCond .ne 7, 3) := by decide +kernel
theorem dX8_spanOf_4 : decode cX8_spanOf 4 = .ok (.iconst 0, 1) := by decide +kernel
theorem dX8_spanOf_5 : decode cX8_spanOf 5 = .ok (.goto 19, 3) := by decide +kernel
theorem dX8_spanOf_8 : decode cX8_spanOf 8 = .ok (.aload_n 0, 1) := by decide +kernel
theorem dX8_spanOf_9 : decode cX8_spanOf 9 = .ok (.getfield 20, 3) := by decide +kernel
theorem dX8_spanOf_12 : decode cX8_spanOf 12 = .ok (.iload_n 1, 1) := by decide +kernel
theorem dX8_spanOf_13 : decode cX8_spanOf 13 = .ok (.bipush 10, 2) := by decide +kernel
theorem dX8_spanOf_15 : decode cX8_spanOf 15 = .ok (.idiv, 1) := by decide +kernel
theorem dX8_spanOf_16 : decode cX8_spanOf 16 = .ok (.iconst 1, 1) := by decide +kernel
theorem dX8_spanOf_17 : decode cX8_spanOf 17 = .ok (.isub, 1) := by decide +kernel
theorem dX8_spanOf_18 : decode cX8_spanOf 18 = .ok (.iaload, 1) := by decide +kernel
theorem dX8_spanOf_19 : decode cX8_spanOf 19 = .ok (.iload_n 1, 1) := by decide +kernel
theorem dX8_spanOf_20 : decode cX8_spanOf 20 = .ok (.bipush 10, 2) := by decide +kernel
theorem dX8_spanOf_22 : decode cX8_spanOf 22 = .ok (.irem, 1) := by decide +kernel
theorem dX8_spanOf_23 : decode cX8_spanOf 23 = .ok (.imul, 1) := by decide +kernel
theorem dX8_spanOf_24 : decode cX8_spanOf 24 = .ok (.ireturn, 1) := by decide +kernel
set_option maxRecDepth 20000 in
theorem ggX8_isStay_X8_in : GoodIn wsX8_isStay wsX8_in := goodIn_r _ [5] (by decide +kernel) (by decide +kernel)
set_option maxRecDepth 20000 in
theorem gX8_isStay_X8_in : GoodIn wsX8_isStay (va_wsS RX8 72 yX8_in wsX8_in) := goodIn_app (goodIn_of _ (by decide +kernel)) ggX8_isStay_X8_in
theorem dX8_isStay_0 : decode cX8_isStay 0 = .ok (.iload_n 1, 1) := by decide +kernel
theorem dX8_isStay_1 : decode cX8_isStay 1 = .ok (.ifCond .eq 27, 3) := by decide +kernel
theorem dX8_isStay_4 : decode cX8_isStay 4 = .ok (.iload_n 1, 1) := by decide +kernel
theorem dX8_isStay_5 : decode cX8_isStay 5 = .ok (.bipush 10, 2) := by decide +kernel
theorem dX8_isStay_7 : decode cX8_isStay 7 = .ok (.irem, 1) := by decide +kernel
theorem dX8_isStay_8 : decode cX8_isStay 8 = .ok (.ifCond .le 24, 3) := by decide +kernel
theorem dX8_isStay_11 : decode cX8_isStay 11 = .ok (.iload_n 1, 1) := by decide +kernel
theorem dX8_isStay_12 : decode cX8_isStay 12 = .ok (.bipush 10, 2) := by decide +kernel
theorem dX8_isStay_14 : decode cX8_isStay 14 = .ok (.idiv, 1) := by decide +kernel
theorem dX8_isStay_15 : decode cX8_isStay 15 = .ok (.iconst 1, 1) := by decide +kernel
theorem dX8_isStay_16 : decode cX8_isStay 16 = .ok (.aload_n 0, 1) := by decide +kernel
theorem dX8_isStay_17 : decode cX8_isStay 17 = .ok (.getfield 17, 3) := by decide +kernel
theorem dX8_isStay_20 : decode cX8_isStay 20 = .ok (.iconst 2, 1) := by decide +kernel
theorem dX8_isStay_21 : decode cX8_isStay 21 = .ok (.iaload, 1) := by decide +kernel
theorem dX8_isStay_22 : decode cX8_isStay 22 = .ok (.invokestatic 72, 3) := by decide +kernel
theorem dX8_isStay_25 : decode cX8_isStay 25 = .ok (.ifCond .eq 7, 3) := by decide +kernel
theorem dX8_isStay_28 : decode cX8_isStay 28 = .ok (.iconst 1, 1) := by decide +kernel
theorem dX8_isStay_29 : decode cX8_isStay 29 = .ok (.goto 4, 3) := by decide +kernel
theorem dX8_isStay_32 : decode cX8_isStay 32 = .ok (.iconst 0, 1) := by decide +kernel
theorem dX8_isStay_33 : decode cX8_isStay 33 = .ok (.ireturn, 1) := by decide +kernel
set_option maxRecDepth 20000 in
theorem ggX8_both_X8_isPerson : GoodIn wsX8_both wsX8_isPerson := goodIn_r _ [9, 10, 11, 12, 8, 13, 32, 33, 34, 35, 36, 37, 38, 39, 40, 41, 42, 43, 44, 45, 46, 47, 48, 49, 50, 51, 52, 53, 54, 55, 56, 57, 58] (by decide +kernel) (by decide +kernel)
set_option maxRecDepth 20000 in
theorem gX8_both_X8_isPerson : GoodIn wsX8_both (wsV RX8 153 RX8 yX8_isPerson wsX8_isPerson) := goodIn_app (goodIn_of _ (by decide +kernel)) ggX8_both_X8_isPerson
set_option maxRecDepth 20000 in
theorem ggX8_both_X8_in : GoodIn wsX8_both wsX8_in := goodIn_r _ [13] (by decide +kernel) (by decide +kernel)
set_option maxRecDepth 20000 in
theorem gX8_both_X8_in : GoodIn wsX8_both (va_wsS RX8 72 yX8_in wsX8_in) := goodIn_app (goodIn_of _ (by decide +kernel)) ggX8_both_X8_in
set_option maxRecDepth 20000 in
theorem ggX8_both_X8_isAbove : GoodIn wsX8_both wsX8_isAbove := goodIn_r _ [17, 4, 32, 33, 34, 35, 36, 37, 38, 39, 40, 41, 42, 43, 44, 45, 46, 47, 48, 49, 50, 51, 52, 53, 54, 55, 56, 57, 58] (by decide +kernel) (by decide +kernel)
set_option maxRecDepth 20000 in
theorem gX8_both_X8_isAbove : GoodIn wsX8_both (wsV RX8 165 RX8 yX8_isAbove wsX8_isAbove) := goodIn_app (goodIn_of _ (by decide +kernel)) ggX8_both_X8_isAbove
set_option maxRecDepth 20000 in
theorem ggX8_both_X8_isStay : GoodIn wsX8_both wsX8_isStay := goodIn_r _ [21, 10, 11, 12, 8, 13, 32, 33, 34, 35, 36, 37, 38, 39, 40, 41, 42, 43, 44, 45, 46, 47, 48, 49, 50, 51, 52, 53, 54, 55, 56, 57, 58] (by decide +kernel) (by decide +kernel)
set_option maxRecDepth 20000 in
theorem gX8_both_X8_isStay : GoodIn wsX8_both (wsV RX8 205 RX8 yX8_isStay wsX8_isStay) := goodIn_app (goodIn_of _ (by decide +kernel)) ggX8_both_X8_isStay
set_option maxRecDepth 20000 in
theorem ggX8_both_X8_spanOf : GoodIn wsX8_both wsX8_spanOf := goodIn_r _ [25, 26, 32, 33, 34, 35, 36, 37, 38, 39, 40, 41, 42, 43, 44, 45, 46, 47, 48, 49, 50, 51, 52, 53, 54, 55, 56, 57, 58] (by decide +kernel) (by decide +kernel)
set_option maxRecDepth 20000 in
theorem gX8_both_X8_spanOf : GoodIn wsX8_both (wsV RX8 208 RX8 yX8_spanOf wsX8_spanOf) := goodIn_app (goodIn_of _ (by decide +kernel)) ggX8_both_X8_spanOf
set_option maxRecDepth 20000 in
theorem ggX8_both_X8_end : GoodIn wsX8_both wsX8_end := goodIn_r _ [30, 31, 32, 33, 34, 35, 36, 37, 38, 39, 40, 41, 42, 43, 44, 45, 46, 47, 48, 49, 50, 51, 52, 53, 54, 55, 56, 57, 58] (by decide +kernel) (by decide +kernel)
set_option maxRecDepth 20000 in
theorem gX8_both_X8_end : GoodIn wsX8_both (wsV RX8 156 RX8 yX8_end wsX8_end) := goodIn_app (goodIn_of _ (by decide +kernel)) ggX8_both_X8_end
theorem dX8_both_0 : decode cX8_both 0 = .ok (.aload_n 0, 1) := by decide +kernel
theorem dX8_both_1 : decode cX8_both 1 = .ok (.iload_n 1, 1) := by decide +kernel
theorem dX8_both_2 : decode cX8_both 2 = .ok (.invokevirtual 153, 3) := by decide +kernel
theorem dX8_both_5 : decode cX8_both 5 = .ok (.ifCond .eq 16, 3) := by decide +kernel
theorem dX8_both_8 : decode cX8_both 8 = .ok (.aload_n 0, 1) := by decide +kernel
theorem dX8_both_9 : decode cX8_both 9 = .ok (.iload_n 2, 1) := by decide +kernel
theorem dX8_both_10 : decode cX8_both 10 = .ok (.invokevirtual 153, 3) := by decide +kernel
theorem dX8_both_13 : decode cX8_both 13 = .ok (.ifCond .eq 8, 3) := by decide +kernel
theorem dX8_both_16 : decode cX8_both 16 = .ok (.iload_n 1, 1) := by decide +kernel
theorem dX8_both_17 : decode cX8_both 17 = .ok (.iload_n 2, 1) := by decide +kernel
theorem dX8_both_18 : decode cX8_both 18 = .ok (.if_icmp .ne 6, 3) := by decide +kernel
theorem dX8_both_21 : decode cX8_both 21 = .ok (.ldc 152, 2) := by decide +kernel
theorem dX8_both_23 : decode cX8_both 23 = .ok (.ireturn, 1) := by decide +kernel
theorem dX8_both_24 : decode cX8_both 24 = .ok (.iload_n 3, 1) := by decide +kernel
theorem dX8_both_25 : decode cX8_both 25 = .ok (.iconst 0, 1) := by decide +kernel
theorem dX8_both_26 : decode cX8_both 26 = .ok (.iconst 1, 1) := by decide +kernel
theorem dX8_both_27 : decode cX8_both 27 = .ok (.invokestatic 72, 3) := by decide +kernel
theorem dX8_both_30 : decode cX8_both 30 = .ok (.ifCond .ne 6, 3) := by decide +kernel
theorem dX8_both_33 : decode cX8_both 33 = .ok (.ldc 76, 2) := by decide +kernel
theorem dX8_both_35 : decode cX8_both 35 = .ok (.ireturn, 1) := by decide +kernel
theorem dX8_both_36 : decode cX8_both 36 = .ok (.aload_n 0, 1) := by decide +kernel
theorem dX8_both_37 : decode cX8_both 37 = .ok (.iload_n 1, 1) := by decide +kernel
theorem dX8_both_38 : decode cX8_both 38 = .ok (.invokevirtual 165, 3) := by decide +kernel
theorem dX8_both_41 : decode cX8_both 41 = .ok (.ifCond .eq 11, 3) := by decide +kernel
theorem dX8_both_44 : decode cX8_both 44 = .ok (.aload_n 0, 1) := by decide +kernel
theorem dX8_both_45 : decode cX8_both 45 = .ok (.iload_n 2, 1) := by decide +kernel
theorem dX8_both_46 : decode cX8_both 46 = .ok (.invokevirtual 165, 3) := by decide +kernel
theorem dX8_both_49 : decode cX8_both 49 = .ok (.ifCond .ne 6, 3) := by decide +kernel
theorem dX8_both_52 : decode cX8_both 52 = .ok (.ldc 171, 2) := by decide +kernel
theorem dX8_both_54 : decode cX8_both 54 = .ok (.ireturn, 1) := by decide +kernel
theorem dX8_both_55 : decode cX8_both 55 = .ok (.iconst (-1), 1) := by decide +kernel
theorem dX8_both_56 : decode cX8_both 56 = .ok (.istore 4, 2) := by decide +kernel
theorem dX8_both_58 : decode cX8_both 58 = .ok (.iconst (-1), 1) := by decide +kernel
theorem dX8_both_59 : decode cX8_both 59 = .ok (.istore 5, 2) := by decide +kernel
theorem dX8_both_61 : decode cX8_both 61 = .ok (.iconst 0, 1) := by decide +kernel
theorem dX8_both_62 : decode cX8_both 62 = .ok (.istore 6, 2) := by decide +kernel
theorem dX8_both_64 : decode cX8_both 64 = .ok (.iload 6, 2) := by decide +kernel
theorem dX8_both_66 : decode cX8_both 66 = .ok (.sipush 2500, 3) := by decide +kernel
theorem dX8_both_69 : decode cX8_both 69 = .ok (.if_icmp .ge 186, 3) := by decide +kernel
theorem dX8_both_72 : decode cX8_both 72 = .ok (.iload 6, 2) := by decide +kernel
theorem dX8_both_74 : decode cX8_both 74 = .ok (.bipush 50, 2) := by decide +kernel
theorem dX8_both_76 : decode cX8_both 76 = .ok (.idiv, 1) := by decide +kernel
theorem dX8_both_77 : decode cX8_both 77 = .ok (.istore 7, 2) := by decide +kernel
theorem dX8_both_79 : decode cX8_both 79 = .ok (.iload 6, 2) := by decide +kernel
theorem dX8_both_81 : decode cX8_both 81 = .ok (.bipush 50, 2) := by decide +kernel
theorem dX8_both_83 : decode cX8_both 83 = .ok (.irem, 1) := by decide +kernel
theorem dX8_both_84 : decode cX8_both 84 = .ok (.istore 8, 2) := by decide +kernel
theorem dX8_both_86 : decode cX8_both 86 = .ok (.aload_n 0, 1) := by decide +kernel
theorem dX8_both_87 : decode cX8_both 87 = .ok (.iload 7, 2) := by decide +kernel
theorem dX8_both_89 : decode cX8_both 89 = .ok (.invokevirtual 205, 3) := by decide +kernel
theorem dX8_both_92 : decode cX8_both 92 = .ok (.ifCond .eq 157, 3) := by decide +kernel
theorem dX8_both_95 : decode cX8_both 95 = .ok (.aload_n 0, 1) := by decide +kernel
theorem dX8_both_96 : decode cX8_both 96 = .ok (.iload 8, 2) := by decide +kernel
theorem dX8_both_98 : decode cX8_both 98 = .ok (.invokevirtual 205, 3) := by decide +kernel
theorem dX8_both_101 : decode cX8_both 101 = .ok (.ifCond .eq 148, 3) := by decide +kernel
theorem dX8_both_104 : decode cX8_both 104 = .ok (.aload_n 0, 1) := by decide +kernel
theorem dX8_both_105 : decode cX8_both 105 = .ok (.iload 7, 2) := by decide +kernel
theorem dX8_both_107 : decode cX8_both 107 = .ok (.invokevirtual 208, 3) := by decide +kernel
theorem dX8_both_110 : decode cX8_both 110 = .ok (.istore 9, 2) := by decide +kernel
theorem dX8_both_112 : decode cX8_both 112 = .ok (.aload_n 0, 1) := by decide +kernel
theorem dX8_both_113 : decode cX8_both 113 = .ok (.iload 8, 2) := by decide +kernel
theorem dX8_both_115 : decode cX8_both 115 = .ok (.invokevirtual 208, 3) := by decide +kernel
theorem dX8_both_118 : decode cX8_both 118 = .ok (.istore 10, 2) := by decide +kernel
theorem dX8_both_120 : decode cX8_both 120 = .ok (.iload 9, 2) := by decide +kernel
theorem dX8_both_122 : decode cX8_both 122 = .ok (.iload 10, 2) := by decide +kernel
theorem dX8_both_124 : decode cX8_both 124 = .ok (.if_icmp .le 8, 3) := by decide +kernel
theorem dX8_both_127 : decode cX8_both 127 = .ok (.iload 9, 2) := by decide +kernel
theorem dX8_both_129 : decode cX8_both 129 = .ok (.goto 5, 3) := by decide +kernel
theorem dX8_both_132 : decode cX8_both 132 = .ok (.iload 10, 2) := by decide +kernel
theorem dX8_both_134 : decode cX8_both 134 = .ok (.istore 11, 2) := by decide +kernel
theorem dX8_both_136 : decode cX8_both 136 = .ok (.aload_n 0, 1) := by decide +kernel
theorem dX8_both_137 : decode cX8_both 137 = .ok (.getfield 41, 3) := by decide +kernel
theorem dX8_both_140 : decode cX8_both 140 = .ok (.iconst 1, 1) := by decide +kernel
theorem dX8_both_141 : decode cX8_both 141 = .ok (.iload_n 1, 1) := by decide +kernel
theorem dX8_both_142 : decode cX8_both 142 = .ok (.iadd, 1) := by decide +kernel
theorem dX8_both_143 : decode cX8_both 143 = .ok (.iaload, 1) := by decide +kernel
theorem dX8_both_144 : decode cX8_both 144 = .ok (.iload 11, 2) := by decide +kernel
theorem dX8_both_146 : decode cX8_both 146 = .ok (.iadd, 1) := by decide +kernel
theorem dX8_both_147 : decode cX8_both 147 = .ok (.iload 9, 2) := by decide +kernel
theorem dX8_both_149 : decode cX8_both 149 = .ok (.isub, 1) := by decide +kernel
theorem dX8_both_150 : decode cX8_both 150 = .ok (.istore 12, 2) := by decide +kernel
theorem dX8_both_152 : decode cX8_both 152 = .ok (.aload_n 0, 1) := by decide +kernel
theorem dX8_both_153 : decode cX8_both 153 = .ok (.getfield 41, 3) := by decide +kernel
theorem dX8_both_156 : decode cX8_both 156 = .ok (.iconst 1, 1) := by decide +kernel
theorem dX8_both_157 : decode cX8_both 157 = .ok (.iload_n 2, 1) := by decide +kernel
theorem dX8_both_158 : decode cX8_both 158 = .ok (.iadd, 1) := by decide +kernel
theorem dX8_both_159 : decode cX8_both 159 = .ok (.iaload, 1) := by decide +kernel
theorem dX8_both_160 : decode cX8_both 160 = .ok (.iload 11, 2) := by decide +kernel
theorem dX8_both_162 : decode cX8_both 162 = .ok (.iadd, 1) := by decide +kernel
theorem dX8_both_163 : decode cX8_both 163 = .ok (.iload 10, 2) := by decide +kernel
theorem dX8_both_165 : decode cX8_both 165 = .ok (.isub, 1) := by decide +kernel
theorem dX8_both_166 : decode cX8_both 166 = .ok (.istore 13, 2) := by decide +kernel
theorem dX8_both_168 : decode cX8_both 168 = .ok (.iload 12, 2) := by decide +kernel
theorem dX8_both_170 : decode cX8_both 170 = .ok (.iload 13, 2) := by decide +kernel
theorem dX8_both_172 : decode cX8_both 172 = .ok (.if_icmp .ne 40, 3) := by decide +kernel
theorem dX8_both_175 : decode cX8_both 175 = .ok (.iload 12, 2) := by decide +kernel
theorem dX8_both_177 : decode cX8_both 177 = .ok (.aload_n 0, 1) := by decide +kernel
theorem dX8_both_178 : decode cX8_both 178 = .ok (.iload_n 1, 1) := by decide +kernel
theorem dX8_both_179 : decode cX8_both 179 = .ok (.invokevirtual 156, 3) := by decide +kernel
theorem dX8_both_182 : decode cX8_both 182 = .ok (.if_icmp .ge 30, 3) := by decide +kernel
theorem dX8_both_185 : decode cX8_both 185 = .ok (.iload 13, 2) := by decide +kernel
theorem dX8_both_187 : decode cX8_both 187 = .ok (.aload_n 0, 1) := by decide +kernel
theorem dX8_both_188 : decode cX8_both 188 = .ok (.iload_n 2, 1) := by decide +kernel
theorem dX8_both_189 : decode cX8_both 189 = .ok (.invokevirtual 156, 3) := by decide +kernel
theorem dX8_both_192 : decode cX8_both 192 = .ok (.if_icmp .ge 20, 3) := by decide +kernel
theorem dX8_both_195 : decode cX8_both 195 = .ok (.iload 5, 2) := by decide +kernel
theorem dX8_both_197 : decode cX8_both 197 = .ok (.iconst (-1), 1) := by decide +kernel
theorem dX8_both_198 : decode cX8_both 198 = .ok (.if_icmp .eq 10, 3) := by decide +kernel
theorem dX8_both_201 : decode cX8_both 201 = .ok (.iload 11, 2) := by decide +kernel
theorem dX8_both_203 : decode cX8_both 203 = .ok (.iload 4, 2) := by decide +kernel
theorem dX8_both_205 : decode cX8_both 205 = .ok (.if_icmp .ge 7, 3) := by decide +kernel
theorem dX8_both_208 : decode cX8_both 208 = .ok (.iconst 1, 1) := by decide +kernel
theorem dX8_both_209 : decode cX8_both 209 = .ok (.goto 4, 3) := by decide +kernel
theorem dX8_both_212 : decode cX8_both 212 = .ok (.iconst 0, 1) := by decide +kernel
theorem dX8_both_213 : decode cX8_both 213 = .ok (.istore 14, 2) := by decide +kernel
theorem dX8_both_215 : decode cX8_both 215 = .ok (.iload 14, 2) := by decide +kernel
theorem dX8_both_217 : decode cX8_both 217 = .ok (.ifCond .eq 8, 3) := by decide +kernel
theorem dX8_both_220 : decode cX8_both 220 = .ok (.iload 11, 2) := by decide +kernel
theorem dX8_both_222 : decode cX8_both 222 = .ok (.goto 5, 3) := by decide +kernel
theorem dX8_both_225 : decode cX8_both 225 = .ok (.iload 4, 2) := by decide +kernel
theorem dX8_both_227 : decode cX8_both 227 = .ok (.istore 4, 2) := by decide +kernel
theorem dX8_both_229 : decode cX8_both 229 = .ok (.iload 14, 2) := by decide +kernel
theorem dX8_both_231 : decode cX8_both 231 = .ok (.ifCond .eq 14, 3) := by decide +kernel
theorem dX8_both_234 : decode cX8_both 234 = .ok (.bipush 100, 2) := by decide +kernel
theorem dX8_both_236 : decode cX8_both 236 = .ok (.iload 7, 2) := by decide +kernel
theorem dX8_both_238 : decode cX8_both 238 = .ok (.imul, 1) := by decide +kernel
theorem dX8_both_239 : decode cX8_both 239 = .ok (.iload 8, 2) := by decide +kernel
theorem dX8_both_241 : decode cX8_both 241 = .ok (.iadd, 1) := by decide +kernel
theorem dX8_both_242 : decode cX8_both 242 = .ok (.goto 5, 3) := by decide +kernel
theorem dX8_both_245 : decode cX8_both 245 = .ok (.iload 5, 2) := by decide +kernel
theorem dX8_both_247 : decode cX8_both 247 = .ok (.istore 5, 2) := by decide +kernel
theorem dX8_both_249 : decode cX8_both 249 = .ok (.iinc 6 1, 3) := by decide +kernel
theorem dX8_both_252 : decode cX8_both 252 = .ok (.goto (-188), 3) := by decide +kernel
theorem dX8_both_255 : decode cX8_both 255 = .ok (.iload_n 3, 1) := by decide +kernel
theorem dX8_both_256 : decode cX8_both 256 = .ok (.ifCond .ne 8, 3) := by decide +kernel
theorem dX8_both_259 : decode cX8_both 259 = .ok (.iload 4, 2) := by decide +kernel
theorem dX8_both_261 : decode cX8_both 261 = .ok (.goto 5, 3) := by decide +kernel
theorem dX8_both_264 : decode cX8_both 264 = .ok (.iload 5, 2) := by decide +kernel
theorem dX8_both_266 : decode cX8_both 266 = .ok (.ireturn, 1) := by decide +kernel
set_option maxRecDepth 20000 in
theorem ggX8_worthIn_X8_later : GoodIn wsX8_worthIn wsX8_later := goodIn_r _ [5, 6, 7, 8, 9, 10, 11, 12, 13, 14, 15, 16, 17, 18, 19, 20, 21, 22, 23, 24, 25, 26, 27, 28, 29, 30, 31, 32, 33] (by decide +kernel) (by decide +kernel)
set_option maxRecDepth 20000 in
theorem gX8_worthIn_X8_later : GoodIn wsX8_worthIn (wsV RX8 168 RX8 yX8_later wsX8_later) := goodIn_app (goodIn_of _ (by decide +kernel)) ggX8_worthIn_X8_later
theorem dX8_worthIn_0 : decode cX8_worthIn 0 = .ok (.iload_n 2, 1) := by decide +kernel
theorem dX8_worthIn_1 : decode cX8_worthIn 1 = .ok (.istore 4, 2) := by decide +kernel
theorem dX8_worthIn_3 : decode cX8_worthIn 3 = .ok (.iconst 0, 1) := by decide +kernel
theorem dX8_worthIn_4 : decode cX8_worthIn 4 = .ok (.istore 5, 2) := by decide +kernel
theorem dX8_worthIn_6 : decode cX8_worthIn 6 = .ok (.iload 5, 2) := by decide +kernel
theorem dX8_worthIn_8 : decode cX8_worthIn 8 = .ok (.iload_n 3, 1) := by decide +kernel
theorem dX8_worthIn_9 : decode cX8_worthIn 9 = .ok (.if_icmp .ge 18, 3) := by decide +kernel
theorem dX8_worthIn_12 : decode cX8_worthIn 12 = .ok (.aload_n 0, 1) := by decide +kernel
theorem dX8_worthIn_13 : decode cX8_worthIn 13 = .ok (.iload_n 1, 1) := by decide +kernel
theorem dX8_worthIn_14 : decode cX8_worthIn 14 = .ok (.iload 4, 2) := by decide +kernel
theorem dX8_worthIn_16 : decode cX8_worthIn 16 = .ok (.invokevirtual 168, 3) := by decide +kernel
theorem dX8_worthIn_19 : decode cX8_worthIn 19 = .ok (.istore 4, 2) := by decide +kernel
theorem dX8_worthIn_21 : decode cX8_worthIn 21 = .ok (.iinc 5 1, 3) := by decide +kernel
theorem dX8_worthIn_24 : decode cX8_worthIn 24 = .ok (.goto (-18), 3) := by decide +kernel
theorem dX8_worthIn_27 : decode cX8_worthIn 27 = .ok (.iload 4, 2) := by decide +kernel
theorem dX8_worthIn_29 : decode cX8_worthIn 29 = .ok (.ireturn, 1) := by decide +kernel
set_option maxRecDepth 20000 in
theorem ggX8_leave_X8_in : GoodIn wsX8_leave wsX8_in := goodIn_r _ [7] (by decide +kernel) (by decide +kernel)
set_option maxRecDepth 20000 in
theorem gX8_leave_X8_in : GoodIn wsX8_leave (va_wsS RX8 72 yX8_in wsX8_in) := goodIn_app (goodIn_of _ (by decide +kernel)) ggX8_leave_X8_in
set_option maxRecDepth 20000 in
theorem ggX8_leave_X8_worthIn : GoodIn wsX8_leave wsX8_worthIn := goodIn_r _ [11, 12, 13, 14, 6, 15, 16, 17, 18, 19, 20, 21, 22, 23, 24, 25, 26, 27, 28, 29, 30, 31, 32, 33, 34, 35, 36, 37, 38, 39, 40, 41, 42, 43] (by decide +kernel) (by decide +kernel)
set_option maxRecDepth 20000 in
theorem gX8_leave_X8_worthIn : GoodIn wsX8_leave (wsV RX8 211 RX8 yX8_worthIn wsX8_worthIn) := goodIn_app (goodIn_of _ (by decide +kernel)) ggX8_leave_X8_worthIn
theorem dX8_leave_0 : decode cX8_leave 0 = .ok (.iload_n 1, 1) := by decide +kernel
theorem dX8_leave_1 : decode cX8_leave 1 = .ok (.iconst 0, 1) := by decide +kernel
theorem dX8_leave_2 : decode cX8_leave 2 = .ok (.sipush 300, 3) := by decide +kernel
theorem dX8_leave_5 : decode cX8_leave 5 = .ok (.invokestatic 72, 3) := by decide +kernel
theorem dX8_leave_8 : decode cX8_leave 8 = .ok (.ifCond .eq 12, 3) := by decide +kernel
theorem dX8_leave_11 : decode cX8_leave 11 = .ok (.iload_n 2, 1) := by decide +kernel
theorem dX8_leave_12 : decode cX8_leave 12 = .ok (.iconst 0, 1) := by decide +kernel
theorem dX8_leave_13 : decode cX8_leave 13 = .ok (.iconst 1, 1) := by decide +kernel
theorem dX8_leave_14 : decode cX8_leave 14 = .ok (.invokestatic 72, 3) := by decide +kernel
theorem dX8_leave_17 : decode cX8_leave 17 = .ok (.ifCond .ne 6, 3) := by decide +kernel
theorem dX8_leave_20 : decode cX8_leave 20 = .ok (.ldc 76, 2) := by decide +kernel
theorem dX8_leave_22 : decode cX8_leave 22 = .ok (.ireturn, 1) := by decide +kernel
theorem dX8_leave_23 : decode cX8_leave 23 = .ok (.iconst (-1), 1) := by decide +kernel
theorem dX8_leave_24 : decode cX8_leave 24 = .ok (.istore_n 3, 1) := by decide +kernel
theorem dX8_leave_25 : decode cX8_leave 25 = .ok (.iconst (-1), 1) := by decide +kernel
theorem dX8_leave_26 : decode cX8_leave 26 = .ok (.istore 4, 2) := by decide +kernel
theorem dX8_leave_28 : decode cX8_leave 28 = .ok (.iconst 0, 1) := by decide +kernel
theorem dX8_leave_29 : decode cX8_leave 29 = .ok (.istore 5, 2) := by decide +kernel
theorem dX8_leave_31 : decode cX8_leave 31 = .ok (.iload 5, 2) := by decide +kernel
theorem dX8_leave_33 : decode cX8_leave 33 = .ok (.aload_n 0, 1) := by decide +kernel
theorem dX8_leave_34 : decode cX8_leave 34 = .ok (.getfield 17, 3) := by decide +kernel
theorem dX8_leave_37 : decode cX8_leave 37 = .ok (.iconst 4, 1) := by decide +kernel
theorem dX8_leave_38 : decode cX8_leave 38 = .ok (.iaload, 1) := by decide +kernel
theorem dX8_leave_39 : decode cX8_leave 39 = .ok (.if_icmp .ge 58, 3) := by decide +kernel
theorem dX8_leave_42 : decode cX8_leave 42 = .ok (.aload_n 0, 1) := by decide +kernel
theorem dX8_leave_43 : decode cX8_leave 43 = .ok (.iload 5, 2) := by decide +kernel
theorem dX8_leave_45 : decode cX8_leave 45 = .ok (.aload_n 0, 1) := by decide +kernel
theorem dX8_leave_46 : decode cX8_leave 46 = .ok (.getfield 41, 3) := by decide +kernel
theorem dX8_leave_49 : decode cX8_leave 49 = .ok (.bipush 29, 2) := by decide +kernel
theorem dX8_leave_51 : decode cX8_leave 51 = .ok (.iload 5, 2) := by decide +kernel
theorem dX8_leave_53 : decode cX8_leave 53 = .ok (.iadd, 1) := by decide +kernel
theorem dX8_leave_54 : decode cX8_leave 54 = .ok (.iaload, 1) := by decide +kernel
theorem dX8_leave_55 : decode cX8_leave 55 = .ok (.iload_n 1, 1) := by decide +kernel
theorem dX8_leave_56 : decode cX8_leave 56 = .ok (.invokevirtual 211, 3) := by decide +kernel
theorem dX8_leave_59 : decode cX8_leave 59 = .ok (.istore 6, 2) := by decide +kernel
theorem dX8_leave_61 : decode cX8_leave 61 = .ok (.iload 6, 2) := by decide +kernel
theorem dX8_leave_63 : decode cX8_leave 63 = .ok (.iload 4, 2) := by decide +kernel
theorem dX8_leave_65 : decode cX8_leave 65 = .ok (.if_icmp .le 8, 3) := by decide +kernel
theorem dX8_leave_68 : decode cX8_leave 68 = .ok (.iload 5, 2) := by decide +kernel
theorem dX8_leave_70 : decode cX8_leave 70 = .ok (.goto 4, 3) := by decide +kernel
theorem dX8_leave_73 : decode cX8_leave 73 = .ok (.iload_n 3, 1) := by decide +kernel
theorem dX8_leave_74 : decode cX8_leave 74 = .ok (.istore_n 3, 1) := by decide +kernel
theorem dX8_leave_75 : decode cX8_leave 75 = .ok (.iload 6, 2) := by decide +kernel
theorem dX8_leave_77 : decode cX8_leave 77 = .ok (.iload 4, 2) := by decide +kernel
theorem dX8_leave_79 : decode cX8_leave 79 = .ok (.if_icmp .le 8, 3) := by decide +kernel
theorem dX8_leave_82 : decode cX8_leave 82 = .ok (.iload 6, 2) := by decide +kernel
theorem dX8_leave_84 : decode cX8_leave 84 = .ok (.goto 5, 3) := by decide +kernel
theorem dX8_leave_87 : decode cX8_leave 87 = .ok (.iload 4, 2) := by decide +kernel
theorem dX8_leave_89 : decode cX8_leave 89 = .ok (.istore 4, 2) := by decide +kernel
theorem dX8_leave_91 : decode cX8_leave 91 = .ok (.iinc 5 1, 3) := by decide +kernel
theorem dX8_leave_94 : decode cX8_leave 94 = .ok (.goto (-63), 3) := by decide +kernel
theorem dX8_leave_97 : decode cX8_leave 97 = .ok (.iload_n 2, 1) := by decide +kernel
theorem dX8_leave_98 : decode cX8_leave 98 = .ok (.ifCond .ne 7, 3) := by decide +kernel
theorem dX8_leave_101 : decode cX8_leave 101 = .ok (.iload_n 3, 1) := by decide +kernel
theorem dX8_leave_102 : decode cX8_leave 102 = .ok (.goto 5, 3) := by decide +kernel
theorem dX8_leave_105 : decode cX8_leave 105 = .ok (.iload 4, 2) := by decide +kernel
theorem dX8_leave_107 : decode cX8_leave 107 = .ok (.ireturn, 1) := by decide +kernel
set_option maxRecDepth 20000 in
theorem ggX8_when_X8_isGood : GoodIn wsX8_when wsX8_isGood := goodIn_r _ [8, 9, 10, 11, 7, 12, 18, 19, 20, 21, 22, 23, 24, 25, 26, 27, 28, 29, 30, 31, 32, 33, 34, 35, 36, 37, 38, 39, 40, 41, 42, 43, 44] (by decide +kernel) (by decide +kernel)
set_option maxRecDepth 20000 in
theorem gX8_when_X8_isGood : GoodIn wsX8_when (wsV RX8 162 RX8 yX8_isGood wsX8_isGood) := goodIn_app (goodIn_of _ (by decide +kernel)) ggX8_when_X8_isGood
set_option maxRecDepth 20000 in
theorem ggX8_when_X8_in : GoodIn wsX8_when wsX8_in := goodIn_r _ [12] (by decide +kernel) (by decide +kernel)
set_option maxRecDepth 20000 in
theorem gX8_when_X8_in : GoodIn wsX8_when (va_wsS RX8 72 yX8_in wsX8_in) := goodIn_app (goodIn_of _ (by decide +kernel)) ggX8_when_X8_in
set_option maxRecDepth 20000 in
theorem ggX8_when_X8_later : GoodIn wsX8_when wsX8_later := goodIn_r _ [16, 17, 18, 19, 20, 21, 22, 23, 24, 25, 26, 27, 28, 29, 30, 31, 32, 33, 34, 35, 36, 37, 38, 39, 40, 41, 42, 43, 44] (by decide +kernel) (by decide +kernel)
set_option maxRecDepth 20000 in
theorem gX8_when_X8_later : GoodIn wsX8_when (wsV RX8 168 RX8 yX8_later wsX8_later) := goodIn_app (goodIn_of _ (by decide +kernel)) ggX8_when_X8_later
theorem dX8_when_0 : decode cX8_when 0 = .ok (.aload_n 0, 1) := by decide +kernel
theorem dX8_when_1 : decode cX8_when 1 = .ok (.iload_n 1, 1) := by decide +kernel
theorem dX8_when_2 : decode cX8_when 2 = .ok (.invokevirtual 162, 3) := by decide +kernel
theorem dX8_when_5 : decode cX8_when 5 = .ok (.ifCond .ne 6, 3) := by decide +kernel
theorem dX8_when_8 : decode cX8_when 8 = .ok (.ldc 152, 2) := by decide +kernel
theorem dX8_when_10 : decode cX8_when 10 = .ok (.ireturn, 1) := by decide +kernel
theorem dX8_when_11 : decode cX8_when 11 = .ok (.iload_n 2, 1) := by decide +kernel
theorem dX8_when_12 : decode cX8_when 12 = .ok (.iconst 0, 1) := by decide +kernel
theorem dX8_when_13 : decode cX8_when 13 = .ok (.sipush 9999, 3) := by decide +kernel
theorem dX8_when_16 : decode cX8_when 16 = .ok (.invokestatic 72, 3) := by decide +kernel
theorem dX8_when_19 : decode cX8_when 19 = .ok (.ifCond .ne 6, 3) := by decide +kernel
theorem dX8_when_22 : decode cX8_when 22 = .ok (.ldc 76, 2) := by decide +kernel
theorem dX8_when_24 : decode cX8_when 24 = .ok (.ireturn, 1) := by decide +kernel
theorem dX8_when_25 : decode cX8_when 25 = .ok (.aload_n 0, 1) := by decide +kernel
theorem dX8_when_26 : decode cX8_when 26 = .ok (.getfield 41, 3) := by decide +kernel
theorem dX8_when_29 : decode cX8_when 29 = .ok (.bipush 29, 2) := by decide +kernel
theorem dX8_when_31 : decode cX8_when 31 = .ok (.iload_n 1, 1) := by decide +kernel
theorem dX8_when_32 : decode cX8_when 32 = .ok (.iadd, 1) := by decide +kernel
theorem dX8_when_33 : decode cX8_when 33 = .ok (.iaload, 1) := by decide +kernel
theorem dX8_when_34 : decode cX8_when 34 = .ok (.istore_n 3, 1) := by decide +kernel
theorem dX8_when_35 : decode cX8_when 35 = .ok (.iconst 0, 1) := by decide +kernel
theorem dX8_when_36 : decode cX8_when 36 = .ok (.istore 4, 2) := by decide +kernel
theorem dX8_when_38 : decode cX8_when 38 = .ok (.iload 4, 2) := by decide +kernel
theorem dX8_when_40 : decode cX8_when 40 = .ok (.sipush 301, 3) := by decide +kernel
theorem dX8_when_43 : decode cX8_when 43 = .ok (.if_icmp .ge 24, 3) := by decide +kernel
theorem dX8_when_46 : decode cX8_when 46 = .ok (.iload_n 3, 1) := by decide +kernel
theorem dX8_when_47 : decode cX8_when 47 = .ok (.iload_n 2, 1) := by decide +kernel
theorem dX8_when_48 : decode cX8_when 48 = .ok (.if_icmp .lt 6, 3) := by decide +kernel
theorem dX8_when_51 : decode cX8_when 51 = .ok (.iload 4, 2) := by decide +kernel
theorem dX8_when_53 : decode cX8_when 53 = .ok (.ireturn, 1) := by decide +kernel
theorem dX8_when_54 : decode cX8_when 54 = .ok (.aload_n 0, 1) := by decide +kernel
theorem dX8_when_55 : decode cX8_when 55 = .ok (.iload_n 1, 1) := by decide +kernel
theorem dX8_when_56 : decode cX8_when 56 = .ok (.iload_n 3, 1) := by decide +kernel
theorem dX8_when_57 : decode cX8_when 57 = .ok (.invokevirtual 168, 3) := by decide +kernel
theorem dX8_when_60 : decode cX8_when 60 = .ok (.istore_n 3, 1) := by decide +kernel
theorem dX8_when_61 : decode cX8_when 61 = .ok (.iinc 4 1, 3) := by decide +kernel
theorem dX8_when_64 : decode cX8_when 64 = .ok (.goto (-26), 3) := by decide +kernel
theorem dX8_when_67 : decode cX8_when 67 = .ok (.iconst (-1), 1) := by decide +kernel
theorem dX8_when_68 : decode cX8_when 68 = .ok (.ireturn, 1) := by decide +kernel
set_option maxRecDepth 20000 in
theorem ggX8_letters_X8_isDepth : GoodIn wsX8_letters wsX8_isDepth := goodIn_r _ [9, 10, 11, 12, 8, 13, 14, 15, 16, 17, 18, 19, 20, 21, 22, 23, 24, 25, 26, 27, 28, 29, 30, 31, 32, 33, 34, 35, 36, 37, 38, 39, 40] (by decide +kernel) (by decide +kernel)
set_option maxRecDepth 20000 in
theorem gX8_letters_X8_isDepth : GoodIn wsX8_letters (wsV RX8 149 RX8 yX8_isDepth wsX8_isDepth) := goodIn_app (goodIn_of _ (by decide +kernel)) ggX8_letters_X8_isDepth
set_option maxRecDepth 20000 in
theorem ggX8_letters_X8_in : GoodIn wsX8_letters wsX8_in := goodIn_r _ [13] (by decide +kernel) (by decide +kernel)
set_option maxRecDepth 20000 in
theorem gX8_letters_X8_in : GoodIn wsX8_letters (va_wsS RX8 72 yX8_in wsX8_in) := goodIn_app (goodIn_of _ (by decide +kernel)) ggX8_letters_X8_in
theorem dX8_letters_0 : decode cX8_letters 0 = .ok (.aload_n 0, 1) := by decide +kernel
theorem dX8_letters_1 : decode cX8_letters 1 = .ok (.iload_n 1, 1) := by decide +kernel
theorem dX8_letters_2 : decode cX8_letters 2 = .ok (.invokevirtual 149, 3) := by decide +kernel
theorem dX8_letters_5 : decode cX8_letters 5 = .ok (.ifCond .ne 6, 3) := by decide +kernel
theorem dX8_letters_8 : decode cX8_letters 8 = .ok (.ldc 152, 2) := by decide +kernel
theorem dX8_letters_10 : decode cX8_letters 10 = .ok (.ireturn, 1) := by decide +kernel
theorem dX8_letters_11 : decode cX8_letters 11 = .ok (.iload_n 2, 1) := by decide +kernel
theorem dX8_letters_12 : decode cX8_letters 12 = .ok (.iconst 1, 1) := by decide +kernel
theorem dX8_letters_13 : decode cX8_letters 13 = .ok (.bipush 9, 2) := by decide +kernel
theorem dX8_letters_15 : decode cX8_letters 15 = .ok (.invokestatic 72, 3) := by decide +kernel
theorem dX8_letters_18 : decode cX8_letters 18 = .ok (.ifCond .ne 6, 3) := by decide +kernel
theorem dX8_letters_21 : decode cX8_letters 21 = .ok (.ldc 76, 2) := by decide +kernel
theorem dX8_letters_23 : decode cX8_letters 23 = .ok (.ireturn, 1) := by decide +kernel
theorem dX8_letters_24 : decode cX8_letters 24 = .ok (.aload_n 0, 1) := by decide +kernel
theorem dX8_letters_25 : decode cX8_letters 25 = .ok (.getfield 41, 3) := by decide +kernel
theorem dX8_letters_28 : decode cX8_letters 28 = .ok (.iconst 0, 1) := by decide +kernel
theorem dX8_letters_29 : decode cX8_letters 29 = .ok (.iaload, 1) := by decide +kernel
theorem dX8_letters_30 : decode cX8_letters 30 = .ok (.aload_n 0, 1) := by decide +kernel
theorem dX8_letters_31 : decode cX8_letters 31 = .ok (.getfield 20, 3) := by decide +kernel
theorem dX8_letters_34 : decode cX8_letters 34 = .ok (.iload_n 1, 1) := by decide +kernel
theorem dX8_letters_35 : decode cX8_letters 35 = .ok (.iaload, 1) := by decide +kernel
theorem dX8_letters_36 : decode cX8_letters 36 = .ok (.idiv, 1) := by decide +kernel
theorem dX8_letters_37 : decode cX8_letters 37 = .ok (.iload_n 2, 1) := by decide +kernel
theorem dX8_letters_38 : decode cX8_letters 38 = .ok (.iadd, 1) := by decide +kernel
theorem dX8_letters_39 : decode cX8_letters 39 = .ok (.aload_n 0, 1) := by decide +kernel
theorem dX8_letters_40 : decode cX8_letters 40 = .ok (.getfield 20, 3) := by decide +kernel
theorem dX8_letters_43 : decode cX8_letters 43 = .ok (.iload_n 1, 1) := by decide +kernel
theorem dX8_letters_44 : decode cX8_letters 44 = .ok (.iaload, 1) := by decide +kernel
theorem dX8_letters_45 : decode cX8_letters 45 = .ok (.imul, 1) := by decide +kernel
theorem dX8_letters_46 : decode cX8_letters 46 = .ok (.aload_n 0, 1) := by decide +kernel
theorem dX8_letters_47 : decode cX8_letters 47 = .ok (.getfield 41, 3) := by decide +kernel
theorem dX8_letters_50 : decode cX8_letters 50 = .ok (.iconst 0, 1) := by decide +kernel
theorem dX8_letters_51 : decode cX8_letters 51 = .ok (.iaload, 1) := by decide +kernel
theorem dX8_letters_52 : decode cX8_letters 52 = .ok (.isub, 1) := by decide +kernel
theorem dX8_letters_53 : decode cX8_letters 53 = .ok (.ireturn, 1) := by decide +kernel
set_option maxRecDepth 20000 in
theorem ggX8_wouldOpen_X8_isPerson : GoodIn wsX8_wouldOpen wsX8_isPerson := goodIn_r _ [8, 9, 10, 11, 7, 12, 22, 23, 24, 25, 26, 27, 28, 29, 30, 31, 32, 33, 34, 35, 36, 37, 38, 39, 40, 41, 42, 43, 44, 45, 46, 47, 48] (by decide +kernel) (by decide +kernel)
set_option maxRecDepth 20000 in
theorem gX8_wouldOpen_X8_isPerson : GoodIn wsX8_wouldOpen (wsV RX8 153 RX8 yX8_isPerson wsX8_isPerson) := goodIn_app (goodIn_of _ (by decide +kernel)) ggX8_wouldOpen_X8_isPerson
set_option maxRecDepth 20000 in
theorem ggX8_wouldOpen_X8_isAbove : GoodIn wsX8_wouldOpen wsX8_isAbove := goodIn_r _ [16, 3, 22, 23, 24, 25, 26, 27, 28, 29, 30, 31, 32, 33, 34, 35, 36, 37, 38, 39, 40, 41, 42, 43, 44, 45, 46, 47, 48] (by decide +kernel) (by decide +kernel)
set_option maxRecDepth 20000 in
theorem gX8_wouldOpen_X8_isAbove : GoodIn wsX8_wouldOpen (wsV RX8 165 RX8 yX8_isAbove wsX8_isAbove) := goodIn_app (goodIn_of _ (by decide +kernel)) ggX8_wouldOpen_X8_isAbove
set_option maxRecDepth 20000 in
theorem ggX8_wouldOpen_X8_end : GoodIn wsX8_wouldOpen wsX8_end := goodIn_r _ [20, 21, 22, 23, 24, 25, 26, 27, 28, 29, 30, 31, 32, 33, 34, 35, 36, 37, 38, 39, 40, 41, 42, 43, 44, 45, 46, 47, 48] (by decide +kernel) (by decide +kernel)
set_option maxRecDepth 20000 in
theorem gX8_wouldOpen_X8_end : GoodIn wsX8_wouldOpen (wsV RX8 156 RX8 yX8_end wsX8_end) := goodIn_app (goodIn_of _ (by decide +kernel)) ggX8_wouldOpen_X8_end
theorem dX8_wouldOpen_0 : decode cX8_wouldOpen 0 = .ok (.aload_n 0, 1) := by decide +kernel
theorem dX8_wouldOpen_1 : decode cX8_wouldOpen 1 = .ok (.iload_n 1, 1) := by decide +kernel
theorem dX8_wouldOpen_2 : decode cX8_wouldOpen 2 = .ok (.invokevirtual 153, 3) := by decide +kernel
theorem dX8_wouldOpen_5 : decode cX8_wouldOpen 5 = .ok (.ifCond .ne 6, 3) := by decide +kernel
theorem dX8_wouldOpen_8 : decode cX8_wouldOpen 8 = .ok (.ldc 152, 2) := by decide +kernel
theorem dX8_wouldOpen_10 : decode cX8_wouldOpen 10 = .ok (.ireturn, 1) := by decide +kernel
theorem dX8_wouldOpen_11 : decode cX8_wouldOpen 11 = .ok (.aload_n 0, 1) := by decide +kernel
theorem dX8_wouldOpen_12 : decode cX8_wouldOpen 12 = .ok (.iload_n 1, 1) := by decide +kernel
theorem dX8_wouldOpen_13 : decode cX8_wouldOpen 13 = .ok (.invokevirtual 165, 3) := by decide +kernel
theorem dX8_wouldOpen_16 : decode cX8_wouldOpen 16 = .ok (.ifCond .ne 6, 3) := by decide +kernel
theorem dX8_wouldOpen_19 : decode cX8_wouldOpen 19 = .ok (.ldc 171, 2) := by decide +kernel
theorem dX8_wouldOpen_21 : decode cX8_wouldOpen 21 = .ok (.ireturn, 1) := by decide +kernel
theorem dX8_wouldOpen_22 : decode cX8_wouldOpen 22 = .ok (.aload_n 0, 1) := by decide +kernel
theorem dX8_wouldOpen_23 : decode cX8_wouldOpen 23 = .ok (.getfield 41, 3) := by decide +kernel
theorem dX8_wouldOpen_26 : decode cX8_wouldOpen 26 = .ok (.iconst 1, 1) := by decide +kernel
theorem dX8_wouldOpen_27 : decode cX8_wouldOpen 27 = .ok (.iload_n 1, 1) := by decide +kernel
theorem dX8_wouldOpen_28 : decode cX8_wouldOpen 28 = .ok (.iadd, 1) := by decide +kernel
theorem dX8_wouldOpen_29 : decode cX8_wouldOpen 29 = .ok (.iaload, 1) := by decide +kernel
theorem dX8_wouldOpen_30 : decode cX8_wouldOpen 30 = .ok (.aload_n 0, 1) := by decide +kernel
theorem dX8_wouldOpen_31 : decode cX8_wouldOpen 31 = .ok (.getfield 41, 3) := by decide +kernel
theorem dX8_wouldOpen_34 : decode cX8_wouldOpen 34 = .ok (.bipush 15, 2) := by decide +kernel
theorem dX8_wouldOpen_36 : decode cX8_wouldOpen 36 = .ok (.iload_n 1, 1) := by decide +kernel
theorem dX8_wouldOpen_37 : decode cX8_wouldOpen 37 = .ok (.iadd, 1) := by decide +kernel
theorem dX8_wouldOpen_38 : decode cX8_wouldOpen 38 = .ok (.iaload, 1) := by decide +kernel
theorem dX8_wouldOpen_39 : decode cX8_wouldOpen 39 = .ok (.iadd, 1) := by decide +kernel
theorem dX8_wouldOpen_40 : decode cX8_wouldOpen 40 = .ok (.istore_n 2, 1) := by decide +kernel
theorem dX8_wouldOpen_41 : decode cX8_wouldOpen 41 = .ok (.iload_n 2, 1) := by decide +kernel
theorem dX8_wouldOpen_42 : decode cX8_wouldOpen 42 = .ok (.aload_n 0, 1) := by decide +kernel
theorem dX8_wouldOpen_43 : decode cX8_wouldOpen 43 = .ok (.iload_n 1, 1) := by decide +kernel
theorem dX8_wouldOpen_44 : decode cX8_wouldOpen 44 = .ok (.invokevirtual 156, 3) := by decide +kernel
theorem dX8_wouldOpen_47 : decode cX8_wouldOpen 47 = .ok (.if_icmp .ge 7, 3) := by decide +kernel
theorem dX8_wouldOpen_50 : decode cX8_wouldOpen 50 = .ok (.iload_n 2, 1) := by decide +kernel
theorem dX8_wouldOpen_51 : decode cX8_wouldOpen 51 = .ok (.goto 4, 3) := by decide +kernel
theorem dX8_wouldOpen_54 : decode cX8_wouldOpen 54 = .ok (.iconst (-1), 1) := by decide +kernel
theorem dX8_wouldOpen_55 : decode cX8_wouldOpen 55 = .ok (.ireturn, 1) := by decide +kernel
set_option maxRecDepth 20000 in
theorem ggX8_yearsLeft_X8_isPerson : GoodIn wsX8_yearsLeft wsX8_isPerson := goodIn_r _ [8, 9, 10, 11, 7, 12, 22, 23, 24, 25, 26, 27, 28, 29, 30, 31, 32, 33, 34, 35, 36, 37, 38, 39, 40, 41, 42, 43, 44, 45, 46, 47, 48] (by decide +kernel) (by decide +kernel)
set_option maxRecDepth 20000 in
theorem gX8_yearsLeft_X8_isPerson : GoodIn wsX8_yearsLeft (wsV RX8 153 RX8 yX8_isPerson wsX8_isPerson) := goodIn_app (goodIn_of _ (by decide +kernel)) ggX8_yearsLeft_X8_isPerson
set_option maxRecDepth 20000 in
theorem ggX8_yearsLeft_X8_isAbove : GoodIn wsX8_yearsLeft wsX8_isAbove := goodIn_r _ [16, 3, 22, 23, 24, 25, 26, 27, 28, 29, 30, 31, 32, 33, 34, 35, 36, 37, 38, 39, 40, 41, 42, 43, 44, 45, 46, 47, 48] (by decide +kernel) (by decide +kernel)
set_option maxRecDepth 20000 in
theorem gX8_yearsLeft_X8_isAbove : GoodIn wsX8_yearsLeft (wsV RX8 165 RX8 yX8_isAbove wsX8_isAbove) := goodIn_app (goodIn_of _ (by decide +kernel)) ggX8_yearsLeft_X8_isAbove
set_option maxRecDepth 20000 in
theorem ggX8_yearsLeft_X8_end : GoodIn wsX8_yearsLeft wsX8_end := goodIn_r _ [20, 21, 22, 23, 24, 25, 26, 27, 28, 29, 30, 31, 32, 33, 34, 35, 36, 37, 38, 39, 40, 41, 42, 43, 44, 45, 46, 47, 48] (by decide +kernel) (by decide +kernel)
set_option maxRecDepth 20000 in
theorem gX8_yearsLeft_X8_end : GoodIn wsX8_yearsLeft (wsV RX8 156 RX8 yX8_end wsX8_end) := goodIn_app (goodIn_of _ (by decide +kernel)) ggX8_yearsLeft_X8_end
theorem dX8_yearsLeft_0 : decode cX8_yearsLeft 0 = .ok (.aload_n 0, 1) := by decide +kernel
theorem dX8_yearsLeft_1 : decode cX8_yearsLeft 1 = .ok (.iload_n 1, 1) := by decide +kernel
theorem dX8_yearsLeft_2 : decode cX8_yearsLeft 2 = .ok (.invokevirtual 153, 3) := by decide +kernel
theorem dX8_yearsLeft_5 : decode cX8_yearsLeft 5 = .ok (.ifCond .ne 8, 3) := by decide +kernel
theorem dX8_yearsLeft_8 : decode cX8_yearsLeft 8 = .ok (.ldc 152, 2) := by decide +kernel
theorem dX8_yearsLeft_10 : decode cX8_yearsLeft 10 = .ok (.goto 30, 3) := by decide +kernel
theorem dX8_yearsLeft_13 : decode cX8_yearsLeft 13 = .ok (.aload_n 0, 1) := by decide +kernel
theorem dX8_yearsLeft_14 : decode cX8_yearsLeft 14 = .ok (.iload_n 1, 1) := by decide +kernel
theorem dX8_yearsLeft_15 : decode cX8_yearsLeft 15 = .ok (.invokevirtual 165, 3) := by decide +kernel
theorem dX8_yearsLeft_18 : decode cX8_yearsLeft 18 = .ok (.ifCond .ne 8, 3) := by decide +kernel
theorem dX8_yearsLeft_21 : decode cX8_yearsLeft 21 = .ok (.ldc 171, 2) := by decide +kernel
theorem dX8_yearsLeft_23 : decode cX8_yearsLeft 23 = .ok (.goto 17, 3) := by decide +kernel
theorem dX8_yearsLeft_26 : decode cX8_yearsLeft 26 = .ok (.aload_n 0, 1) := by decide +kernel
theorem dX8_yearsLeft_27 : decode cX8_yearsLeft 27 = .ok (.iload_n 1, 1) := by decide +kernel
theorem dX8_yearsLeft_28 : decode cX8_yearsLeft 28 = .ok (.invokevirtual 156, 3) := by decide +kernel
theorem dX8_yearsLeft_31 : decode cX8_yearsLeft 31 = .ok (.aload_n 0, 1) := by decide +kernel
theorem dX8_yearsLeft_32 : decode cX8_yearsLeft 32 = .ok (.getfield 41, 3) := by decide +kernel
theorem dX8_yearsLeft_35 : decode cX8_yearsLeft 35 = .ok (.iconst 1, 1) := by decide +kernel
theorem dX8_yearsLeft_36 : decode cX8_yearsLeft 36 = .ok (.iload_n 1, 1) := by decide +kernel
theorem dX8_yearsLeft_37 : decode cX8_yearsLeft 37 = .ok (.iadd, 1) := by decide +kernel
theorem dX8_yearsLeft_38 : decode cX8_yearsLeft 38 = .ok (.iaload, 1) := by decide +kernel
theorem dX8_yearsLeft_39 : decode cX8_yearsLeft 39 = .ok (.isub, 1) := by decide +kernel
theorem dX8_yearsLeft_40 : decode cX8_yearsLeft 40 = .ok (.ireturn, 1) := by decide +kernel
set_option maxRecDepth 20000 in
theorem ggX8_latest_X8_isAbove : GoodIn wsX8_latest wsX8_isAbove := goodIn_r _ [7, 2, 13, 14, 15, 16, 17, 18, 19, 20, 21, 22, 23, 24, 25, 26, 27, 28, 29, 30, 31, 32, 33, 34, 35, 36, 37, 38, 39] (by decide +kernel) (by decide +kernel)
set_option maxRecDepth 20000 in
theorem gX8_latest_X8_isAbove : GoodIn wsX8_latest (wsV RX8 165 RX8 yX8_isAbove wsX8_isAbove) := goodIn_app (goodIn_of _ (by decide +kernel)) ggX8_latest_X8_isAbove
set_option maxRecDepth 20000 in
theorem ggX8_latest_X8_end : GoodIn wsX8_latest wsX8_end := goodIn_r _ [11, 12, 13, 14, 15, 16, 17, 18, 19, 20, 21, 22, 23, 24, 25, 26, 27, 28, 29, 30, 31, 32, 33, 34, 35, 36, 37, 38, 39] (by decide +kernel) (by decide +kernel)
set_option maxRecDepth 20000 in
theorem gX8_latest_X8_end : GoodIn wsX8_latest (wsV RX8 156 RX8 yX8_end wsX8_end) := goodIn_app (goodIn_of _ (by decide +kernel)) ggX8_latest_X8_end
theorem dX8_latest_0 : decode cX8_latest 0 = .ok (.iconst (-1), 1) := by decide +kernel
theorem dX8_latest_1 : decode cX8_latest 1 = .ok (.istore_n 1, 1) := by decide +kernel
theorem dX8_latest_2 : decode cX8_latest 2 = .ok (.iconst 0, 1) := by decide +kernel
theorem dX8_latest_3 : decode cX8_latest 3 = .ok (.istore_n 2, 1) := by decide +kernel
theorem dX8_latest_4 : decode cX8_latest 4 = .ok (.iconst 0, 1) := by decide +kernel
theorem dX8_latest_5 : decode cX8_latest 5 = .ok (.istore_n 3, 1) := by decide +kernel
theorem dX8_latest_6 : decode cX8_latest 6 = .ok (.iload_n 3, 1) := by decide +kernel
theorem dX8_latest_7 : decode cX8_latest 7 = .ok (.aload_n 0, 1) := by decide +kernel
theorem dX8_latest_8 : decode cX8_latest 8 = .ok (.getfield 17, 3) := by decide +kernel
theorem dX8_latest_11 : decode cX8_latest 11 = .ok (.iconst 3, 1) := by decide +kernel
theorem dX8_latest_12 : decode cX8_latest 12 = .ok (.iaload, 1) := by decide +kernel
theorem dX8_latest_13 : decode cX8_latest 13 = .ok (.if_icmp .ge 62, 3) := by decide +kernel
theorem dX8_latest_16 : decode cX8_latest 16 = .ok (.aload_n 0, 1) := by decide +kernel
theorem dX8_latest_17 : decode cX8_latest 17 = .ok (.iload_n 3, 1) := by decide +kernel
theorem dX8_latest_18 : decode cX8_latest 18 = .ok (.invokevirtual 165, 3) := by decide +kernel
theorem dX8_latest_21 : decode cX8_latest 21 = .ok (.ifCond .eq 20, 3) := by decide +kernel
theorem dX8_latest_24 : decode cX8_latest 24 = .ok (.aload_n 0, 1) := by decide +kernel
theorem dX8_latest_25 : decode cX8_latest 25 = .ok (.iload_n 3, 1) := by decide +kernel
theorem dX8_latest_26 : decode cX8_latest 26 = .ok (.invokevirtual 156, 3) := by decide +kernel
theorem dX8_latest_29 : decode cX8_latest 29 = .ok (.aload_n 0, 1) := by decide +kernel
theorem dX8_latest_30 : decode cX8_latest 30 = .ok (.getfield 41, 3) := by decide +kernel
theorem dX8_latest_33 : decode cX8_latest 33 = .ok (.iconst 1, 1) := by decide +kernel
theorem dX8_latest_34 : decode cX8_latest 34 = .ok (.iload_n 3, 1) := by decide +kernel
theorem dX8_latest_35 : decode cX8_latest 35 = .ok (.iadd, 1) := by decide +kernel
theorem dX8_latest_36 : decode cX8_latest 36 = .ok (.iaload, 1) := by decide +kernel
theorem dX8_latest_37 : decode cX8_latest 37 = .ok (.isub, 1) := by decide +kernel
theorem dX8_latest_38 : decode cX8_latest 38 = .ok (.goto 4, 3) := by decide +kernel
theorem dX8_latest_41 : decode cX8_latest 41 = .ok (.iconst 0, 1) := by decide +kernel
theorem dX8_latest_42 : decode cX8_latest 42 = .ok (.istore 4, 2) := by decide +kernel
theorem dX8_latest_44 : decode cX8_latest 44 = .ok (.iload 4, 2) := by decide +kernel
theorem dX8_latest_46 : decode cX8_latest 46 = .ok (.iload_n 2, 1) := by decide +kernel
theorem dX8_latest_47 : decode cX8_latest 47 = .ok (.if_icmp .le 7, 3) := by decide +kernel
theorem dX8_latest_50 : decode cX8_latest 50 = .ok (.iload_n 3, 1) := by decide +kernel
theorem dX8_latest_51 : decode cX8_latest 51 = .ok (.goto 4, 3) := by decide +kernel
theorem dX8_latest_54 : decode cX8_latest 54 = .ok (.iload_n 1, 1) := by decide +kernel
theorem dX8_latest_55 : decode cX8_latest 55 = .ok (.istore_n 1, 1) := by decide +kernel
theorem dX8_latest_56 : decode cX8_latest 56 = .ok (.iload 4, 2) := by decide +kernel
theorem dX8_latest_58 : decode cX8_latest 58 = .ok (.iload_n 2, 1) := by decide +kernel
theorem dX8_latest_59 : decode cX8_latest 59 = .ok (.if_icmp .le 8, 3) := by decide +kernel
theorem dX8_latest_62 : decode cX8_latest 62 = .ok (.iload 4, 2) := by decide +kernel
theorem dX8_latest_64 : decode cX8_latest 64 = .ok (.goto 4, 3) := by decide +kernel
theorem dX8_latest_67 : decode cX8_latest 67 = .ok (.iload_n 2, 1) := by decide +kernel
theorem dX8_latest_68 : decode cX8_latest 68 = .ok (.istore_n 2, 1) := by decide +kernel
theorem dX8_latest_69 : decode cX8_latest 69 = .ok (.iinc 3 1, 3) := by decide +kernel
theorem dX8_latest_72 : decode cX8_latest 72 = .ok (.goto (-66), 3) := by decide +kernel
theorem dX8_latest_75 : decode cX8_latest 75 = .ok (.iload_n 1, 1) := by decide +kernel
theorem dX8_latest_76 : decode cX8_latest 76 = .ok (.ireturn, 1) := by decide +kernel
set_option maxRecDepth 20000 in
theorem ggX8_storm_X8_in : GoodIn wsX8_storm wsX8_in := goodIn_r _ [7] (by decide +kernel) (by decide +kernel)
set_option maxRecDepth 20000 in
theorem gX8_storm_X8_in : GoodIn wsX8_storm (va_wsS RX8 72 yX8_in wsX8_in) := goodIn_app (goodIn_of _ (by decide +kernel)) ggX8_storm_X8_in
theorem dX8_storm_0 : decode cX8_storm 0 = .ok (.iload_n 1, 1) := by decide +kernel
theorem dX8_storm_1 : decode cX8_storm 1 = .ok (.iconst 0, 1) := by decide +kernel
theorem dX8_storm_2 : decode cX8_storm 2 = .ok (.bipush 60, 2) := by decide +kernel
theorem dX8_storm_4 : decode cX8_storm 4 = .ok (.invokestatic 72, 3) := by decide +kernel
theorem dX8_storm_7 : decode cX8_storm 7 = .ok (.ifCond .eq 13, 3) := by decide +kernel
theorem dX8_storm_10 : decode cX8_storm 10 = .ok (.iload_n 2, 1) := by decide +kernel
theorem dX8_storm_11 : decode cX8_storm 11 = .ok (.iconst 0, 1) := by decide +kernel
theorem dX8_storm_12 : decode cX8_storm 12 = .ok (.bipush 100, 2) := by decide +kernel
theorem dX8_storm_14 : decode cX8_storm 14 = .ok (.invokestatic 72, 3) := by decide +kernel
theorem dX8_storm_17 : decode cX8_storm 17 = .ok (.ifCond .ne 6, 3) := by decide +kernel
theorem dX8_storm_20 : decode cX8_storm 20 = .ok (.ldc 76, 2) := by decide +kernel
theorem dX8_storm_22 : decode cX8_storm 22 = .ok (.ireturn, 1) := by decide +kernel
theorem dX8_storm_23 : decode cX8_storm 23 = .ok (.ldc2_w 215, 3) := by decide +kernel
theorem dX8_storm_26 : decode cX8_storm 26 = .ok (.lstore_n 3, 1) := by decide +kernel
theorem dX8_storm_27 : decode cX8_storm 27 = .ok (.iconst 0, 1) := by decide +kernel
theorem dX8_storm_28 : decode cX8_storm 28 = .ok (.istore 5, 2) := by decide +kernel
theorem dX8_storm_30 : decode cX8_storm 30 = .ok (.iload 5, 2) := by decide +kernel
theorem dX8_storm_32 : decode cX8_storm 32 = .ok (.iload_n 1, 1) := by decide +kernel
theorem dX8_storm_33 : decode cX8_storm 33 = .ok (.if_icmp .ge 21, 3) := by decide +kernel
theorem dX8_storm_36 : decode cX8_storm 36 = .ok (.lload_n 3, 1) := by decide +kernel
theorem dX8_storm_37 : decode cX8_storm 37 = .ok (.bipush 100, 2) := by decide +kernel
theorem dX8_storm_39 : decode cX8_storm 39 = .ok (.iload_n 2, 1) := by decide +kernel
theorem dX8_storm_40 : decode cX8_storm 40 = .ok (.isub, 1) := by decide +kernel
theorem dX8_storm_41 : decode cX8_storm 41 = .ok (.i2l, 1) := by decide +kernel
theorem dX8_storm_42 : decode cX8_storm 42 = .ok (.lmul, 1) := by decide +kernel
theorem dX8_storm_43 : decode cX8_storm 43 = .ok (.ldc2_w 217, 3) := by decide +kernel
theorem dX8_storm_46 : decode cX8_storm 46 = .ok (.ldiv, 1) := by decide +kernel
theorem dX8_storm_47 : decode cX8_storm 47 = .ok (.lstore_n 3, 1) := by decide +kernel
theorem dX8_storm_48 : decode cX8_storm 48 = .ok (.iinc 5 1, 3) := by decide +kernel
theorem dX8_storm_51 : decode cX8_storm 51 = .ok (.goto (-21), 3) := by decide +kernel
theorem dX8_storm_54 : decode cX8_storm 54 = .ok (.lload_n 3, 1) := by decide +kernel
theorem dX8_storm_55 : decode cX8_storm 55 = .ok (.l2i, 1) := by decide +kernel
theorem dX8_storm_56 : decode cX8_storm 56 = .ok (.ireturn, 1) := by decide +kernel
set_option maxRecDepth 20000 in
theorem ggX8_find_X8_isGood : GoodIn wsX8_find wsX8_isGood := goodIn_r _ [10, 11, 12, 13, 9, 14, 15, 16, 17, 18, 19, 20, 21, 22, 23, 24, 25, 26, 27, 28, 29, 30, 31, 32, 33, 34, 35, 36, 37, 38, 39, 40, 41] (by decide +kernel) (by decide +kernel)
set_option maxRecDepth 20000 in
theorem gX8_find_X8_isGood : GoodIn wsX8_find (wsV RX8 162 RX8 yX8_isGood wsX8_isGood) := goodIn_app (goodIn_of _ (by decide +kernel)) ggX8_find_X8_isGood
set_option maxRecDepth 20000 in
theorem ggX8_find_X8_in : GoodIn wsX8_find wsX8_in := goodIn_r _ [14] (by decide +kernel) (by decide +kernel)
set_option maxRecDepth 20000 in
theorem gX8_find_X8_in : GoodIn wsX8_find (va_wsS RX8 72 yX8_in wsX8_in) := goodIn_app (goodIn_of _ (by decide +kernel)) ggX8_find_X8_in
theorem dX8_find_0 : decode cX8_find 0 = .ok (.iload_n 1, 1) := by decide +kernel
theorem dX8_find_1 : decode cX8_find 1 = .ok (.ifCond .ne 14, 3) := by decide +kernel
theorem dX8_find_4 : decode cX8_find 4 = .ok (.aload_n 0, 1) := by decide +kernel
theorem dX8_find_5 : decode cX8_find 5 = .ok (.iload_n 2, 1) := by decide +kernel
theorem dX8_find_6 : decode cX8_find 6 = .ok (.invokevirtual 162, 3) := by decide +kernel
theorem dX8_find_9 : decode cX8_find 9 = .ok (.ifCond .ne 6, 3) := by decide +kernel
theorem dX8_find_12 : decode cX8_find 12 = .ok (.ldc 152, 2) := by decide +kernel
theorem dX8_find_14 : decode cX8_find 14 = .ok (.ireturn, 1) := by decide +kernel
theorem dX8_find_15 : decode cX8_find 15 = .ok (.iload_n 1, 1) := by decide +kernel
theorem dX8_find_16 : decode cX8_find 16 = .ok (.iconst 0, 1) := by decide +kernel
theorem dX8_find_17 : decode cX8_find 17 = .ok (.iconst 1, 1) := by decide +kernel
theorem dX8_find_18 : decode cX8_find 18 = .ok (.invokestatic 72, 3) := by decide +kernel
theorem dX8_find_21 : decode cX8_find 21 = .ok (.ifCond .eq 23, 3) := by decide +kernel
theorem dX8_find_24 : decode cX8_find 24 = .ok (.iload_n 1, 1) := by decide +kernel
theorem dX8_find_25 : decode cX8_find 25 = .ok (.iconst 1, 1) := by decide +kernel
theorem dX8_find_26 : decode cX8_find 26 = .ok (.if_icmp .ne 7, 3) := by decide +kernel
theorem dX8_find_29 : decode cX8_find 29 = .ok (.iload_n 2, 1) := by decide +kernel
theorem dX8_find_30 : decode cX8_find 30 = .ok (.ifCond .ne 14, 3) := by decide +kernel
theorem dX8_find_33 : decode cX8_find 33 = .ok (.iload_n 3, 1) := by decide +kernel
theorem dX8_find_34 : decode cX8_find 34 = .ok (.iconst 0, 1) := by decide +kernel
theorem dX8_find_35 : decode cX8_find 35 = .ok (.sipush 9999, 3) := by decide +kernel
theorem dX8_find_38 : decode cX8_find 38 = .ok (.invokestatic 72, 3) := by decide +kernel
theorem dX8_find_41 : decode cX8_find 41 = .ok (.ifCond .ne 6, 3) := by decide +kernel
theorem dX8_find_44 : decode cX8_find 44 = .ok (.ldc 76, 2) := by decide +kernel
theorem dX8_find_46 : decode cX8_find 46 = .ok (.ireturn, 1) := by decide +kernel
theorem dX8_find_47 : decode cX8_find 47 = .ok (.aload_n 0, 1) := by decide +kernel
theorem dX8_find_48 : decode cX8_find 48 = .ok (.getfield 131, 3) := by decide +kernel
theorem dX8_find_51 : decode cX8_find 51 = .ok (.bipush 6, 2) := by decide +kernel
theorem dX8_find_53 : decode cX8_find 53 = .ok (.if_icmp .ne 6, 3) := by decide +kernel
theorem dX8_find_56 : decode cX8_find 56 = .ok (.ldc 80, 2) := by decide +kernel
theorem dX8_find_58 : decode cX8_find 58 = .ok (.ireturn, 1) := by decide +kernel
theorem dX8_find_59 : decode cX8_find 59 = .ok (.aload_n 0, 1) := by decide +kernel
theorem dX8_find_60 : decode cX8_find 60 = .ok (.getfield 57, 3) := by decide +kernel
theorem dX8_find_63 : decode cX8_find 63 = .ok (.iconst 3, 1) := by decide +kernel
theorem dX8_find_64 : decode cX8_find 64 = .ok (.aload_n 0, 1) := by decide +kernel
theorem dX8_find_65 : decode cX8_find 65 = .ok (.getfield 131, 3) := by decide +kernel
theorem dX8_find_68 : decode cX8_find 68 = .ok (.imul, 1) := by decide +kernel
theorem dX8_find_69 : decode cX8_find 69 = .ok (.iload_n 1, 1) := by decide +kernel
theorem dX8_find_70 : decode cX8_find 70 = .ok (.iastore, 1) := by decide +kernel
theorem dX8_find_71 : decode cX8_find 71 = .ok (.aload_n 0, 1) := by decide +kernel
theorem dX8_find_72 : decode cX8_find 72 = .ok (.getfield 57, 3) := by decide +kernel
theorem dX8_find_75 : decode cX8_find 75 = .ok (.iconst 3, 1) := by decide +kernel
theorem dX8_find_76 : decode cX8_find 76 = .ok (.aload_n 0, 1) := by decide +kernel
theorem dX8_find_77 : decode cX8_find 77 = .ok (.getfield 131, 3) := by decide +kernel
theorem dX8_find_80 : decode cX8_find 80 = .ok (.imul, 1) := by decide +kernel
theorem dX8_find_81 : decode cX8_find 81 = .ok (.iconst 1, 1) := by decide +kernel
theorem dX8_find_82 : decode cX8_find 82 = .ok (.iadd, 1) := by decide +kernel
theorem dX8_find_83 : decode cX8_find 83 = .ok (.iload_n 2, 1) := by decide +kernel
theorem dX8_find_84 : decode cX8_find 84 = .ok (.iastore, 1) := by decide +kernel
theorem dX8_find_85 : decode cX8_find 85 = .ok (.aload_n 0, 1) := by decide +kernel
theorem dX8_find_86 : decode cX8_find 86 = .ok (.getfield 57, 3) := by decide +kernel
theorem dX8_find_89 : decode cX8_find 89 = .ok (.iconst 3, 1) := by decide +kernel
theorem dX8_find_90 : decode cX8_find 90 = .ok (.aload_n 0, 1) := by decide +kernel
theorem dX8_find_91 : decode cX8_find 91 = .ok (.getfield 131, 3) := by decide +kernel
theorem dX8_find_94 : decode cX8_find 94 = .ok (.imul, 1) := by decide +kernel
theorem dX8_find_95 : decode cX8_find 95 = .ok (.iconst 2, 1) := by decide +kernel
theorem dX8_find_96 : decode cX8_find 96 = .ok (.iadd, 1) := by decide +kernel
theorem dX8_find_97 : decode cX8_find 97 = .ok (.iload_n 3, 1) := by decide +kernel
theorem dX8_find_98 : decode cX8_find 98 = .ok (.iastore, 1) := by decide +kernel
theorem dX8_find_99 : decode cX8_find 99 = .ok (.aload_n 0, 1) := by decide +kernel
theorem dX8_find_100 : decode cX8_find 100 = .ok (.dup, 1) := by decide +kernel
theorem dX8_find_101 : decode cX8_find 101 = .ok (.getfield 131, 3) := by decide +kernel
theorem dX8_find_104 : decode cX8_find 104 = .ok (.iconst 1, 1) := by decide +kernel
theorem dX8_find_105 : decode cX8_find 105 = .ok (.iadd, 1) := by decide +kernel
theorem dX8_find_106 : decode cX8_find 106 = .ok (.putfield 131, 3) := by decide +kernel
theorem dX8_find_109 : decode cX8_find 109 = .ok (.aload_n 0, 1) := by decide +kernel
theorem dX8_find_110 : decode cX8_find 110 = .ok (.getfield 131, 3) := by decide +kernel
theorem dX8_find_113 : decode cX8_find 113 = .ok (.ireturn, 1) := by decide +kernel
theorem dX8_isSo_0 : decode cX8_isSo 0 = .ok (.iconst 1, 1) := by decide +kernel
theorem dX8_isSo_1 : decode cX8_isSo 1 = .ok (.istore_n 2, 1) := by decide +kernel
theorem dX8_isSo_2 : decode cX8_isSo 2 = .ok (.iconst 0, 1) := by decide +kernel
theorem dX8_isSo_3 : decode cX8_isSo 3 = .ok (.istore_n 3, 1) := by decide +kernel
theorem dX8_isSo_4 : decode cX8_isSo 4 = .ok (.iload_n 3, 1) := by decide +kernel
theorem dX8_isSo_5 : decode cX8_isSo 5 = .ok (.aload_n 0, 1) := by decide +kernel
theorem dX8_isSo_6 : decode cX8_isSo 6 = .ok (.getfield 131, 3) := by decide +kernel
theorem dX8_isSo_9 : decode cX8_isSo 9 = .ok (.if_icmp .ge 73, 3) := by decide +kernel
theorem dX8_isSo_12 : decode cX8_isSo 12 = .ok (.aload_n 0, 1) := by decide +kernel
theorem dX8_isSo_13 : decode cX8_isSo 13 = .ok (.getfield 57, 3) := by decide +kernel
theorem dX8_isSo_16 : decode cX8_isSo 16 = .ok (.iconst 3, 1) := by decide +kernel
theorem dX8_isSo_17 : decode cX8_isSo 17 = .ok (.iload_n 3, 1) := by decide +kernel
theorem dX8_isSo_18 : decode cX8_isSo 18 = .ok (.imul, 1) := by decide +kernel
theorem dX8_isSo_19 : decode cX8_isSo 19 = .ok (.iaload, 1) := by decide +kernel
theorem dX8_isSo_20 : decode cX8_isSo 20 = .ok (.ifCond .ne 21, 3) := by decide +kernel
theorem dX8_isSo_23 : decode cX8_isSo 23 = .ok (.aload_n 0, 1) := by decide +kernel
theorem dX8_isSo_24 : decode cX8_isSo 24 = .ok (.getfield 63, 3) := by decide +kernel
theorem dX8_isSo_27 : decode cX8_isSo 27 = .ok (.aload_n 0, 1) := by decide +kernel
theorem dX8_isSo_28 : decode cX8_isSo 28 = .ok (.getfield 57, 3) := by decide +kernel
theorem dX8_isSo_31 : decode cX8_isSo 31 = .ok (.iconst 3, 1) := by decide +kernel
theorem dX8_isSo_32 : decode cX8_isSo 32 = .ok (.iload_n 3, 1) := by decide +kernel
theorem dX8_isSo_33 : decode cX8_isSo 33 = .ok (.imul, 1) := by decide +kernel
theorem dX8_isSo_34 : decode cX8_isSo 34 = .ok (.iconst 1, 1) := by decide +kernel
theorem dX8_isSo_35 : decode cX8_isSo 35 = .ok (.iadd, 1) := by decide +kernel
theorem dX8_isSo_36 : decode cX8_isSo 36 = .ok (.iaload, 1) := by decide +kernel
theorem dX8_isSo_37 : decode cX8_isSo 37 = .ok (.iaload, 1) := by decide +kernel
theorem dX8_isSo_38 : decode cX8_isSo 38 = .ok (.goto 11, 3) := by decide +kernel
theorem dX8_isSo_41 : decode cX8_isSo 41 = .ok (.iload_n 1, 1) := by decide +kernel
theorem dX8_isSo_42 : decode cX8_isSo 42 = .ok (.aload_n 0, 1) := by decide +kernel
theorem dX8_isSo_43 : decode cX8_isSo 43 = .ok (.getfield 17, 3) := by decide +kernel
theorem dX8_isSo_46 : decode cX8_isSo 46 = .ok (.iconst 1, 1) := by decide +kernel
theorem dX8_isSo_47 : decode cX8_isSo 47 = .ok (.iaload, 1) := by decide +kernel
theorem dX8_isSo_48 : decode cX8_isSo 48 = .ok (.idiv, 1) := by decide +kernel
theorem dX8_isSo_49 : decode cX8_isSo 49 = .ok (.istore 4, 2) := by decide +kernel
theorem dX8_isSo_51 : decode cX8_isSo 51 = .ok (.iload_n 2, 1) := by decide +kernel
theorem dX8_isSo_52 : decode cX8_isSo 52 = .ok (.ifCond .eq 22, 3) := by decide +kernel
theorem dX8_isSo_55 : decode cX8_isSo 55 = .ok (.iload 4, 2) := by decide +kernel
theorem dX8_isSo_57 : decode cX8_isSo 57 = .ok (.aload_n 0, 1) := by decide +kernel
theorem dX8_isSo_58 : decode cX8_isSo 58 = .ok (.getfield 57, 3) := by decide +kernel
theorem dX8_isSo_61 : decode cX8_isSo 61 = .ok (.iconst 3, 1) := by decide +kernel
theorem dX8_isSo_62 : decode cX8_isSo 62 = .ok (.iload_n 3, 1) := by decide +kernel
theorem dX8_isSo_63 : decode cX8_isSo 63 = .ok (.imul, 1) := by decide +kernel
theorem dX8_isSo_64 : decode cX8_isSo 64 = .ok (.iconst 2, 1) := by decide +kernel
theorem dX8_isSo_65 : decode cX8_isSo 65 = .ok (.iadd, 1) := by decide +kernel
theorem dX8_isSo_66 : decode cX8_isSo 66 = .ok (.iaload, 1) := by decide +kernel
theorem dX8_isSo_67 : decode cX8_isSo 67 = .ok (.if_icmp .ne 7, 3) := by decide +kernel
theorem dX8_isSo_70 : decode cX8_isSo 70 = .ok (.iconst 1, 1) := by decide +kernel
theorem dX8_isSo_71 : decode cX8_isSo 71 = .ok (.goto 4, 3) := by decide +kernel
theorem dX8_isSo_74 : decode cX8_isSo 74 = .ok (.iconst 0, 1) := by decide +kernel
theorem dX8_isSo_75 : decode cX8_isSo 75 = .ok (.istore_n 2, 1) := by decide +kernel
theorem dX8_isSo_76 : decode cX8_isSo 76 = .ok (.iinc 3 1, 3) := by decide +kernel
theorem dX8_isSo_79 : decode cX8_isSo 79 = .ok (.goto (-75), 3) := by decide +kernel
theorem dX8_isSo_82 : decode cX8_isSo 82 = .ok (.iload_n 2, 1) := by decide +kernel
theorem dX8_isSo_83 : decode cX8_isSo 83 = .ok (.ireturn, 1) := by decide +kernel
set_option maxRecDepth 20000 in
theorem ggX8_lays_X8_isSo : GoodIn wsX8_lays wsX8_isSo := goodIn_r _ [11, 12, 13, 2, 1, 22, 23, 24, 25, 26, 27, 28, 29, 30, 31, 32, 33, 34, 35, 36, 37, 38, 39, 40, 41, 42, 43, 44, 45, 46, 47, 48] (by decide +kernel) (by decide +kernel)
set_option maxRecDepth 20000 in
theorem gX8_lays_X8_isSo : GoodIn wsX8_lays (wsV RX8 219 RX8 yX8_isSo wsX8_isSo) := goodIn_app (goodIn_of _ (by decide +kernel)) ggX8_lays_X8_isSo
set_option maxRecDepth 20000 in
theorem ggX8_lays_X8_worthIn : GoodIn wsX8_lays wsX8_worthIn := goodIn_r _ [17, 18, 19, 20, 10, 21, 3, 22, 23, 24, 25, 26, 27, 28, 29, 30, 31, 32, 33, 34, 35, 36, 37, 38, 39, 40, 41, 42, 43, 44, 45, 46, 47, 48] (by decide +kernel) (by decide +kernel)
set_option maxRecDepth 20000 in
theorem gX8_lays_X8_worthIn : GoodIn wsX8_lays (wsV RX8 211 RX8 yX8_worthIn wsX8_worthIn) := goodIn_app (goodIn_of _ (by decide +kernel)) ggX8_lays_X8_worthIn
theorem dX8_lays_0 : decode cX8_lays 0 = .ok (.iconst 0, 1) := by decide +kernel
theorem dX8_lays_1 : decode cX8_lays 1 = .ok (.istore_n 1, 1) := by decide +kernel
theorem dX8_lays_2 : decode cX8_lays 2 = .ok (.iconst 0, 1) := by decide +kernel
theorem dX8_lays_3 : decode cX8_lays 3 = .ok (.istore_n 2, 1) := by decide +kernel
theorem dX8_lays_4 : decode cX8_lays 4 = .ok (.iload_n 2, 1) := by decide +kernel
theorem dX8_lays_5 : decode cX8_lays 5 = .ok (.aload_n 0, 1) := by decide +kernel
theorem dX8_lays_6 : decode cX8_lays 6 = .ok (.getfield 17, 3) := by decide +kernel
theorem dX8_lays_9 : decode cX8_lays 9 = .ok (.iconst 2, 1) := by decide +kernel
theorem dX8_lays_10 : decode cX8_lays 10 = .ok (.iaload, 1) := by decide +kernel
theorem dX8_lays_11 : decode cX8_lays 11 = .ok (.if_icmp .ge 170, 3) := by decide +kernel
theorem dX8_lays_14 : decode cX8_lays 14 = .ok (.iconst 0, 1) := by decide +kernel
theorem dX8_lays_15 : decode cX8_lays 15 = .ok (.istore_n 3, 1) := by decide +kernel
theorem dX8_lays_16 : decode cX8_lays 16 = .ok (.iload_n 3, 1) := by decide +kernel
theorem dX8_lays_17 : decode cX8_lays 17 = .ok (.aload_n 0, 1) := by decide +kernel
theorem dX8_lays_18 : decode cX8_lays 18 = .ok (.getfield 17, 3) := by decide +kernel
theorem dX8_lays_21 : decode cX8_lays 21 = .ok (.iconst 4, 1) := by decide +kernel
theorem dX8_lays_22 : decode cX8_lays 22 = .ok (.iaload, 1) := by decide +kernel
theorem dX8_lays_23 : decode cX8_lays 23 = .ok (.if_icmp .ge 23, 3) := by decide +kernel
theorem dX8_lays_26 : decode cX8_lays 26 = .ok (.aload_n 0, 1) := by decide +kernel
theorem dX8_lays_27 : decode cX8_lays 27 = .ok (.getfield 63, 3) := by decide +kernel
theorem dX8_lays_30 : decode cX8_lays 30 = .ok (.iload_n 3, 1) := by decide +kernel
theorem dX8_lays_31 : decode cX8_lays 31 = .ok (.aload_n 0, 1) := by decide +kernel
theorem dX8_lays_32 : decode cX8_lays 32 = .ok (.getfield 26, 3) := by decide +kernel
theorem dX8_lays_35 : decode cX8_lays 35 = .ok (.iconst 3, 1) := by decide +kernel
theorem dX8_lays_36 : decode cX8_lays 36 = .ok (.iload_n 3, 1) := by decide +kernel
theorem dX8_lays_37 : decode cX8_lays 37 = .ok (.imul, 1) := by decide +kernel
theorem dX8_lays_38 : decode cX8_lays 38 = .ok (.iaload, 1) := by decide +kernel
theorem dX8_lays_39 : decode cX8_lays 39 = .ok (.iastore, 1) := by decide +kernel
theorem dX8_lays_40 : decode cX8_lays 40 = .ok (.iinc 3 1, 3) := by decide +kernel
theorem dX8_lays_43 : decode cX8_lays 43 = .ok (.goto (-27), 3) := by decide +kernel
theorem dX8_lays_46 : decode cX8_lays 46 = .ok (.iconst 0, 1) := by decide +kernel
theorem dX8_lays_47 : decode cX8_lays 47 = .ok (.istore_n 3, 1) := by decide +kernel
theorem dX8_lays_48 : decode cX8_lays 48 = .ok (.iload_n 3, 1) := by decide +kernel
theorem dX8_lays_49 : decode cX8_lays 49 = .ok (.bipush 31, 2) := by decide +kernel
theorem dX8_lays_51 : decode cX8_lays 51 = .ok (.if_icmp .ge 124, 3) := by decide +kernel
theorem dX8_lays_54 : decode cX8_lays 54 = .ok (.aload_n 0, 1) := by decide +kernel
theorem dX8_lays_55 : decode cX8_lays 55 = .ok (.iload_n 3, 1) := by decide +kernel
theorem dX8_lays_56 : decode cX8_lays 56 = .ok (.aload_n 0, 1) := by decide +kernel
theorem dX8_lays_57 : decode cX8_lays 57 = .ok (.getfield 20, 3) := by decide +kernel
theorem dX8_lays_60 : decode cX8_lays 60 = .ok (.iload_n 2, 1) := by decide +kernel
theorem dX8_lays_61 : decode cX8_lays 61 = .ok (.iaload, 1) := by decide +kernel
theorem dX8_lays_62 : decode cX8_lays 62 = .ok (.imul, 1) := by decide +kernel
theorem dX8_lays_63 : decode cX8_lays 63 = .ok (.invokevirtual 219, 3) := by decide +kernel
theorem dX8_lays_66 : decode cX8_lays 66 = .ok (.ifCond .eq 57, 3) := by decide +kernel
theorem dX8_lays_69 : decode cX8_lays 69 = .ok (.aload_n 0, 1) := by decide +kernel
theorem dX8_lays_70 : decode cX8_lays 70 = .ok (.getfield 66, 3) := by decide +kernel
theorem dX8_lays_73 : decode cX8_lays 73 = .ok (.iload_n 1, 1) := by decide +kernel
theorem dX8_lays_74 : decode cX8_lays 74 = .ok (.bipush 100, 2) := by decide +kernel
theorem dX8_lays_76 : decode cX8_lays 76 = .ok (.iload_n 2, 1) := by decide +kernel
theorem dX8_lays_77 : decode cX8_lays 77 = .ok (.imul, 1) := by decide +kernel
theorem dX8_lays_78 : decode cX8_lays 78 = .ok (.iload_n 3, 1) := by decide +kernel
theorem dX8_lays_79 : decode cX8_lays 79 = .ok (.iadd, 1) := by decide +kernel
theorem dX8_lays_80 : decode cX8_lays 80 = .ok (.iastore, 1) := by decide +kernel
theorem dX8_lays_81 : decode cX8_lays 81 = .ok (.iconst 0, 1) := by decide +kernel
theorem dX8_lays_82 : decode cX8_lays 82 = .ok (.istore 4, 2) := by decide +kernel
theorem dX8_lays_84 : decode cX8_lays 84 = .ok (.iload 4, 2) := by decide +kernel
theorem dX8_lays_86 : decode cX8_lays 86 = .ok (.aload_n 0, 1) := by decide +kernel
theorem dX8_lays_87 : decode cX8_lays 87 = .ok (.getfield 17, 3) := by decide +kernel
theorem dX8_lays_90 : decode cX8_lays 90 = .ok (.iconst 4, 1) := by decide +kernel
theorem dX8_lays_91 : decode cX8_lays 91 = .ok (.iaload, 1) := by decide +kernel
theorem dX8_lays_92 : decode cX8_lays 92 = .ok (.if_icmp .ge 28, 3) := by decide +kernel
theorem dX8_lays_95 : decode cX8_lays 95 = .ok (.aload_n 0, 1) := by decide +kernel
theorem dX8_lays_96 : decode cX8_lays 96 = .ok (.getfield 69, 3) := by decide +kernel
theorem dX8_lays_99 : decode cX8_lays 99 = .ok (.bipush 6, 2) := by decide +kernel
theorem dX8_lays_101 : decode cX8_lays 101 = .ok (.iload_n 1, 1) := by decide +kernel
theorem dX8_lays_102 : decode cX8_lays 102 = .ok (.imul, 1) := by decide +kernel
theorem dX8_lays_103 : decode cX8_lays 103 = .ok (.iload 4, 2) := by decide +kernel
theorem dX8_lays_105 : decode cX8_lays 105 = .ok (.iadd, 1) := by decide +kernel
theorem dX8_lays_106 : decode cX8_lays 106 = .ok (.aload_n 0, 1) := by decide +kernel
theorem dX8_lays_107 : decode cX8_lays 107 = .ok (.getfield 63, 3) := by decide +kernel
theorem dX8_lays_110 : decode cX8_lays 110 = .ok (.iload 4, 2) := by decide +kernel
theorem dX8_lays_112 : decode cX8_lays 112 = .ok (.iaload, 1) := by decide +kernel
theorem dX8_lays_113 : decode cX8_lays 113 = .ok (.iastore, 1) := by decide +kernel
theorem dX8_lays_114 : decode cX8_lays 114 = .ok (.iinc 4 1, 3) := by decide +kernel
theorem dX8_lays_117 : decode cX8_lays 117 = .ok (.goto (-33), 3) := by decide +kernel
theorem dX8_lays_120 : decode cX8_lays 120 = .ok (.iinc 1 1, 3) := by decide +kernel
theorem dX8_lays_123 : decode cX8_lays 123 = .ok (.iconst 0, 1) := by decide +kernel
theorem dX8_lays_124 : decode cX8_lays 124 = .ok (.istore 4, 2) := by decide +kernel
theorem dX8_lays_126 : decode cX8_lays 126 = .ok (.iload 4, 2) := by decide +kernel
theorem dX8_lays_128 : decode cX8_lays 128 = .ok (.aload_n 0, 1) := by decide +kernel
theorem dX8_lays_129 : decode cX8_lays 129 = .ok (.getfield 17, 3) := by decide +kernel
theorem dX8_lays_132 : decode cX8_lays 132 = .ok (.iconst 4, 1) := by decide +kernel
theorem dX8_lays_133 : decode cX8_lays 133 = .ok (.iaload, 1) := by decide +kernel
theorem dX8_lays_134 : decode cX8_lays 134 = .ok (.if_icmp .ge 35, 3) := by decide +kernel
theorem dX8_lays_137 : decode cX8_lays 137 = .ok (.aload_n 0, 1) := by decide +kernel
theorem dX8_lays_138 : decode cX8_lays 138 = .ok (.getfield 63, 3) := by decide +kernel
theorem dX8_lays_141 : decode cX8_lays 141 = .ok (.iload 4, 2) := by decide +kernel
theorem dX8_lays_143 : decode cX8_lays 143 = .ok (.aload_n 0, 1) := by decide +kernel
theorem dX8_lays_144 : decode cX8_lays 144 = .ok (.iload 4, 2) := by decide +kernel
theorem dX8_lays_146 : decode cX8_lays 146 = .ok (.aload_n 0, 1) := by decide +kernel
theorem dX8_lays_147 : decode cX8_lays 147 = .ok (.getfield 63, 3) := by decide +kernel
theorem dX8_lays_150 : decode cX8_lays 150 = .ok (.iload 4, 2) := by decide +kernel
theorem dX8_lays_152 : decode cX8_lays 152 = .ok (.iaload, 1) := by decide +kernel
theorem dX8_lays_153 : decode cX8_lays 153 = .ok (.aload_n 0, 1) := by decide +kernel
theorem dX8_lays_154 : decode cX8_lays 154 = .ok (.getfield 20, 3) := by decide +kernel
theorem dX8_lays_157 : decode cX8_lays 157 = .ok (.iload_n 2, 1) := by decide +kernel
theorem dX8_lays_158 : decode cX8_lays 158 = .ok (.iaload, 1) := by decide +kernel
theorem dX8_lays_159 : decode cX8_lays 159 = .ok (.invokevirtual 211, 3) := by decide +kernel
theorem dX8_lays_162 : decode cX8_lays 162 = .ok (.iastore, 1) := by decide +kernel
theorem dX8_lays_163 : decode cX8_lays 163 = .ok (.iinc 4 1, 3) := by decide +kernel
theorem dX8_lays_166 : decode cX8_lays 166 = .ok (.goto (-40), 3) := by decide +kernel
theorem dX8_lays_169 : decode cX8_lays 169 = .ok (.iinc 3 1, 3) := by decide +kernel
theorem dX8_lays_172 : decode cX8_lays 172 = .ok (.goto (-124), 3) := by decide +kernel
theorem dX8_lays_175 : decode cX8_lays 175 = .ok (.iinc 2 1, 3) := by decide +kernel
theorem dX8_lays_178 : decode cX8_lays 178 = .ok (.goto (-174), 3) := by decide +kernel
theorem dX8_lays_181 : decode cX8_lays 181 = .ok (.iload_n 1, 1) := by decide +kernel
theorem dX8_lays_182 : decode cX8_lays 182 = .ok (.ireturn, 1) := by decide +kernel
set_option maxRecDepth 20000 in
theorem ggX8_stays_X8_lays : GoodIn wsX8_stays wsX8_lays := goodIn_r _ [6, 7, 8, 9, 10, 1, 11, 12, 13, 14, 5, 15, 16, 17, 18, 19, 20, 21, 22, 23, 24, 25, 29, 30, 31, 32, 33, 34, 35, 36, 37, 38, 39, 40, 41, 42, 43, 44, 45, 46, 47, 48, 49, 50, 51, 52, 53, 54, 55] (by decide +kernel) (by decide +kernel)
set_option maxRecDepth 20000 in
theorem gX8_stays_X8_lays : GoodIn wsX8_stays (wsV RX8 222 RX8 yX8_lays wsX8_lays) := goodIn_app (goodIn_of _ (by decide +kernel)) ggX8_stays_X8_lays
set_option maxRecDepth 20000 in
theorem ggX8_stays_X8_in : GoodIn wsX8_stays wsX8_in := goodIn_r _ [28] (by decide +kernel) (by decide +kernel)
set_option maxRecDepth 20000 in
theorem gX8_stays_X8_in : GoodIn wsX8_stays (va_wsS RX8 72 yX8_in wsX8_in) := goodIn_app (goodIn_of _ (by decide +kernel)) ggX8_stays_X8_in
theorem dX8_stays_0 : decode cX8_stays 0 = .ok (.aload_n 0, 1) := by decide +kernel
theorem dX8_stays_1 : decode cX8_stays 1 = .ok (.invokevirtual 222, 3) := by decide +kernel
theorem dX8_stays_4 : decode cX8_stays 4 = .ok (.istore_n 2, 1) := by decide +kernel
theorem dX8_stays_5 : decode cX8_stays 5 = .ok (.iload_n 1, 1) := by decide +kernel
theorem dX8_stays_6 : decode cX8_stays 6 = .ok (.iconst (-1), 1) := by decide +kernel
theorem dX8_stays_7 : decode cX8_stays 7 = .ok (.if_icmp .ne 7, 3) := by decide +kernel
theorem dX8_stays_10 : decode cX8_stays 10 = .ok (.iload_n 2, 1) := by decide +kernel
theorem dX8_stays_11 : decode cX8_stays 11 = .ok (.goto 24, 3) := by decide +kernel
theorem dX8_stays_14 : decode cX8_stays 14 = .ok (.iload_n 1, 1) := by decide +kernel
theorem dX8_stays_15 : decode cX8_stays 15 = .ok (.iconst 0, 1) := by decide +kernel
theorem dX8_stays_16 : decode cX8_stays 16 = .ok (.iload_n 2, 1) := by decide +kernel
theorem dX8_stays_17 : decode cX8_stays 17 = .ok (.iconst 1, 1) := by decide +kernel
theorem dX8_stays_18 : decode cX8_stays 18 = .ok (.isub, 1) := by decide +kernel
theorem dX8_stays_19 : decode cX8_stays 19 = .ok (.invokestatic 72, 3) := by decide +kernel
theorem dX8_stays_22 : decode cX8_stays 22 = .ok (.ifCond .eq 12, 3) := by decide +kernel
theorem dX8_stays_25 : decode cX8_stays 25 = .ok (.aload_n 0, 1) := by decide +kernel
theorem dX8_stays_26 : decode cX8_stays 26 = .ok (.getfield 66, 3) := by decide +kernel
theorem dX8_stays_29 : decode cX8_stays 29 = .ok (.iload_n 1, 1) := by decide +kernel
theorem dX8_stays_30 : decode cX8_stays 30 = .ok (.iaload, 1) := by decide +kernel
theorem dX8_stays_31 : decode cX8_stays 31 = .ok (.goto 4, 3) := by decide +kernel
theorem dX8_stays_34 : decode cX8_stays 34 = .ok (.iconst (-1), 1) := by decide +kernel
theorem dX8_stays_35 : decode cX8_stays 35 = .ok (.ireturn, 1) := by decide +kernel
set_option maxRecDepth 20000 in
theorem ggX8_ask_X8_lays : GoodIn wsX8_ask wsX8_lays := goodIn_r _ [7, 1, 8, 9, 10, 11, 2, 12, 13, 14, 6, 15, 16, 17, 18, 19, 20, 21, 22, 23, 24, 25, 26, 27, 28, 29, 30, 31, 32, 33, 34, 35, 36, 37, 38, 39, 40, 41, 42, 43, 44, 45, 46, 47, 48, 49, 50, 51, 52] (by decide +kernel) (by decide +kernel)
set_option maxRecDepth 20000 in
theorem gX8_ask_X8_lays : GoodIn wsX8_ask (wsV RX8 222 RX8 yX8_lays wsX8_lays) := goodIn_app (goodIn_of _ (by decide +kernel)) ggX8_ask_X8_lays
theorem dX8_ask_0 : decode cX8_ask 0 = .ok (.aload_n 0, 1) := by decide +kernel
theorem dX8_ask_1 : decode cX8_ask 1 = .ok (.invokevirtual 222, 3) := by decide +kernel
theorem dX8_ask_4 : decode cX8_ask 4 = .ok (.istore_n 1, 1) := by decide +kernel
theorem dX8_ask_5 : decode cX8_ask 5 = .ok (.iconst (-1), 1) := by decide +kernel
theorem dX8_ask_6 : decode cX8_ask 6 = .ok (.istore_n 2, 1) := by decide +kernel
theorem dX8_ask_7 : decode cX8_ask 7 = .ok (.iload_n 1, 1) := by decide +kernel
theorem dX8_ask_8 : decode cX8_ask 8 = .ok (.istore_n 3, 1) := by decide +kernel
theorem dX8_ask_9 : decode cX8_ask 9 = .ok (.iconst 0, 1) := by decide +kernel
theorem dX8_ask_10 : decode cX8_ask 10 = .ok (.istore 4, 2) := by decide +kernel
theorem dX8_ask_12 : decode cX8_ask 12 = .ok (.iload 4, 2) := by decide +kernel
theorem dX8_ask_14 : decode cX8_ask 14 = .ok (.aload_n 0, 1) := by decide +kernel
theorem dX8_ask_15 : decode cX8_ask 15 = .ok (.getfield 17, 3) := by decide +kernel
theorem dX8_ask_18 : decode cX8_ask 18 = .ok (.iconst 4, 1) := by decide +kernel
theorem dX8_ask_19 : decode cX8_ask 19 = .ok (.iaload, 1) := by decide +kernel
theorem dX8_ask_20 : decode cX8_ask 20 = .ok (.if_icmp .ge 126, 3) := by decide +kernel
theorem dX8_ask_23 : decode cX8_ask 23 = .ok (.iconst 0, 1) := by decide +kernel
theorem dX8_ask_24 : decode cX8_ask 24 = .ok (.istore 5, 2) := by decide +kernel
theorem dX8_ask_26 : decode cX8_ask 26 = .ok (.iconst 0, 1) := by decide +kernel
theorem dX8_ask_27 : decode cX8_ask 27 = .ok (.istore 6, 2) := by decide +kernel
theorem dX8_ask_29 : decode cX8_ask 29 = .ok (.iload 6, 2) := by decide +kernel
theorem dX8_ask_31 : decode cX8_ask 31 = .ok (.iload_n 1, 1) := by decide +kernel
theorem dX8_ask_32 : decode cX8_ask 32 = .ok (.if_icmp .ge 82, 3) := by decide +kernel
theorem dX8_ask_35 : decode cX8_ask 35 = .ok (.iconst 0, 1) := by decide +kernel
theorem dX8_ask_36 : decode cX8_ask 36 = .ok (.istore 7, 2) := by decide +kernel
theorem dX8_ask_38 : decode cX8_ask 38 = .ok (.iconst 0, 1) := by decide +kernel
theorem dX8_ask_39 : decode cX8_ask 39 = .ok (.istore 8, 2) := by decide +kernel
theorem dX8_ask_41 : decode cX8_ask 41 = .ok (.iload 8, 2) := by decide +kernel
theorem dX8_ask_43 : decode cX8_ask 43 = .ok (.iload_n 1, 1) := by decide +kernel
theorem dX8_ask_44 : decode cX8_ask 44 = .ok (.if_icmp .ge 48, 3) := by decide +kernel
theorem dX8_ask_47 : decode cX8_ask 47 = .ok (.iload 7, 2) := by decide +kernel
theorem dX8_ask_49 : decode cX8_ask 49 = .ok (.aload_n 0, 1) := by decide +kernel
theorem dX8_ask_50 : decode cX8_ask 50 = .ok (.getfield 69, 3) := by decide +kernel
theorem dX8_ask_53 : decode cX8_ask 53 = .ok (.bipush 6, 2) := by decide +kernel
theorem dX8_ask_55 : decode cX8_ask 55 = .ok (.iload 8, 2) := by decide +kernel
theorem dX8_ask_57 : decode cX8_ask 57 = .ok (.imul, 1) := by decide +kernel
theorem dX8_ask_58 : decode cX8_ask 58 = .ok (.iload 4, 2) := by decide +kernel
theorem dX8_ask_60 : decode cX8_ask 60 = .ok (.iadd, 1) := by decide +kernel
theorem dX8_ask_61 : decode cX8_ask 61 = .ok (.iaload, 1) := by decide +kernel
theorem dX8_ask_62 : decode cX8_ask 62 = .ok (.aload_n 0, 1) := by decide +kernel
theorem dX8_ask_63 : decode cX8_ask 63 = .ok (.getfield 69, 3) := by decide +kernel
theorem dX8_ask_66 : decode cX8_ask 66 = .ok (.bipush 6, 2) := by decide +kernel
theorem dX8_ask_68 : decode cX8_ask 68 = .ok (.iload 6, 2) := by decide +kernel
theorem dX8_ask_70 : decode cX8_ask 70 = .ok (.imul, 1) := by decide +kernel
theorem dX8_ask_71 : decode cX8_ask 71 = .ok (.iload 4, 2) := by decide +kernel
theorem dX8_ask_73 : decode cX8_ask 73 = .ok (.iadd, 1) := by decide +kernel
theorem dX8_ask_74 : decode cX8_ask 74 = .ok (.iaload, 1) := by decide +kernel
theorem dX8_ask_75 : decode cX8_ask 75 = .ok (.if_icmp .ne 7, 3) := by decide +kernel
theorem dX8_ask_78 : decode cX8_ask 78 = .ok (.iconst 1, 1) := by decide +kernel
theorem dX8_ask_79 : decode cX8_ask 79 = .ok (.goto 4, 3) := by decide +kernel
theorem dX8_ask_82 : decode cX8_ask 82 = .ok (.iconst 0, 1) := by decide +kernel
theorem dX8_ask_83 : decode cX8_ask 83 = .ok (.iadd, 1) := by decide +kernel
theorem dX8_ask_84 : decode cX8_ask 84 = .ok (.istore 7, 2) := by decide +kernel
theorem dX8_ask_86 : decode cX8_ask 86 = .ok (.iinc 8 1, 3) := by decide +kernel
theorem dX8_ask_89 : decode cX8_ask 89 = .ok (.goto (-48), 3) := by decide +kernel
theorem dX8_ask_92 : decode cX8_ask 92 = .ok (.iload 7, 2) := by decide +kernel
theorem dX8_ask_94 : decode cX8_ask 94 = .ok (.iload 5, 2) := by decide +kernel
theorem dX8_ask_96 : decode cX8_ask 96 = .ok (.if_icmp .le 8, 3) := by decide +kernel
theorem dX8_ask_99 : decode cX8_ask 99 = .ok (.iload 7, 2) := by decide +kernel
theorem dX8_ask_101 : decode cX8_ask 101 = .ok (.goto 5, 3) := by decide +kernel
theorem dX8_ask_104 : decode cX8_ask 104 = .ok (.iload 5, 2) := by decide +kernel
theorem dX8_ask_106 : decode cX8_ask 106 = .ok (.istore 5, 2) := by decide +kernel
theorem dX8_ask_108 : decode cX8_ask 108 = .ok (.iinc 6 1, 3) := by decide +kernel
theorem dX8_ask_111 : decode cX8_ask 111 = .ok (.goto (-82), 3) := by decide +kernel
theorem dX8_ask_114 : decode cX8_ask 114 = .ok (.iload 5, 2) := by decide +kernel
theorem dX8_ask_116 : decode cX8_ask 116 = .ok (.iload_n 3, 1) := by decide +kernel
theorem dX8_ask_117 : decode cX8_ask 117 = .ok (.if_icmp .ge 8, 3) := by decide +kernel
theorem dX8_ask_120 : decode cX8_ask 120 = .ok (.iload 4, 2) := by decide +kernel
theorem dX8_ask_122 : decode cX8_ask 122 = .ok (.goto 4, 3) := by decide +kernel
theorem dX8_ask_125 : decode cX8_ask 125 = .ok (.iload_n 2, 1) := by decide +kernel
theorem dX8_ask_126 : decode cX8_ask 126 = .ok (.istore_n 2, 1) := by decide +kernel
theorem dX8_ask_127 : decode cX8_ask 127 = .ok (.iload 5, 2) := by decide +kernel
theorem dX8_ask_129 : decode cX8_ask 129 = .ok (.iload_n 3, 1) := by decide +kernel
theorem dX8_ask_130 : decode cX8_ask 130 = .ok (.if_icmp .ge 8, 3) := by decide +kernel
theorem dX8_ask_133 : decode cX8_ask 133 = .ok (.iload 5, 2) := by decide +kernel
theorem dX8_ask_135 : decode cX8_ask 135 = .ok (.goto 4, 3) := by decide +kernel
theorem dX8_ask_138 : decode cX8_ask 138 = .ok (.iload_n 3, 1) := by decide +kernel
theorem dX8_ask_139 : decode cX8_ask 139 = .ok (.istore_n 3, 1) := by decide +kernel
theorem dX8_ask_140 : decode cX8_ask 140 = .ok (.iinc 4 1, 3) := by decide +kernel
theorem dX8_ask_143 : decode cX8_ask 143 = .ok (.goto (-131), 3) := by decide +kernel
theorem dX8_ask_146 : decode cX8_ask 146 = .ok (.iload_n 2, 1) := by decide +kernel
theorem dX8_ask_147 : decode cX8_ask 147 = .ok (.ireturn, 1) := by decide +kernel
set_option maxRecDepth 20000 in
theorem ggX8_write_X8_isPerson : GoodIn wsX8_write wsX8_isPerson := goodIn_r _ [10, 11, 12, 13, 9, 14, 15, 16, 17, 18, 19, 20, 21, 22, 23, 24, 25, 26, 27, 28, 29, 30, 31, 32, 33, 34, 35, 36, 37, 38, 39, 40, 41] (by decide +kernel) (by decide +kernel)
set_option maxRecDepth 20000 in
theorem gX8_write_X8_isPerson : GoodIn wsX8_write (wsV RX8 153 RX8 yX8_isPerson wsX8_isPerson) := goodIn_app (goodIn_of _ (by decide +kernel)) ggX8_write_X8_isPerson
set_option maxRecDepth 20000 in
theorem ggX8_write_X8_in : GoodIn wsX8_write wsX8_in := goodIn_r _ [14] (by decide +kernel) (by decide +kernel)
set_option maxRecDepth 20000 in
theorem gX8_write_X8_in : GoodIn wsX8_write (va_wsS RX8 72 yX8_in wsX8_in) := goodIn_app (goodIn_of _ (by decide +kernel)) ggX8_write_X8_in
theorem dX8_write_0 : decode cX8_write 0 = .ok (.aload_n 0, 1) := by decide +kernel
theorem dX8_write_1 : decode cX8_write 1 = .ok (.iload_n 1, 1) := by decide +kernel
theorem dX8_write_2 : decode cX8_write 2 = .ok (.invokevirtual 153, 3) := by decide +kernel
theorem dX8_write_5 : decode cX8_write 5 = .ok (.ifCond .ne 6, 3) := by decide +kernel
theorem dX8_write_8 : decode cX8_write 8 = .ok (.ldc 152, 2) := by decide +kernel
theorem dX8_write_10 : decode cX8_write 10 = .ok (.ireturn, 1) := by decide +kernel
theorem dX8_write_11 : decode cX8_write 11 = .ok (.iload_n 2, 1) := by decide +kernel
theorem dX8_write_12 : decode cX8_write 12 = .ok (.iconst 0, 1) := by decide +kernel
theorem dX8_write_13 : decode cX8_write 13 = .ok (.sipush 9999, 3) := by decide +kernel
theorem dX8_write_16 : decode cX8_write 16 = .ok (.invokestatic 72, 3) := by decide +kernel
theorem dX8_write_19 : decode cX8_write 19 = .ok (.ifCond .ne 6, 3) := by decide +kernel
theorem dX8_write_22 : decode cX8_write 22 = .ok (.ldc 76, 2) := by decide +kernel
theorem dX8_write_24 : decode cX8_write 24 = .ok (.ireturn, 1) := by decide +kernel
theorem dX8_write_25 : decode cX8_write 25 = .ok (.aload_n 0, 1) := by decide +kernel
theorem dX8_write_26 : decode cX8_write 26 = .ok (.getfield 134, 3) := by decide +kernel
theorem dX8_write_29 : decode cX8_write 29 = .ok (.bipush 15, 2) := by decide +kernel
theorem dX8_write_31 : decode cX8_write 31 = .ok (.if_icmp .ne 6, 3) := by decide +kernel
theorem dX8_write_34 : decode cX8_write 34 = .ok (.ldc 80, 2) := by decide +kernel
theorem dX8_write_36 : decode cX8_write 36 = .ok (.ireturn, 1) := by decide +kernel
theorem dX8_write_37 : decode cX8_write 37 = .ok (.aload_n 0, 1) := by decide +kernel
theorem dX8_write_38 : decode cX8_write 38 = .ok (.getfield 60, 3) := by decide +kernel
theorem dX8_write_41 : decode cX8_write 41 = .ok (.iconst 2, 1) := by decide +kernel
theorem dX8_write_42 : decode cX8_write 42 = .ok (.aload_n 0, 1) := by decide +kernel
theorem dX8_write_43 : decode cX8_write 43 = .ok (.getfield 134, 3) := by decide +kernel
theorem dX8_write_46 : decode cX8_write 46 = .ok (.imul, 1) := by decide +kernel
theorem dX8_write_47 : decode cX8_write 47 = .ok (.iload_n 1, 1) := by decide +kernel
theorem dX8_write_48 : decode cX8_write 48 = .ok (.iastore, 1) := by decide +kernel
theorem dX8_write_49 : decode cX8_write 49 = .ok (.aload_n 0, 1) := by decide +kernel
theorem dX8_write_50 : decode cX8_write 50 = .ok (.getfield 60, 3) := by decide +kernel
theorem dX8_write_53 : decode cX8_write 53 = .ok (.iconst 2, 1) := by decide +kernel
theorem dX8_write_54 : decode cX8_write 54 = .ok (.aload_n 0, 1) := by decide +kernel
theorem dX8_write_55 : decode cX8_write 55 = .ok (.getfield 134, 3) := by decide +kernel
theorem dX8_write_58 : decode cX8_write 58 = .ok (.imul, 1) := by decide +kernel
theorem dX8_write_59 : decode cX8_write 59 = .ok (.iconst 1, 1) := by decide +kernel
theorem dX8_write_60 : decode cX8_write 60 = .ok (.iadd, 1) := by decide +kernel
theorem dX8_write_61 : decode cX8_write 61 = .ok (.iload_n 2, 1) := by decide +kernel
theorem dX8_write_62 : decode cX8_write 62 = .ok (.iastore, 1) := by decide +kernel
theorem dX8_write_63 : decode cX8_write 63 = .ok (.aload_n 0, 1) := by decide +kernel
theorem dX8_write_64 : decode cX8_write 64 = .ok (.dup, 1) := by decide +kernel
theorem dX8_write_65 : decode cX8_write 65 = .ok (.getfield 134, 3) := by decide +kernel
theorem dX8_write_68 : decode cX8_write 68 = .ok (.iconst 1, 1) := by decide +kernel
theorem dX8_write_69 : decode cX8_write 69 = .ok (.iadd, 1) := by decide +kernel
theorem dX8_write_70 : decode cX8_write 70 = .ok (.putfield 134, 3) := by decide +kernel
theorem dX8_write_73 : decode cX8_write 73 = .ok (.aload_n 0, 1) := by decide +kernel
theorem dX8_write_74 : decode cX8_write 74 = .ok (.getfield 134, 3) := by decide +kernel
theorem dX8_write_77 : decode cX8_write 77 = .ok (.ireturn, 1) := by decide +kernel
theorem dX8_tear_0 : decode cX8_tear 0 = .ok (.aload_n 0, 1) := by decide +kernel
theorem dX8_tear_1 : decode cX8_tear 1 = .ok (.getfield 131, 3) := by decide +kernel
theorem dX8_tear_4 : decode cX8_tear 4 = .ok (.aload_n 0, 1) := by decide +kernel
theorem dX8_tear_5 : decode cX8_tear 5 = .ok (.getfield 134, 3) := by decide +kernel
theorem dX8_tear_8 : decode cX8_tear 8 = .ok (.iadd, 1) := by decide +kernel
theorem dX8_tear_9 : decode cX8_tear 9 = .ok (.istore_n 1, 1) := by decide +kernel
theorem dX8_tear_10 : decode cX8_tear 10 = .ok (.aload_n 0, 1) := by decide +kernel
theorem dX8_tear_11 : decode cX8_tear 11 = .ok (.iconst 0, 1) := by decide +kernel
theorem dX8_tear_12 : decode cX8_tear 12 = .ok (.putfield 131, 3) := by decide +kernel
theorem dX8_tear_15 : decode cX8_tear 15 = .ok (.aload_n 0, 1) := by decide +kernel
theorem dX8_tear_16 : decode cX8_tear 16 = .ok (.iconst 0, 1) := by decide +kernel
theorem dX8_tear_17 : decode cX8_tear 17 = .ok (.putfield 134, 3) := by decide +kernel
theorem dX8_tear_20 : decode cX8_tear 20 = .ok (.iload_n 1, 1) := by decide +kernel
theorem dX8_tear_21 : decode cX8_tear 21 = .ok (.ireturn, 1) := by decide +kernel
theorem dX8_judge_0 : decode cX8_judge 0 = .ok (.iconst 0, 1) := by decide +kernel
theorem dX8_judge_1 : decode cX8_judge 1 = .ok (.istore_n 1, 1) := by decide +kernel
theorem dX8_judge_2 : decode cX8_judge 2 = .ok (.iload_n 1, 1) := by decide +kernel
theorem dX8_judge_3 : decode cX8_judge 3 = .ok (.aload_n 0, 1) := by decide +kernel
theorem dX8_judge_4 : decode cX8_judge 4 = .ok (.getfield 134, 3) := by decide +kernel
theorem dX8_judge_7 : decode cX8_judge 7 = .ok (.if_icmp .ge 39, 3) := by decide +kernel
theorem dX8_judge_10 : decode cX8_judge 10 = .ok (.aload_n 0, 1) := by decide +kernel
theorem dX8_judge_11 : decode cX8_judge 11 = .ok (.getfield 41, 3) := by decide +kernel
theorem dX8_judge_14 : decode cX8_judge 14 = .ok (.iconst 1, 1) := by decide +kernel
theorem dX8_judge_15 : decode cX8_judge 15 = .ok (.aload_n 0, 1) := by decide +kernel
theorem dX8_judge_16 : decode cX8_judge 16 = .ok (.getfield 60, 3) := by decide +kernel
theorem dX8_judge_19 : decode cX8_judge 19 = .ok (.iconst 2, 1) := by decide +kernel
theorem dX8_judge_20 : decode cX8_judge 20 = .ok (.iload_n 1, 1) := by decide +kernel
theorem dX8_judge_21 : decode cX8_judge 21 = .ok (.imul, 1) := by decide +kernel
theorem dX8_judge_22 : decode cX8_judge 22 = .ok (.iaload, 1) := by decide +kernel
theorem dX8_judge_23 : decode cX8_judge 23 = .ok (.iadd, 1) := by decide +kernel
theorem dX8_judge_24 : decode cX8_judge 24 = .ok (.iaload, 1) := by decide +kernel
theorem dX8_judge_25 : decode cX8_judge 25 = .ok (.aload_n 0, 1) := by decide +kernel
theorem dX8_judge_26 : decode cX8_judge 26 = .ok (.getfield 60, 3) := by decide +kernel
theorem dX8_judge_29 : decode cX8_judge 29 = .ok (.iconst 2, 1) := by decide +kernel
theorem dX8_judge_30 : decode cX8_judge 30 = .ok (.iload_n 1, 1) := by decide +kernel
theorem dX8_judge_31 : decode cX8_judge 31 = .ok (.imul, 1) := by decide +kernel
theorem dX8_judge_32 : decode cX8_judge 32 = .ok (.iconst 1, 1) := by decide +kernel
theorem dX8_judge_33 : decode cX8_judge 33 = .ok (.iadd, 1) := by decide +kernel
theorem dX8_judge_34 : decode cX8_judge 34 = .ok (.iaload, 1) := by decide +kernel
theorem dX8_judge_35 : decode cX8_judge 35 = .ok (.if_icmp .eq 5, 3) := by decide +kernel
theorem dX8_judge_38 : decode cX8_judge 38 = .ok (.iload_n 1, 1) := by decide +kernel
theorem dX8_judge_39 : decode cX8_judge 39 = .ok (.ireturn, 1) := by decide +kernel
theorem dX8_judge_40 : decode cX8_judge 40 = .ok (.iinc 1 1, 3) := by decide +kernel
theorem dX8_judge_43 : decode cX8_judge 43 = .ok (.goto (-41), 3) := by decide +kernel
theorem dX8_judge_46 : decode cX8_judge 46 = .ok (.iconst (-1), 1) := by decide +kernel
theorem dX8_judge_47 : decode cX8_judge 47 = .ok (.ireturn, 1) := by decide +kernel
theorem dX8_seed_0 : decode cX8_seed 0 = .ok (.iload_n 1, 1) := by decide +kernel
theorem dX8_seed_1 : decode cX8_seed 1 = .ok (.ifCond .ge 6, 3) := by decide +kernel
theorem dX8_seed_4 : decode cX8_seed 4 = .ok (.ldc 76, 2) := by decide +kernel
theorem dX8_seed_6 : decode cX8_seed 6 = .ok (.ireturn, 1) := by decide +kernel
theorem dX8_seed_7 : decode cX8_seed 7 = .ok (.aload_n 0, 1) := by decide +kernel
theorem dX8_seed_8 : decode cX8_seed 8 = .ok (.getfield 189, 3) := by decide +kernel
theorem dX8_seed_11 : decode cX8_seed 11 = .ok (.istore_n 2, 1) := by decide +kernel
theorem dX8_seed_12 : decode cX8_seed 12 = .ok (.aload_n 0, 1) := by decide +kernel
theorem dX8_seed_13 : decode cX8_seed 13 = .ok (.iload_n 1, 1) := by decide +kernel
theorem dX8_seed_14 : decode cX8_seed 14 = .ok (.putfield 189, 3) := by decide +kernel
theorem dX8_seed_17 : decode cX8_seed 17 = .ok (.iload_n 2, 1) := by decide +kernel
theorem dX8_seed_18 : decode cX8_seed 18 = .ok (.ireturn, 1) := by decide +kernel
set_option maxRecDepth 20000 in
theorem ggX8_keep_X8_in : GoodIn wsX8_keep wsX8_in := goodIn_r _ [11] (by decide +kernel) (by decide +kernel)
set_option maxRecDepth 20000 in
theorem gX8_keep_X8_in : GoodIn wsX8_keep (va_wsS RX8 72 yX8_in wsX8_in) := goodIn_app (goodIn_of _ (by decide +kernel)) ggX8_keep_X8_in
theorem dX8_keep_0 : decode cX8_keep 0 = .ok (.iload_n 1, 1) := by decide +kernel
theorem dX8_keep_1 : decode cX8_keep 1 = .ok (.iconst 0, 1) := by decide +kernel
theorem dX8_keep_2 : decode cX8_keep 2 = .ok (.iconst 1, 1) := by decide +kernel
theorem dX8_keep_3 : decode cX8_keep 3 = .ok (.invokestatic 72, 3) := by decide +kernel
theorem dX8_keep_6 : decode cX8_keep 6 = .ok (.ifCond .ne 6, 3) := by decide +kernel
theorem dX8_keep_9 : decode cX8_keep 9 = .ok (.ldc 152, 2) := by decide +kernel
theorem dX8_keep_11 : decode cX8_keep 11 = .ok (.ireturn, 1) := by decide +kernel
theorem dX8_keep_12 : decode cX8_keep 12 = .ok (.iconst 0, 1) := by decide +kernel
theorem dX8_keep_13 : decode cX8_keep 13 = .ok (.istore_n 2, 1) := by decide +kernel
theorem dX8_keep_14 : decode cX8_keep 14 = .ok (.iload_n 2, 1) := by decide +kernel
theorem dX8_keep_15 : decode cX8_keep 15 = .ok (.bipush 35, 2) := by decide +kernel
theorem dX8_keep_17 : decode cX8_keep 17 = .ok (.if_icmp .ge 26, 3) := by decide +kernel
theorem dX8_keep_20 : decode cX8_keep 20 = .ok (.aload_n 0, 1) := by decide +kernel
theorem dX8_keep_21 : decode cX8_keep 21 = .ok (.getfield 47, 3) := by decide +kernel
theorem dX8_keep_24 : decode cX8_keep 24 = .ok (.bipush 35, 2) := by decide +kernel
theorem dX8_keep_26 : decode cX8_keep 26 = .ok (.iload_n 1, 1) := by decide +kernel
theorem dX8_keep_27 : decode cX8_keep 27 = .ok (.imul, 1) := by decide +kernel
theorem dX8_keep_28 : decode cX8_keep 28 = .ok (.iload_n 2, 1) := by decide +kernel
theorem dX8_keep_29 : decode cX8_keep 29 = .ok (.iadd, 1) := by decide +kernel
theorem dX8_keep_30 : decode cX8_keep 30 = .ok (.aload_n 0, 1) := by decide +kernel
theorem dX8_keep_31 : decode cX8_keep 31 = .ok (.getfield 41, 3) := by decide +kernel
theorem dX8_keep_34 : decode cX8_keep 34 = .ok (.iload_n 2, 1) := by decide +kernel
theorem dX8_keep_35 : decode cX8_keep 35 = .ok (.iaload, 1) := by decide +kernel
theorem dX8_keep_36 : decode cX8_keep 36 = .ok (.iastore, 1) := by decide +kernel
theorem dX8_keep_37 : decode cX8_keep 37 = .ok (.iinc 2 1, 3) := by decide +kernel
theorem dX8_keep_40 : decode cX8_keep 40 = .ok (.goto (-26), 3) := by decide +kernel
theorem dX8_keep_43 : decode cX8_keep 43 = .ok (.aload_n 0, 1) := by decide +kernel
theorem dX8_keep_44 : decode cX8_keep 44 = .ok (.getfield 50, 3) := by decide +kernel
theorem dX8_keep_47 : decode cX8_keep 47 = .ok (.iload_n 1, 1) := by decide +kernel
theorem dX8_keep_48 : decode cX8_keep 48 = .ok (.aload_n 0, 1) := by decide +kernel
theorem dX8_keep_49 : decode cX8_keep 49 = .ok (.getfield 189, 3) := by decide +kernel
theorem dX8_keep_52 : decode cX8_keep 52 = .ok (.iastore, 1) := by decide +kernel
theorem dX8_keep_53 : decode cX8_keep 53 = .ok (.aload_n 0, 1) := by decide +kernel
theorem dX8_keep_54 : decode cX8_keep 54 = .ok (.getfield 53, 3) := by decide +kernel
theorem dX8_keep_57 : decode cX8_keep 57 = .ok (.iload_n 1, 1) := by decide +kernel
theorem dX8_keep_58 : decode cX8_keep 58 = .ok (.iconst 1, 1) := by decide +kernel
theorem dX8_keep_59 : decode cX8_keep 59 = .ok (.bastore, 1) := by decide +kernel
theorem dX8_keep_60 : decode cX8_keep 60 = .ok (.aload_n 0, 1) := by decide +kernel
theorem dX8_keep_61 : decode cX8_keep 61 = .ok (.iconst 0, 1) := by decide +kernel
theorem dX8_keep_62 : decode cX8_keep 62 = .ok (.putfield 128, 3) := by decide +kernel
theorem dX8_keep_65 : decode cX8_keep 65 = .ok (.iconst 1, 1) := by decide +kernel
theorem dX8_keep_66 : decode cX8_keep 66 = .ok (.ireturn, 1) := by decide +kernel
set_option maxRecDepth 20000 in
theorem ggX8_goBack_X8_in : GoodIn wsX8_goBack wsX8_in := goodIn_r _ [12] (by decide +kernel) (by decide +kernel)
set_option maxRecDepth 20000 in
theorem gX8_goBack_X8_in : GoodIn wsX8_goBack (va_wsS RX8 72 yX8_in wsX8_in) := goodIn_app (goodIn_of _ (by decide +kernel)) ggX8_goBack_X8_in
theorem dX8_goBack_0 : decode cX8_goBack 0 = .ok (.iload_n 1, 1) := by decide +kernel
theorem dX8_goBack_1 : decode cX8_goBack 1 = .ok (.iconst 0, 1) := by decide +kernel
theorem dX8_goBack_2 : decode cX8_goBack 2 = .ok (.iconst 1, 1) := by decide +kernel
theorem dX8_goBack_3 : decode cX8_goBack 3 = .ok (.invokestatic 72, 3) := by decide +kernel
theorem dX8_goBack_6 : decode cX8_goBack 6 = .ok (.ifCond .ne 6, 3) := by decide +kernel
theorem dX8_goBack_9 : decode cX8_goBack 9 = .ok (.ldc 152, 2) := by decide +kernel
theorem dX8_goBack_11 : decode cX8_goBack 11 = .ok (.ireturn, 1) := by decide +kernel
theorem dX8_goBack_12 : decode cX8_goBack 12 = .ok (.aload_n 0, 1) := by decide +kernel
theorem dX8_goBack_13 : decode cX8_goBack 13 = .ok (.getfield 53, 3) := by decide +kernel
theorem dX8_goBack_16 : decode cX8_goBack 16 = .ok (.iload_n 1, 1) := by decide +kernel
theorem dX8_goBack_17 : decode cX8_goBack 17 = .ok (.baload, 1) := by decide +kernel
theorem dX8_goBack_18 : decode cX8_goBack 18 = .ok (.ifCond .ne 6, 3) := by decide +kernel
theorem dX8_goBack_21 : decode cX8_goBack 21 = .ok (.ldc 171, 2) := by decide +kernel
theorem dX8_goBack_23 : decode cX8_goBack 23 = .ok (.ireturn, 1) := by decide +kernel
theorem dX8_goBack_24 : decode cX8_goBack 24 = .ok (.iconst 0, 1) := by decide +kernel
theorem dX8_goBack_25 : decode cX8_goBack 25 = .ok (.istore_n 2, 1) := by decide +kernel
theorem dX8_goBack_26 : decode cX8_goBack 26 = .ok (.iload_n 2, 1) := by decide +kernel
theorem dX8_goBack_27 : decode cX8_goBack 27 = .ok (.bipush 35, 2) := by decide +kernel
theorem dX8_goBack_29 : decode cX8_goBack 29 = .ok (.if_icmp .ge 26, 3) := by decide +kernel
theorem dX8_goBack_32 : decode cX8_goBack 32 = .ok (.aload_n 0, 1) := by decide +kernel
theorem dX8_goBack_33 : decode cX8_goBack 33 = .ok (.getfield 41, 3) := by decide +kernel
theorem dX8_goBack_36 : decode cX8_goBack 36 = .ok (.iload_n 2, 1) := by decide +kernel
theorem dX8_goBack_37 : decode cX8_goBack 37 = .ok (.aload_n 0, 1) := by decide +kernel
theorem dX8_goBack_38 : decode cX8_goBack 38 = .ok (.getfield 47, 3) := by decide +kernel
theorem dX8_goBack_41 : decode cX8_goBack 41 = .ok (.bipush 35, 2) := by decide +kernel
theorem dX8_goBack_43 : decode cX8_goBack 43 = .ok (.iload_n 1, 1) := by decide +kernel
theorem dX8_goBack_44 : decode cX8_goBack 44 = .ok (.imul, 1) := by decide +kernel
theorem dX8_goBack_45 : decode cX8_goBack 45 = .ok (.iload_n 2, 1) := by decide +kernel
theorem dX8_goBack_46 : decode cX8_goBack 46 = .ok (.iadd, 1) := by decide +kernel
theorem dX8_goBack_47 : decode cX8_goBack 47 = .ok (.iaload, 1) := by decide +kernel
theorem dX8_goBack_48 : decode cX8_goBack 48 = .ok (.iastore, 1) := by decide +kernel
theorem dX8_goBack_49 : decode cX8_goBack 49 = .ok (.iinc 2 1, 3) := by decide +kernel
theorem dX8_goBack_52 : decode cX8_goBack 52 = .ok (.goto (-26), 3) := by decide +kernel
theorem dX8_goBack_55 : decode cX8_goBack 55 = .ok (.aload_n 0, 1) := by decide +kernel
theorem dX8_goBack_56 : decode cX8_goBack 56 = .ok (.aload_n 0, 1) := by decide +kernel
theorem dX8_goBack_57 : decode cX8_goBack 57 = .ok (.getfield 50, 3) := by decide +kernel
theorem dX8_goBack_60 : decode cX8_goBack 60 = .ok (.iload_n 1, 1) := by decide +kernel
theorem dX8_goBack_61 : decode cX8_goBack 61 = .ok (.iaload, 1) := by decide +kernel
theorem dX8_goBack_62 : decode cX8_goBack 62 = .ok (.putfield 189, 3) := by decide +kernel
theorem dX8_goBack_65 : decode cX8_goBack 65 = .ok (.aload_n 0, 1) := by decide +kernel
theorem dX8_goBack_66 : decode cX8_goBack 66 = .ok (.iconst 0, 1) := by decide +kernel
theorem dX8_goBack_67 : decode cX8_goBack 67 = .ok (.putfield 128, 3) := by decide +kernel
theorem dX8_goBack_70 : decode cX8_goBack 70 = .ok (.iconst 1, 1) := by decide +kernel
theorem dX8_goBack_71 : decode cX8_goBack 71 = .ok (.ireturn, 1) := by decide +kernel
