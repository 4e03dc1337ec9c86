set_option maxRecDepth 20000 in
theorem gX7_chain_X7_isEye : GoodIn wsX7_chain (wsV RX7 122 RX7 yX7_isEye wsX7_isEye) := goodIn_app (goodIn_of _ (by decide +kernel)) ggX7_chain_X7_isEye
set_option maxRecDepth 20000 in
theorem ggX7_chain_X7_lack : GoodIn wsX7_chain wsX7_lack := goodIn_r _ [11, 12, 72, 73, 74, 75, 76, 77, 78, 79] (by decide +kernel) (by decide +kernel)
set_option maxRecDepth 20000 in
theorem gX7_chain_X7_lack : GoodIn wsX7_chain (wsV RX7 96 RX7 yX7_lack wsX7_lack) := goodIn_app (goodIn_of _ (by decide +kernel)) ggX7_chain_X7_lack
set_option maxRecDepth 20000 in
theorem ggX7_chain_X0_reckon : GoodIn wsX7_chain wsX0_reckon := goodIn_r _ [17, 18, 19, 20, 21, 22, 23, 24, 25, 26, 27, 16, 28, 29, 30, 31, 32, 33, 34, 35, 36, 37, 38, 39, 40, 41, 42, 43, 44, 45, 46, 47, 48, 49, 50, 51, 52, 53, 54, 55, 56, 57, 58, 59, 60, 61, 62, 63, 64, 65, 66, 80, 81, 82, 83, 84, 85, 86, 87, 88] (by decide +kernel) (by decide +kernel)
set_option maxRecDepth 20000 in
theorem gX7_chain_X0_reckon : GoodIn wsX7_chain (wsV RX7 210 RX0 yX0_reckon wsX0_reckon) := goodIn_app (goodIn_of _ (by decide +kernel)) ggX7_chain_X0_reckon
set_option maxRecDepth 20000 in
theorem ggX7_chain_X0_walk : GoodIn wsX7_chain wsX0_walk := goodIn_r _ [62, 54, 18, 19, 63, 64, 65, 16, 66, 45, 46, 47, 39, 48, 42, 36, 37, 38, 40, 41, 43, 44, 80, 81, 82, 83, 84, 85, 86, 87, 88] (by decide +kernel) (by decide +kernel)
set_option maxRecDepth 20000 in
theorem gX7_chain_X0_walk : GoodIn wsX7_chain (wsV RX7 217 RX0 yX0_walk wsX0_walk) := goodIn_app (goodIn_of _ (by decide +kernel)) ggX7_chain_X0_walk
set_option maxRecDepth 20000 in
theorem ggX7_chain_X7_answer : GoodIn wsX7_chain wsX7_answer := goodIn_r _ [71, 12, 72, 73, 74, 75, 76, 77, 78, 79] (by decide +kernel) (by decide +kernel)
set_option maxRecDepth 20000 in
theorem gX7_chain_X7_answer : GoodIn wsX7_chain (wsV RX7 119 RX7 yX7_answer wsX7_answer) := goodIn_app (goodIn_of _ (by decide +kernel)) ggX7_chain_X7_answer
theorem dX7_chain_0 : decode cX7_chain 0 = .ok (.aload_n 0, 1) := by decide +kernel
theorem dX7_chain_1 : decode cX7_chain 1 = .ok (.iload_n 1, 1) := by decide +kernel
theorem dX7_chain_2 : decode cX7_chain 2 = .ok (.invokevirtual 122, 3) := by decide +kernel
theorem dX7_chain_5 : decode cX7_chain 5 = .ok (.ifCond .ne 9, 3) := by decide +kernel
theorem dX7_chain_8 : decode cX7_chain 8 = .ok (.aload_n 0, 1) := by decide +kernel
theorem dX7_chain_9 : decode cX7_chain 9 = .ok (.iconst 1, 1) := by decide +kernel
theorem dX7_chain_10 : decode cX7_chain 10 = .ok (.invokevirtual 96, 3) := by decide +kernel
theorem dX7_chain_13 : decode cX7_chain 13 = .ok (.ireturn, 1) := by decide +kernel
theorem dX7_chain_14 : decode cX7_chain 14 = .ok (.aload_n 0, 1) := by decide +kernel
theorem dX7_chain_15 : decode cX7_chain 15 = .ok (.getfield 40, 3) := by decide +kernel
theorem dX7_chain_18 : decode cX7_chain 18 = .ok (.aload_n 0, 1) := by decide +kernel
theorem dX7_chain_19 : decode cX7_chain 19 = .ok (.getfield 19, 3) := by decide +kernel
theorem dX7_chain_22 : decode cX7_chain 22 = .ok (.iconst (-1), 1) := by decide +kernel
theorem dX7_chain_23 : decode cX7_chain 23 = .ok (.invokevirtual 210, 3) := by decide +kernel
theorem dX7_chain_26 : decode cX7_chain 26 = .ok (.iload_n 2, 1) := by decide +kernel
theorem dX7_chain_27 : decode cX7_chain 27 = .ok (.ifCond .lt 16, 3) := by decide +kernel
theorem dX7_chain_30 : decode cX7_chain 30 = .ok (.iload_n 2, 1) := by decide +kernel
theorem dX7_chain_31 : decode cX7_chain 31 = .ok (.aload_n 0, 1) := by decide +kernel
theorem dX7_chain_32 : decode cX7_chain 32 = .ok (.getfield 40, 3) := by decide +kernel
theorem dX7_chain_35 : decode cX7_chain 35 = .ok (.getfield 214, 3) := by decide +kernel
theorem dX7_chain_38 : decode cX7_chain 38 = .ok (.iload_n 1, 1) := by decide +kernel
theorem dX7_chain_39 : decode cX7_chain 39 = .ok (.iaload, 1) := by decide +kernel
theorem dX7_chain_40 : decode cX7_chain 40 = .ok (.if_icmp .le 10, 3) := by decide +kernel
theorem dX7_chain_43 : decode cX7_chain 43 = .ok (.aload_n 0, 1) := by decide +kernel
theorem dX7_chain_44 : decode cX7_chain 44 = .ok (.bipush 6, 2) := by decide +kernel
theorem dX7_chain_46 : decode cX7_chain 46 = .ok (.invokevirtual 96, 3) := by decide +kernel
theorem dX7_chain_49 : decode cX7_chain 49 = .ok (.ireturn, 1) := by decide +kernel
theorem dX7_chain_50 : decode cX7_chain 50 = .ok (.aload_n 0, 1) := by decide +kernel
theorem dX7_chain_51 : decode cX7_chain 51 = .ok (.getfield 40, 3) := by decide +kernel
theorem dX7_chain_54 : decode cX7_chain 54 = .ok (.aload_n 0, 1) := by decide +kernel
theorem dX7_chain_55 : decode cX7_chain 55 = .ok (.getfield 19, 3) := by decide +kernel
theorem dX7_chain_58 : decode cX7_chain 58 = .ok (.iload_n 1, 1) := by decide +kernel
theorem dX7_chain_59 : decode cX7_chain 59 = .ok (.invokevirtual 217, 3) := by decide +kernel
theorem dX7_chain_62 : decode cX7_chain 62 = .ok (.aload_n 0, 1) := by decide +kernel
theorem dX7_chain_63 : decode cX7_chain 63 = .ok (.aload_n 0, 1) := by decide +kernel
theorem dX7_chain_64 : decode cX7_chain 64 = .ok (.getfield 40, 3) := by decide +kernel
theorem dX7_chain_67 : decode cX7_chain 67 = .ok (.getfield 220, 3) := by decide +kernel
theorem dX7_chain_70 : decode cX7_chain 70 = .ok (.iload_n 2, 1) := by decide +kernel
theorem dX7_chain_71 : decode cX7_chain 71 = .ok (.iaload, 1) := by decide +kernel
theorem dX7_chain_72 : decode cX7_chain 72 = .ok (.invokevirtual 119, 3) := by decide +kernel
theorem dX7_chain_75 : decode cX7_chain 75 = .ok (.ireturn, 1) := by decide +kernel
set_option maxRecDepth 20000 in
theorem ggX7_weight_X7_isEye : GoodIn wsX7_weight wsX7_isEye := goodIn_r _ [7, 2, 75, 76, 77, 78, 79, 80, 81, 82, 87, 88, 89, 90, 91] (by decide +kernel) (by decide +kernel)
set_option maxRecDepth 20000 in
theorem gX7_weight_X7_isEye : GoodIn wsX7_weight (wsV RX7 122 RX7 yX7_isEye wsX7_isEye) := goodIn_app (goodIn_of _ (by decide +kernel)) ggX7_weight_X7_isEye
set_option maxRecDepth 20000 in
theorem ggX7_weight_X7_lack : GoodIn wsX7_weight wsX7_lack := goodIn_r _ [11, 12, 75, 76, 77, 78, 79, 80, 81, 82] (by decide +kernel) (by decide +kernel)
set_option maxRecDepth 20000 in
theorem gX7_weight_X7_lack : GoodIn wsX7_weight (wsV RX7 96 RX7 yX7_lack wsX7_lack) := goodIn_app (goodIn_of _ (by decide +kernel)) ggX7_weight_X7_lack
set_option maxRecDepth 20000 in
theorem ggX7_weight_X0_reckon : GoodIn wsX7_weight wsX0_reckon := goodIn_r _ [17, 18, 19, 20, 21, 22, 23, 24, 25, 26, 27, 16, 28, 29, 30, 31, 32, 33, 34, 35, 36, 37, 38, 39, 40, 41, 42, 43, 44, 45, 46, 47, 48, 49, 50, 51, 52, 53, 54, 55, 56, 57, 58, 59, 60, 61, 62, 63, 64, 65, 66, 83, 84, 85, 86, 87, 88, 89, 90, 91] (by decide +kernel) (by decide +kernel)
set_option maxRecDepth 20000 in
theorem gX7_weight_X0_reckon : GoodIn wsX7_weight (wsV RX7 210 RX0 yX0_reckon wsX0_reckon) := goodIn_app (goodIn_of _ (by decide +kernel)) ggX7_weight_X0_reckon
set_option maxRecDepth 20000 in
theorem ggX7_weight_X7_answerOr : GoodIn wsX7_weight wsX7_answerOr := goodIn_r _ [70, 8, 9, 10, 6, 11, 12, 71, 72, 73, 74, 75, 76, 77, 78, 79, 80, 81, 82] (by decide +kernel) (by decide +kernel)
set_option maxRecDepth 20000 in
theorem gX7_weight_X7_answerOr : GoodIn wsX7_weight (wsV RX7 168 RX7 yX7_answerOr wsX7_answerOr) := goodIn_app (goodIn_of _ (by decide +kernel)) ggX7_weight_X7_answerOr
theorem dX7_weight_0 : decode cX7_weight 0 = .ok (.aload_n 0, 1) := by decide +kernel
theorem dX7_weight_1 : decode cX7_weight 1 = .ok (.iload_n 1, 1) := by decide +kernel
theorem dX7_weight_2 : decode cX7_weight 2 = .ok (.invokevirtual 122, 3) := by decide +kernel
theorem dX7_weight_5 : decode cX7_weight 5 = .ok (.ifCond .ne 9, 3) := by decide +kernel
theorem dX7_weight_8 : decode cX7_weight 8 = .ok (.aload_n 0, 1) := by decide +kernel
theorem dX7_weight_9 : decode cX7_weight 9 = .ok (.iconst 1, 1) := by decide +kernel
theorem dX7_weight_10 : decode cX7_weight 10 = .ok (.invokevirtual 96, 3) := by decide +kernel
theorem dX7_weight_13 : decode cX7_weight 13 = .ok (.ireturn, 1) := by decide +kernel
theorem dX7_weight_14 : decode cX7_weight 14 = .ok (.aload_n 0, 1) := by decide +kernel
theorem dX7_weight_15 : decode cX7_weight 15 = .ok (.getfield 40, 3) := by decide +kernel
theorem dX7_weight_18 : decode cX7_weight 18 = .ok (.aload_n 0, 1) := by decide +kernel
theorem dX7_weight_19 : decode cX7_weight 19 = .ok (.getfield 19, 3) := by decide +kernel
theorem dX7_weight_22 : decode cX7_weight 22 = .ok (.iconst (-1), 1) := by decide +kernel
theorem dX7_weight_23 : decode cX7_weight 23 = .ok (.invokevirtual 210, 3) := by decide +kernel
theorem dX7_weight_26 : decode cX7_weight 26 = .ok (.aload_n 0, 1) := by decide +kernel
theorem dX7_weight_27 : decode cX7_weight 27 = .ok (.bipush 6, 2) := by decide +kernel
theorem dX7_weight_29 : decode cX7_weight 29 = .ok (.aload_n 0, 1) := by decide +kernel
theorem dX7_weight_30 : decode cX7_weight 30 = .ok (.getfield 40, 3) := by decide +kernel
theorem dX7_weight_33 : decode cX7_weight 33 = .ok (.getfield 223, 3) := by decide +kernel
theorem dX7_weight_36 : decode cX7_weight 36 = .ok (.iload_n 1, 1) := by decide +kernel
theorem dX7_weight_37 : decode cX7_weight 37 = .ok (.iaload, 1) := by decide +kernel
theorem dX7_weight_38 : decode cX7_weight 38 = .ok (.invokevirtual 168, 3) := by decide +kernel
theorem dX7_weight_41 : decode cX7_weight 41 = .ok (.ireturn, 1) := by decide +kernel
set_option maxRecDepth 20000 in
theorem ggX7_loop_X7_arePair : GoodIn wsX7_loop wsX7_arePair := goodIn_r _ [8, 9, 10, 11, 7, 12, 1, 31, 32, 33, 34, 35, 36, 37, 38, 39, 40, 41, 42, 43] (by decide +kernel) (by decide +kernel)
set_option maxRecDepth 20000 in
theorem gX7_loop_X7_arePair : GoodIn wsX7_loop (wsV RX7 159 RX7 yX7_arePair wsX7_arePair) := goodIn_app (goodIn_of _ (by decide +kernel)) ggX7_loop_X7_arePair
set_option maxRecDepth 20000 in
theorem ggX7_loop_X7_lack : GoodIn wsX7_loop wsX7_lack := goodIn_r _ [16, 17, 31, 32, 33, 34, 35, 36, 37, 38] (by decide +kernel) (by decide +kernel)
set_option maxRecDepth 20000 in
theorem gX7_loop_X7_lack : GoodIn wsX7_loop (wsV RX7 96 RX7 yX7_lack wsX7_lack) := goodIn_app (goodIn_of _ (by decide +kernel)) ggX7_loop_X7_lack
set_option maxRecDepth 20000 in
theorem ggX7_loop_X5_factorOf : GoodIn wsX7_loop wsX5_factorOf := goodIn_r _ [22, 23, 24, 25, 26, 39, 40, 41, 42, 43] (by decide +kernel) (by decide +kernel)
set_option maxRecDepth 20000 in
theorem gX7_loop_X5_factorOf : GoodIn wsX7_loop (wsV RX7 165 RX5 yX5_factorOf wsX5_factorOf) := goodIn_app (goodIn_of _ (by decide +kernel)) ggX7_loop_X5_factorOf
set_option maxRecDepth 20000 in
theorem ggX7_loop_X7_answer : GoodIn wsX7_loop wsX7_answer := goodIn_r _ [30, 17, 31, 32, 33, 34, 35, 36, 37, 38] (by decide +kernel) (by decide +kernel)
set_option maxRecDepth 20000 in
theorem gX7_loop_X7_answer : GoodIn wsX7_loop (wsV RX7 119 RX7 yX7_answer wsX7_answer) := goodIn_app (goodIn_of _ (by decide +kernel)) ggX7_loop_X7_answer
theorem dX7_loop_0 : decode cX7_loop 0 = .ok (.aload_n 0, 1) := by decide +kernel
theorem dX7_loop_1 : decode cX7_loop 1 = .ok (.iload_n 1, 1) := by decide +kernel
theorem dX7_loop_2 : decode cX7_loop 2 = .ok (.iload_n 2, 1) := by decide +kernel
theorem dX7_loop_3 : decode cX7_loop 3 = .ok (.invokevirtual 159, 3) := by decide +kernel
theorem dX7_loop_6 : decode cX7_loop 6 = .ok (.ifCond .eq 17, 3) := by decide +kernel
theorem dX7_loop_9 : decode cX7_loop 9 = .ok (.aload_n 0, 1) := by decide +kernel
theorem dX7_loop_10 : decode cX7_loop 10 = .ok (.iload_n 2, 1) := by decide +kernel
theorem dX7_loop_11 : decode cX7_loop 11 = .ok (.iload_n 3, 1) := by decide +kernel
theorem dX7_loop_12 : decode cX7_loop 12 = .ok (.invokevirtual 159, 3) := by decide +kernel
theorem dX7_loop_15 : decode cX7_loop 15 = .ok (.ifCond .eq 8, 3) := by decide +kernel
theorem dX7_loop_18 : decode cX7_loop 18 = .ok (.iload_n 1, 1) := by decide +kernel
theorem dX7_loop_19 : decode cX7_loop 19 = .ok (.iload_n 3, 1) := by decide +kernel
theorem dX7_loop_20 : decode cX7_loop 20 = .ok (.if_icmp .ne 9, 3) := by decide +kernel
theorem dX7_loop_23 : decode cX7_loop 23 = .ok (.aload_n 0, 1) := by decide +kernel
theorem dX7_loop_24 : decode cX7_loop 24 = .ok (.iconst 1, 1) := by decide +kernel
theorem dX7_loop_25 : decode cX7_loop 25 = .ok (.invokevirtual 96, 3) := by decide +kernel
theorem dX7_loop_28 : decode cX7_loop 28 = .ok (.ireturn, 1) := by decide +kernel
theorem dX7_loop_29 : decode cX7_loop 29 = .ok (.aload_n 0, 1) := by decide +kernel
theorem dX7_loop_30 : decode cX7_loop 30 = .ok (.getfield 19, 3) := by decide +kernel
theorem dX7_loop_33 : decode cX7_loop 33 = .ok (.iload_n 1, 1) := by decide +kernel
theorem dX7_loop_34 : decode cX7_loop 34 = .ok (.iload_n 2, 1) := by decide +kernel
theorem dX7_loop_35 : decode cX7_loop 35 = .ok (.invokevirtual 165, 3) := by decide +kernel
theorem dX7_loop_38 : decode cX7_loop 38 = .ok (.i2l, 1) := by decide +kernel
theorem dX7_loop_39 : decode cX7_loop 39 = .ok (.lstore 4, 2) := by decide +kernel
theorem dX7_loop_41 : decode cX7_loop 41 = .ok (.aload_n 0, 1) := by decide +kernel
theorem dX7_loop_42 : decode cX7_loop 42 = .ok (.getfield 19, 3) := by decide +kernel
theorem dX7_loop_45 : decode cX7_loop 45 = .ok (.iload_n 2, 1) := by decide +kernel
theorem dX7_loop_46 : decode cX7_loop 46 = .ok (.iload_n 3, 1) := by decide +kernel
theorem dX7_loop_47 : decode cX7_loop 47 = .ok (.invokevirtual 165, 3) := by decide +kernel
theorem dX7_loop_50 : decode cX7_loop 50 = .ok (.i2l, 1) := by decide +kernel
theorem dX7_loop_51 : decode cX7_loop 51 = .ok (.lstore 6, 2) := by decide +kernel
theorem dX7_loop_53 : decode cX7_loop 53 = .ok (.aload_n 0, 1) := by decide +kernel
theorem dX7_loop_54 : decode cX7_loop 54 = .ok (.getfield 19, 3) := by decide +kernel
theorem dX7_loop_57 : decode cX7_loop 57 = .ok (.iload_n 3, 1) := by decide +kernel
theorem dX7_loop_58 : decode cX7_loop 58 = .ok (.iload_n 1, 1) := by decide +kernel
theorem dX7_loop_59 : decode cX7_loop 59 = .ok (.invokevirtual 165, 3) := by decide +kernel
theorem dX7_loop_62 : decode cX7_loop 62 = .ok (.i2l, 1) := by decide +kernel
theorem dX7_loop_63 : decode cX7_loop 63 = .ok (.lstore 8, 2) := by decide +kernel
theorem dX7_loop_65 : decode cX7_loop 65 = .ok (.lload 4, 2) := by decide +kernel
theorem dX7_loop_67 : decode cX7_loop 67 = .ok (.ldc2_w 226, 3) := by decide +kernel
theorem dX7_loop_70 : decode cX7_loop 70 = .ok (.lcmp, 1) := by decide +kernel
theorem dX7_loop_71 : decode cX7_loop 71 = .ok (.ifCond .eq 21, 3) := by decide +kernel
theorem dX7_loop_74 : decode cX7_loop 74 = .ok (.lload 6, 2) := by decide +kernel
theorem dX7_loop_76 : decode cX7_loop 76 = .ok (.ldc2_w 226, 3) := by decide +kernel
theorem dX7_loop_79 : decode cX7_loop 79 = .ok (.lcmp, 1) := by decide +kernel
theorem dX7_loop_80 : decode cX7_loop 80 = .ok (.ifCond .eq 12, 3) := by decide +kernel
theorem dX7_loop_83 : decode cX7_loop 83 = .ok (.lload 8, 2) := by decide +kernel
theorem dX7_loop_85 : decode cX7_loop 85 = .ok (.ldc2_w 226, 3) := by decide +kernel
theorem dX7_loop_88 : decode cX7_loop 88 = .ok (.lcmp, 1) := by decide +kernel
theorem dX7_loop_89 : decode cX7_loop 89 = .ok (.ifCond .ne 10, 3) := by decide +kernel
theorem dX7_loop_92 : decode cX7_loop 92 = .ok (.aload_n 0, 1) := by decide +kernel
theorem dX7_loop_93 : decode cX7_loop 93 = .ok (.bipush 6, 2) := by decide +kernel
theorem dX7_loop_95 : decode cX7_loop 95 = .ok (.invokevirtual 96, 3) := by decide +kernel
theorem dX7_loop_98 : decode cX7_loop 98 = .ok (.ireturn, 1) := by decide +kernel
theorem dX7_loop_99 : decode cX7_loop 99 = .ok (.aload_n 0, 1) := by decide +kernel
theorem dX7_loop_100 : decode cX7_loop 100 = .ok (.lload 4, 2) := by decide +kernel
theorem dX7_loop_102 : decode cX7_loop 102 = .ok (.lload 6, 2) := by decide +kernel
theorem dX7_loop_104 : decode cX7_loop 104 = .ok (.lmul, 1) := by decide +kernel
theorem dX7_loop_105 : decode cX7_loop 105 = .ok (.lload 8, 2) := by decide +kernel
theorem dX7_loop_107 : decode cX7_loop 107 = .ok (.lmul, 1) := by decide +kernel
theorem dX7_loop_108 : decode cX7_loop 108 = .ok (.ldc2_w 228, 3) := by decide +kernel
theorem dX7_loop_111 : decode cX7_loop 111 = .ok (.ldiv, 1) := by decide +kernel
theorem dX7_loop_112 : decode cX7_loop 112 = .ok (.l2i, 1) := by decide +kernel
theorem dX7_loop_113 : decode cX7_loop 113 = .ok (.invokevirtual 119, 3) := by decide +kernel
theorem dX7_loop_116 : decode cX7_loop 116 = .ok (.ireturn, 1) := by decide +kernel
set_option maxRecDepth 20000 in
theorem ggX7_day_X7_isDay : GoodIn wsX7_day wsX7_isDay := goodIn_r _ [7, 8, 9, 6, 10] (by decide +kernel) (by decide +kernel)
set_option maxRecDepth 20000 in
theorem gX7_day_X7_isDay : GoodIn wsX7_day (va_wsS RX7 125 yX7_isDay wsX7_isDay) := goodIn_app (goodIn_of _ (by decide +kernel)) ggX7_day_X7_isDay
set_option maxRecDepth 20000 in
theorem ggX7_day_X7_lack : GoodIn wsX7_day wsX7_lack := goodIn_r _ [14, 15, 100, 101, 102, 103, 104, 105, 106, 107] (by decide +kernel) (by decide +kernel)
set_option maxRecDepth 20000 in
theorem gX7_day_X7_lack : GoodIn wsX7_day (wsV RX7 96 RX7 yX7_lack wsX7_lack) := goodIn_app (goodIn_of _ (by decide +kernel)) ggX7_day_X7_lack
set_option maxRecDepth 20000 in
theorem ggX7_day_X0_reckon : GoodIn wsX7_day wsX0_reckon := goodIn_r _ [20, 21, 22, 23, 24, 25, 26, 27, 28, 29, 30, 19, 31, 32, 33, 34, 35, 36, 37, 38, 39, 40, 41, 42, 43, 44, 45, 46, 47, 48, 49, 50, 51, 52, 53, 54, 55, 56, 57, 58, 59, 60, 61, 62, 63, 64, 65, 66, 67, 68, 69, 108, 109, 110, 111, 112, 113, 114, 115, 116] (by decide +kernel) (by decide +kernel)
set_option maxRecDepth 20000 in
theorem gX7_day_X0_reckon : GoodIn wsX7_day (wsV RX7 210 RX0 yX0_reckon wsX0_reckon) := goodIn_app (goodIn_of _ (by decide +kernel)) ggX7_day_X0_reckon
set_option maxRecDepth 20000 in
theorem ggX7_day_X3_valueOfDay : GoodIn wsX7_day wsX3_valueOfDay := goodIn_r _ [74, 75, 76, 77, 42, 78, 79, 80, 81, 82, 83, 84, 85, 86, 87, 88, 89, 90, 91, 112, 113, 114, 115, 116, 108, 109, 110, 111] (by decide +kernel) (by decide +kernel)
set_option maxRecDepth 20000 in
theorem gX7_day_X3_valueOfDay : GoodIn wsX7_day (wsV RX7 230 RX3 yX3_valueOfDay wsX3_valueOfDay) := goodIn_app (goodIn_of _ (by decide +kernel)) ggX7_day_X3_valueOfDay
set_option maxRecDepth 20000 in
theorem ggX7_day_X7_answerOr : GoodIn wsX7_day wsX7_answerOr := goodIn_r _ [95, 11, 12, 13, 6, 14, 15, 96, 97, 98, 99, 100, 101, 102, 103, 104, 105, 106, 107] (by decide +kernel) (by decide +kernel)
set_option maxRecDepth 20000 in
theorem gX7_day_X7_answerOr : GoodIn wsX7_day (wsV RX7 168 RX7 yX7_answerOr wsX7_answerOr) := goodIn_app (goodIn_of _ (by decide +kernel)) ggX7_day_X7_answerOr
theorem dX7_day_0 : decode cX7_day 0 = .ok (.iload_n 1, 1) := by decide +kernel
theorem dX7_day_1 : decode cX7_day 1 = .ok (.invokestatic 125, 3) := by decide +kernel
theorem dX7_day_4 : decode cX7_day 4 = .ok (.ifCond .ne 9, 3) := by decide +kernel
theorem dX7_day_7 : decode cX7_day 7 = .ok (.aload_n 0, 1) := by decide +kernel
theorem dX7_day_8 : decode cX7_day 8 = .ok (.iconst 1, 1) := by decide +kernel
theorem dX7_day_9 : decode cX7_day 9 = .ok (.invokevirtual 96, 3) := by decide +kernel
theorem dX7_day_12 : decode cX7_day 12 = .ok (.ireturn, 1) := by decide +kernel
theorem dX7_day_13 : decode cX7_day 13 = .ok (.aload_n 0, 1) := by decide +kernel
theorem dX7_day_14 : decode cX7_day 14 = .ok (.getfield 40, 3) := by decide +kernel
theorem dX7_day_17 : decode cX7_day 17 = .ok (.aload_n 0, 1) := by decide +kernel
theorem dX7_day_18 : decode cX7_day 18 = .ok (.getfield 19, 3) := by decide +kernel
theorem dX7_day_21 : decode cX7_day 21 = .ok (.iconst (-1), 1) := by decide +kernel
theorem dX7_day_22 : decode cX7_day 22 = .ok (.invokevirtual 210, 3) := by decide +kernel
theorem dX7_day_25 : decode cX7_day 25 = .ok (.aload_n 0, 1) := by decide +kernel
theorem dX7_day_26 : decode cX7_day 26 = .ok (.iconst 5, 1) := by decide +kernel
theorem dX7_day_27 : decode cX7_day 27 = .ok (.aload_n 0, 1) := by decide +kernel
theorem dX7_day_28 : decode cX7_day 28 = .ok (.getfield 47, 3) := by decide +kernel
theorem dX7_day_31 : decode cX7_day 31 = .ok (.aload_n 0, 1) := by decide +kernel
theorem dX7_day_32 : decode cX7_day 32 = .ok (.getfield 19, 3) := by decide +kernel
theorem dX7_day_35 : decode cX7_day 35 = .ok (.aload_n 0, 1) := by decide +kernel
theorem dX7_day_36 : decode cX7_day 36 = .ok (.getfield 40, 3) := by decide +kernel
theorem dX7_day_39 : decode cX7_day 39 = .ok (.iload_n 1, 1) := by decide +kernel
theorem dX7_day_40 : decode cX7_day 40 = .ok (.invokevirtual 230, 3) := by decide +kernel
theorem dX7_day_43 : decode cX7_day 43 = .ok (.invokevirtual 168, 3) := by decide +kernel
theorem dX7_day_46 : decode cX7_day 46 = .ok (.ireturn, 1) := by decide +kernel
set_option maxRecDepth 20000 in
theorem ggX7_month_X7_isMonth : GoodIn wsX7_month wsX7_isMonth := goodIn_r _ [4, 5, 6, 3, 7] (by decide +kernel) (by decide +kernel)
set_option maxRecDepth 20000 in
theorem gX7_month_X7_isMonth : GoodIn wsX7_month (va_wsS RX7 234 yX7_isMonth wsX7_isMonth) := goodIn_app (goodIn_of _ (by decide +kernel)) ggX7_month_X7_isMonth
set_option maxRecDepth 20000 in
theorem ggX7_month_X7_lack : GoodIn wsX7_month wsX7_lack := goodIn_r _ [11, 12, 109, 110, 111, 112, 113, 114, 115, 116] (by decide +kernel) (by decide +kernel)
set_option maxRecDepth 20000 in
theorem gX7_month_X7_lack : GoodIn wsX7_month (wsV RX7 96 RX7 yX7_lack wsX7_lack) := goodIn_app (goodIn_of _ (by decide +kernel)) ggX7_month_X7_lack
set_option maxRecDepth 20000 in
theorem ggX7_month_X7_monthWithout : GoodIn wsX7_month wsX7_monthWithout := goodIn_r _ [16, 17, 18, 19, 20, 21, 22, 23, 24, 25, 26, 27, 28, 29, 30, 31, 32, 33, 34, 35, 36, 37, 38, 39, 40, 41, 42, 43, 44, 45, 46, 47, 48, 49, 50, 51, 52, 53, 54, 55, 56, 57, 58, 59, 60, 61, 62, 63, 64, 65, 66, 67, 68, 69, 70, 71, 72, 73, 74, 75, 76, 77, 78, 79, 80, 81, 82, 83, 84, 85, 86, 87, 88, 89, 90, 91, 92, 93, 94, 95, 96, 97, 98, 99, 100, 109, 110, 111, 112, 113, 114, 115, 116, 117, 118, 119, 120, 121, 122, 123, 124, 125, 126, 127, 128] (by decide +kernel) (by decide +kernel)
set_option maxRecDepth 20000 in
theorem gX7_month_X7_monthWithout : GoodIn wsX7_month (wsV RX7 237 RX7 yX7_monthWithout wsX7_monthWithout) := goodIn_app (goodIn_of _ (by decide +kernel)) ggX7_month_X7_monthWithout
set_option maxRecDepth 20000 in
theorem ggX7_month_X7_answerOr : GoodIn wsX7_month wsX7_answerOr := goodIn_r _ [104, 8, 9, 10, 3, 11, 12, 105, 106, 107, 108, 109, 110, 111, 112, 113, 114, 115, 116] (by decide +kernel) (by decide +kernel)
set_option maxRecDepth 20000 in
theorem gX7_month_X7_answerOr : GoodIn wsX7_month (wsV RX7 168 RX7 yX7_answerOr wsX7_answerOr) := goodIn_app (goodIn_of _ (by decide +kernel)) ggX7_month_X7_answerOr
theorem dX7_month_0 : decode cX7_month 0 = .ok (.iload_n 1, 1) := by decide +kernel
theorem dX7_month_1 : decode cX7_month 1 = .ok (.invokestatic 234, 3) := by decide +kernel
theorem dX7_month_4 : decode cX7_month 4 = .ok (.ifCond .ne 9, 3) := by decide +kernel
theorem dX7_month_7 : decode cX7_month 7 = .ok (.aload_n 0, 1) := by decide +kernel
theorem dX7_month_8 : decode cX7_month 8 = .ok (.iconst 1, 1) := by decide +kernel
theorem dX7_month_9 : decode cX7_month 9 = .ok (.invokevirtual 96, 3) := by decide +kernel
theorem dX7_month_12 : decode cX7_month 12 = .ok (.ireturn, 1) := by decide +kernel
theorem dX7_month_13 : decode cX7_month 13 = .ok (.aload_n 0, 1) := by decide +kernel
theorem dX7_month_14 : decode cX7_month 14 = .ok (.iconst 5, 1) := by decide +kernel
theorem dX7_month_15 : decode cX7_month 15 = .ok (.aload_n 0, 1) := by decide +kernel
theorem dX7_month_16 : decode cX7_month 16 = .ok (.iload_n 1, 1) := by decide +kernel
theorem dX7_month_17 : decode cX7_month 17 = .ok (.iconst (-1), 1) := by decide +kernel
theorem dX7_month_18 : decode cX7_month 18 = .ok (.invokevirtual 237, 3) := by decide +kernel
theorem dX7_month_21 : decode cX7_month 21 = .ok (.invokevirtual 168, 3) := by decide +kernel
theorem dX7_month_24 : decode cX7_month 24 = .ok (.ireturn, 1) := by decide +kernel
set_option maxRecDepth 20000 in
theorem ggX7_smooth_X7_isMonth : GoodIn wsX7_smooth wsX7_isMonth := goodIn_r _ [7, 8, 9, 6, 10] (by decide +kernel) (by decide +kernel)
set_option maxRecDepth 20000 in
theorem gX7_smooth_X7_isMonth : GoodIn wsX7_smooth (va_wsS RX7 234 yX7_isMonth wsX7_isMonth) := goodIn_app (goodIn_of _ (by decide +kernel)) ggX7_smooth_X7_isMonth
set_option maxRecDepth 20000 in
theorem ggX7_smooth_X3_isSmoothWidth : GoodIn wsX7_smooth wsX3_isSmoothWidth := goodIn_r _ [14] (by decide +kernel) (by decide +kernel)
set_option maxRecDepth 20000 in
theorem gX7_smooth_X3_isSmoothWidth : GoodIn wsX7_smooth (va_wsS RX7 240 yX3_isSmoothWidth wsX3_isSmoothWidth) := goodIn_app (goodIn_of _ (by decide +kernel)) ggX7_smooth_X3_isSmoothWidth
