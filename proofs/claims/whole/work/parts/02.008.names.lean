set_option maxRecDepth 20000 in
theorem gX7_middle_X7_arePair : GoodIn wsX7_middle (wsV RX7 159 RX7 yX7_arePair wsX7_arePair) := goodIn_app (goodIn_of _ (by decide +kernel)) ggX7_middle_X7_arePair
set_option maxRecDepth 20000 in
theorem ggX7_middle_X7_lack : GoodIn wsX7_middle wsX7_lack := goodIn_r _ [15, 16, 74, 75, 76, 77, 78, 79, 80, 81] (by decide +kernel) (by decide +kernel)
set_option maxRecDepth 20000 in
theorem gX7_middle_X7_lack : GoodIn wsX7_middle (wsV RX7 96 RX7 yX7_lack wsX7_lack) := goodIn_app (goodIn_of _ (by decide +kernel)) ggX7_middle_X7_lack
set_option maxRecDepth 20000 in
theorem ggX7_middle_X2_gather : GoodIn wsX7_middle wsX2_gather := goodIn_r _ [21, 22, 23, 24, 25, 26, 27, 28, 29, 30, 31, 32, 33, 34, 35, 36, 37, 38, 39, 40, 41, 42, 43, 44, 45, 46, 82, 83, 84, 85, 86, 87, 88, 89] (by decide +kernel) (by decide +kernel)
set_option maxRecDepth 20000 in
theorem gX7_middle_X2_gather : GoodIn wsX7_middle (wsV RX7 171 RX2 yX2_gather wsX2_gather) := goodIn_app (goodIn_of _ (by decide +kernel)) ggX7_middle_X2_gather
set_option maxRecDepth 20000 in
theorem ggX7_middle_X2_order : GoodIn wsX7_middle wsX2_order := goodIn_r _ [50, 22, 51, 52, 53, 20, 54, 23, 24, 82, 83, 84] (by decide +kernel) (by decide +kernel)
set_option maxRecDepth 20000 in
theorem gX7_middle_X2_order : GoodIn wsX7_middle (wsV RX7 178 RX2 yX2_order wsX2_order) := goodIn_app (goodIn_of _ (by decide +kernel)) ggX7_middle_X2_order
set_option maxRecDepth 20000 in
theorem ggX7_middle_X7_tellFraction : GoodIn wsX7_middle wsX7_tellFraction := goodIn_r _ [58, 59, 60, 61, 62, 63, 64, 65, 66, 67, 68, 69, 70, 71, 72, 6, 73, 16, 74, 75, 76, 77, 78, 79, 80, 81, 90, 91] (by decide +kernel) (by decide +kernel)
set_option maxRecDepth 20000 in
theorem gX7_middle_X7_tellFraction : GoodIn wsX7_middle (wsV RX7 188 RX7 yX7_tellFraction wsX7_tellFraction) := goodIn_app (goodIn_of _ (by decide +kernel)) ggX7_middle_X7_tellFraction
theorem dX7_middle_0 : decode cX7_middle 0 = .ok (.aload_n 0, 1) := by decide +kernel
theorem dX7_middle_1 : decode cX7_middle 1 = .ok (.iload_n 1, 1) := by decide +kernel
theorem dX7_middle_2 : decode cX7_middle 2 = .ok (.iload_n 2, 1) := by decide +kernel
theorem dX7_middle_3 : decode cX7_middle 3 = .ok (.invokevirtual 159, 3) := by decide +kernel
theorem dX7_middle_6 : decode cX7_middle 6 = .ok (.ifCond .ne 9, 3) := by decide +kernel
theorem dX7_middle_9 : decode cX7_middle 9 = .ok (.aload_n 0, 1) := by decide +kernel
theorem dX7_middle_10 : decode cX7_middle 10 = .ok (.iconst 1, 1) := by decide +kernel
theorem dX7_middle_11 : decode cX7_middle 11 = .ok (.invokevirtual 96, 3) := by decide +kernel
theorem dX7_middle_14 : decode cX7_middle 14 = .ok (.ireturn, 1) := by decide +kernel
theorem dX7_middle_15 : decode cX7_middle 15 = .ok (.aload_n 0, 1) := by decide +kernel
theorem dX7_middle_16 : decode cX7_middle 16 = .ok (.getfield 26, 3) := by decide +kernel
theorem dX7_middle_19 : decode cX7_middle 19 = .ok (.aload_n 0, 1) := by decide +kernel
theorem dX7_middle_20 : decode cX7_middle 20 = .ok (.getfield 19, 3) := by decide +kernel
theorem dX7_middle_23 : decode cX7_middle 23 = .ok (.iload_n 1, 1) := by decide +kernel
theorem dX7_middle_24 : decode cX7_middle 24 = .ok (.iload_n 2, 1) := by decide +kernel
theorem dX7_middle_25 : decode cX7_middle 25 = .ok (.invokevirtual 171, 3) := by decide +kernel
theorem dX7_middle_28 : decode cX7_middle 28 = .ok (.aload_n 0, 1) := by decide +kernel
theorem dX7_middle_29 : decode cX7_middle 29 = .ok (.getfield 26, 3) := by decide +kernel
theorem dX7_middle_32 : decode cX7_middle 32 = .ok (.getfield 175, 3) := by decide +kernel
theorem dX7_middle_35 : decode cX7_middle 35 = .ok (.ifCond .ne 10, 3) := by decide +kernel
theorem dX7_middle_38 : decode cX7_middle 38 = .ok (.aload_n 0, 1) := by decide +kernel
theorem dX7_middle_39 : decode cX7_middle 39 = .ok (.bipush 6, 2) := by decide +kernel
theorem dX7_middle_41 : decode cX7_middle 41 = .ok (.invokevirtual 96, 3) := by decide +kernel
theorem dX7_middle_44 : decode cX7_middle 44 = .ok (.ireturn, 1) := by decide +kernel
theorem dX7_middle_45 : decode cX7_middle 45 = .ok (.aload_n 0, 1) := by decide +kernel
theorem dX7_middle_46 : decode cX7_middle 46 = .ok (.getfield 26, 3) := by decide +kernel
theorem dX7_middle_49 : decode cX7_middle 49 = .ok (.invokevirtual 178, 3) := by decide +kernel
theorem dX7_middle_52 : decode cX7_middle 52 = .ok (.aload_n 0, 1) := by decide +kernel
theorem dX7_middle_53 : decode cX7_middle 53 = .ok (.getfield 26, 3) := by decide +kernel
theorem dX7_middle_56 : decode cX7_middle 56 = .ok (.getfield 175, 3) := by decide +kernel
theorem dX7_middle_59 : decode cX7_middle 59 = .ok (.iconst 1, 1) := by decide +kernel
theorem dX7_middle_60 : decode cX7_middle 60 = .ok (.isub, 1) := by decide +kernel
theorem dX7_middle_61 : decode cX7_middle 61 = .ok (.iconst 2, 1) := by decide +kernel
theorem dX7_middle_62 : decode cX7_middle 62 = .ok (.idiv, 1) := by decide +kernel
theorem dX7_middle_63 : decode cX7_middle 63 = .ok (.istore_n 3, 1) := by decide +kernel
theorem dX7_middle_64 : decode cX7_middle 64 = .ok (.aload_n 0, 1) := by decide +kernel
theorem dX7_middle_65 : decode cX7_middle 65 = .ok (.aload_n 0, 1) := by decide +kernel
theorem dX7_middle_66 : decode cX7_middle 66 = .ok (.getfield 26, 3) := by decide +kernel
theorem dX7_middle_69 : decode cX7_middle 69 = .ok (.getfield 181, 3) := by decide +kernel
theorem dX7_middle_72 : decode cX7_middle 72 = .ok (.iload_n 3, 1) := by decide +kernel
theorem dX7_middle_73 : decode cX7_middle 73 = .ok (.iaload, 1) := by decide +kernel
theorem dX7_middle_74 : decode cX7_middle 74 = .ok (.aload_n 0, 1) := by decide +kernel
theorem dX7_middle_75 : decode cX7_middle 75 = .ok (.getfield 26, 3) := by decide +kernel
theorem dX7_middle_78 : decode cX7_middle 78 = .ok (.getfield 185, 3) := by decide +kernel
theorem dX7_middle_81 : decode cX7_middle 81 = .ok (.iload_n 3, 1) := by decide +kernel
theorem dX7_middle_82 : decode cX7_middle 82 = .ok (.iaload, 1) := by decide +kernel
theorem dX7_middle_83 : decode cX7_middle 83 = .ok (.invokevirtual 188, 3) := by decide +kernel
theorem dX7_middle_86 : decode cX7_middle 86 = .ok (.ireturn, 1) := by decide +kernel
set_option maxRecDepth 20000 in
theorem ggX7_step_X7_arePair : GoodIn wsX7_step wsX7_arePair := goodIn_r _ [7, 8, 9, 10, 6, 11, 2, 84, 85, 86, 87, 88, 89, 90, 91, 98, 99, 100, 101, 102] (by decide +kernel) (by decide +kernel)
set_option maxRecDepth 20000 in
theorem gX7_step_X7_arePair : GoodIn wsX7_step (wsV RX7 159 RX7 yX7_arePair wsX7_arePair) := goodIn_app (goodIn_of _ (by decide +kernel)) ggX7_step_X7_arePair
set_option maxRecDepth 20000 in
theorem ggX7_step_X7_isWithin : GoodIn wsX7_step wsX7_isWithin := goodIn_r _ [14] (by decide +kernel) (by decide +kernel)
set_option maxRecDepth 20000 in
theorem gX7_step_X7_isWithin : GoodIn wsX7_step (va_wsS RX7 69 yX7_isWithin wsX7_isWithin) := goodIn_app (goodIn_of _ (by decide +kernel)) ggX7_step_X7_isWithin
set_option maxRecDepth 20000 in
theorem ggX7_step_X7_lack : GoodIn wsX7_step wsX7_lack := goodIn_r _ [18, 19, 84, 85, 86, 87, 88, 89, 90, 91] (by decide +kernel) (by decide +kernel)
set_option maxRecDepth 20000 in
theorem gX7_step_X7_lack : GoodIn wsX7_step (wsV RX7 96 RX7 yX7_lack wsX7_lack) := goodIn_app (goodIn_of _ (by decide +kernel)) ggX7_step_X7_lack
set_option maxRecDepth 20000 in
theorem ggX7_step_X4_gather : GoodIn wsX7_step wsX4_gather := goodIn_r _ [24, 25, 26, 27, 28, 29, 30, 31, 32, 33, 34, 35, 36, 37, 38, 39, 40, 41, 42, 43, 44, 92, 93, 94, 95, 96, 97, 98, 99, 100, 101, 102] (by decide +kernel) (by decide +kernel)
set_option maxRecDepth 20000 in
theorem gX7_step_X4_gather : GoodIn wsX7_step (wsV RX7 191 RX4 yX4_gather wsX4_gather) := goodIn_app (goodIn_of _ (by decide +kernel)) ggX7_step_X4_gather
set_option maxRecDepth 20000 in
theorem ggX7_step_X4_pool : GoodIn wsX7_step wsX4_pool := goodIn_r _ [48, 49, 26, 50, 25, 51, 52, 53, 54, 55, 23, 56, 57, 58, 59, 60, 92, 93, 94, 95, 96, 97] (by decide +kernel) (by decide +kernel)
set_option maxRecDepth 20000 in
theorem gX7_step_X4_pool : GoodIn wsX7_step (wsV RX7 192 RX4 yX4_pool wsX4_pool) := goodIn_app (goodIn_of _ (by decide +kernel)) ggX7_step_X4_pool
set_option maxRecDepth 20000 in
theorem ggX7_step_X4_blockFor : GoodIn wsX7_step wsX4_blockFor := goodIn_r _ [64, 49, 52, 92, 93, 94, 95, 96, 97] (by decide +kernel) (by decide +kernel)
set_option maxRecDepth 20000 in
theorem gX7_step_X4_blockFor : GoodIn wsX7_step (wsV RX7 195 RX4 yX4_blockFor wsX4_blockFor) := goodIn_app (goodIn_of _ (by decide +kernel)) ggX7_step_X4_blockFor
set_option maxRecDepth 20000 in
theorem ggX7_step_X7_tellFraction : GoodIn wsX7_step wsX7_tellFraction := goodIn_r _ [68, 69, 70, 71, 72, 73, 74, 75, 76, 77, 78, 79, 80, 81, 82, 6, 83, 19, 84, 85, 86, 87, 88, 89, 90, 91, 103, 104] (by decide +kernel) (by decide +kernel)
set_option maxRecDepth 20000 in
theorem gX7_step_X7_tellFraction : GoodIn wsX7_step (wsV RX7 188 RX7 yX7_tellFraction wsX7_tellFraction) := goodIn_app (goodIn_of _ (by decide +kernel)) ggX7_step_X7_tellFraction
theorem dX7_step_0 : decode cX7_step 0 = .ok (.aload_n 0, 1) := by decide +kernel
theorem dX7_step_1 : decode cX7_step 1 = .ok (.iload_n 1, 1) := by decide +kernel
theorem dX7_step_2 : decode cX7_step 2 = .ok (.iload_n 2, 1) := by decide +kernel
theorem dX7_step_3 : decode cX7_step 3 = .ok (.invokevirtual 159, 3) := by decide +kernel
theorem dX7_step_6 : decode cX7_step 6 = .ok (.ifCond .eq 12, 3) := by decide +kernel
theorem dX7_step_9 : decode cX7_step 9 = .ok (.iload_n 3, 1) := by decide +kernel
theorem dX7_step_10 : decode cX7_step 10 = .ok (.bipush 20, 2) := by decide +kernel
theorem dX7_step_12 : decode cX7_step 12 = .ok (.invokestatic 69, 3) := by decide +kernel
theorem dX7_step_15 : decode cX7_step 15 = .ok (.ifCond .ne 9, 3) := by decide +kernel
theorem dX7_step_18 : decode cX7_step 18 = .ok (.aload_n 0, 1) := by decide +kernel
theorem dX7_step_19 : decode cX7_step 19 = .ok (.iconst 1, 1) := by decide +kernel
theorem dX7_step_20 : decode cX7_step 20 = .ok (.invokevirtual 96, 3) := by decide +kernel
theorem dX7_step_23 : decode cX7_step 23 = .ok (.ireturn, 1) := by decide +kernel
theorem dX7_step_24 : decode cX7_step 24 = .ok (.aload_n 0, 1) := by decide +kernel
theorem dX7_step_25 : decode cX7_step 25 = .ok (.getfield 33, 3) := by decide +kernel
theorem dX7_step_28 : decode cX7_step 28 = .ok (.aload_n 0, 1) := by decide +kernel
theorem dX7_step_29 : decode cX7_step 29 = .ok (.getfield 19, 3) := by decide +kernel
theorem dX7_step_32 : decode cX7_step 32 = .ok (.iload_n 1, 1) := by decide +kernel
theorem dX7_step_33 : decode cX7_step 33 = .ok (.iload_n 2, 1) := by decide +kernel
theorem dX7_step_34 : decode cX7_step 34 = .ok (.invokevirtual 191, 3) := by decide +kernel
theorem dX7_step_37 : decode cX7_step 37 = .ok (.aload_n 0, 1) := by decide +kernel
theorem dX7_step_38 : decode cX7_step 38 = .ok (.getfield 33, 3) := by decide +kernel
theorem dX7_step_41 : decode cX7_step 41 = .ok (.invokevirtual 192, 3) := by decide +kernel
theorem dX7_step_44 : decode cX7_step 44 = .ok (.aload_n 0, 1) := by decide +kernel
theorem dX7_step_45 : decode cX7_step 45 = .ok (.getfield 33, 3) := by decide +kernel
theorem dX7_step_48 : decode cX7_step 48 = .ok (.iload_n 3, 1) := by decide +kernel
theorem dX7_step_49 : decode cX7_step 49 = .ok (.invokevirtual 195, 3) := by decide +kernel
theorem dX7_step_52 : decode cX7_step 52 = .ok (.istore 4, 2) := by decide +kernel
theorem dX7_step_54 : decode cX7_step 54 = .ok (.iload 4, 2) := by decide +kernel
theorem dX7_step_56 : decode cX7_step 56 = .ok (.iconst (-1), 1) := by decide +kernel
theorem dX7_step_57 : decode cX7_step 57 = .ok (.if_icmp .ne 10, 3) := by decide +kernel
theorem dX7_step_60 : decode cX7_step 60 = .ok (.aload_n 0, 1) := by decide +kernel
theorem dX7_step_61 : decode cX7_step 61 = .ok (.bipush 6, 2) := by decide +kernel
theorem dX7_step_63 : decode cX7_step 63 = .ok (.invokevirtual 96, 3) := by decide +kernel
theorem dX7_step_66 : decode cX7_step 66 = .ok (.ireturn, 1) := by decide +kernel
theorem dX7_step_67 : decode cX7_step 67 = .ok (.aload_n 0, 1) := by decide +kernel
theorem dX7_step_68 : decode cX7_step 68 = .ok (.aload_n 0, 1) := by decide +kernel
theorem dX7_step_69 : decode cX7_step 69 = .ok (.getfield 33, 3) := by decide +kernel
theorem dX7_step_72 : decode cX7_step 72 = .ok (.getfield 198, 3) := by decide +kernel
theorem dX7_step_75 : decode cX7_step 75 = .ok (.iload 4, 2) := by decide +kernel
theorem dX7_step_77 : decode cX7_step 77 = .ok (.iaload, 1) := by decide +kernel
theorem dX7_step_78 : decode cX7_step 78 = .ok (.aload_n 0, 1) := by decide +kernel
theorem dX7_step_79 : decode cX7_step 79 = .ok (.getfield 33, 3) := by decide +kernel
theorem dX7_step_82 : decode cX7_step 82 = .ok (.getfield 201, 3) := by decide +kernel
theorem dX7_step_85 : decode cX7_step 85 = .ok (.iload 4, 2) := by decide +kernel
theorem dX7_step_87 : decode cX7_step 87 = .ok (.iaload, 1) := by decide +kernel
theorem dX7_step_88 : decode cX7_step 88 = .ok (.invokevirtual 188, 3) := by decide +kernel
theorem dX7_step_91 : decode cX7_step 91 = .ok (.ireturn, 1) := by decide +kernel
set_option maxRecDepth 20000 in
theorem ggX7_blind_X7_arePair : GoodIn wsX7_blind wsX7_arePair := goodIn_r _ [6, 7, 8, 9, 5, 10, 1, 43, 44, 45, 46, 47, 48, 49, 50, 51, 52, 53, 54, 55] (by decide +kernel) (by decide +kernel)
set_option maxRecDepth 20000 in
theorem gX7_blind_X7_arePair : GoodIn wsX7_blind (wsV RX7 159 RX7 yX7_arePair wsX7_arePair) := goodIn_app (goodIn_of _ (by decide +kernel)) ggX7_blind_X7_arePair
set_option maxRecDepth 20000 in
theorem ggX7_blind_X7_lack : GoodIn wsX7_blind wsX7_lack := goodIn_r _ [14, 15, 43, 44, 45, 46, 47, 48, 49, 50] (by decide +kernel) (by decide +kernel)
set_option maxRecDepth 20000 in
theorem gX7_blind_X7_lack : GoodIn wsX7_blind (wsV RX7 96 RX7 yX7_lack wsX7_lack) := goodIn_app (goodIn_of _ (by decide +kernel)) ggX7_blind_X7_lack
set_option maxRecDepth 20000 in
theorem ggX7_blind_X5_countBoth : GoodIn wsX7_blind wsX5_countBoth := goodIn_r _ [20, 21, 51, 52, 53, 54, 55] (by decide +kernel) (by decide +kernel)
set_option maxRecDepth 20000 in
theorem gX7_blind_X5_countBoth : GoodIn wsX7_blind (wsV RX7 162 RX5 yX5_countBoth wsX5_countBoth) := goodIn_app (goodIn_of _ (by decide +kernel)) ggX7_blind_X5_countBoth
set_option maxRecDepth 20000 in
theorem ggX7_blind_X5_countBothAbove : GoodIn wsX7_blind wsX5_countBothAbove := goodIn_r _ [25, 26, 27, 28, 19, 29, 30, 31, 32, 33, 34, 35, 36, 37, 38, 51, 52, 53, 54, 55] (by decide +kernel) (by decide +kernel)
set_option maxRecDepth 20000 in
theorem gX7_blind_X5_countBothAbove : GoodIn wsX7_blind (wsV RX7 204 RX5 yX5_countBothAbove wsX5_countBothAbove) := goodIn_app (goodIn_of _ (by decide +kernel)) ggX7_blind_X5_countBothAbove
set_option maxRecDepth 20000 in
theorem ggX7_blind_X7_answer : GoodIn wsX7_blind wsX7_answer := goodIn_r _ [42, 15, 43, 44, 45, 46, 47, 48, 49, 50] (by decide +kernel) (by decide +kernel)
set_option maxRecDepth 20000 in
theorem gX7_blind_X7_answer : GoodIn wsX7_blind (wsV RX7 119 RX7 yX7_answer wsX7_answer) := goodIn_app (goodIn_of _ (by decide +kernel)) ggX7_blind_X7_answer
theorem dX7_blind_0 : decode cX7_blind 0 = .ok (.aload_n 0, 1) := by decide +kernel
theorem dX7_blind_1 : decode cX7_blind 1 = .ok (.iload_n 1, 1) := by decide +kernel
theorem dX7_blind_2 : decode cX7_blind 2 = .ok (.iload_n 2, 1) := by decide +kernel
theorem dX7_blind_3 : decode cX7_blind 3 = .ok (.invokevirtual 159, 3) := by decide +kernel
theorem dX7_blind_6 : decode cX7_blind 6 = .ok (.ifCond .ne 9, 3) := by decide +kernel
theorem dX7_blind_9 : decode cX7_blind 9 = .ok (.aload_n 0, 1) := by decide +kernel
theorem dX7_blind_10 : decode cX7_blind 10 = .ok (.iconst 1, 1) := by decide +kernel
theorem dX7_blind_11 : decode cX7_blind 11 = .ok (.invokevirtual 96, 3) := by decide +kernel
theorem dX7_blind_14 : decode cX7_blind 14 = .ok (.ireturn, 1) := by decide +kernel
theorem dX7_blind_15 : decode cX7_blind 15 = .ok (.aload_n 0, 1) := by decide +kernel
theorem dX7_blind_16 : decode cX7_blind 16 = .ok (.getfield 19, 3) := by decide +kernel
theorem dX7_blind_19 : decode cX7_blind 19 = .ok (.iload_n 1, 1) := by decide +kernel
theorem dX7_blind_20 : decode cX7_blind 20 = .ok (.iload_n 2, 1) := by decide +kernel
theorem dX7_blind_21 : decode cX7_blind 21 = .ok (.invokevirtual 162, 3) := by decide +kernel
theorem dX7_blind_24 : decode cX7_blind 24 = .ok (.ifCond .ne 10, 3) := by decide +kernel
theorem dX7_blind_27 : decode cX7_blind 27 = .ok (.aload_n 0, 1) := by decide +kernel
theorem dX7_blind_28 : decode cX7_blind 28 = .ok (.bipush 6, 2) := by decide +kernel
theorem dX7_blind_30 : decode cX7_blind 30 = .ok (.invokevirtual 96, 3) := by decide +kernel
theorem dX7_blind_33 : decode cX7_blind 33 = .ok (.ireturn, 1) := by decide +kernel
theorem dX7_blind_34 : decode cX7_blind 34 = .ok (.aload_n 0, 1) := by decide +kernel
theorem dX7_blind_35 : decode cX7_blind 35 = .ok (.getfield 19, 3) := by decide +kernel
theorem dX7_blind_38 : decode cX7_blind 38 = .ok (.iload_n 1, 1) := by decide +kernel
theorem dX7_blind_39 : decode cX7_blind 39 = .ok (.iload_n 2, 1) := by decide +kernel
theorem dX7_blind_40 : decode cX7_blind 40 = .ok (.iconst 0, 1) := by decide +kernel
theorem dX7_blind_41 : decode cX7_blind 41 = .ok (.invokevirtual 204, 3) := by decide +kernel
theorem dX7_blind_44 : decode cX7_blind 44 = .ok (.istore_n 3, 1) := by decide +kernel
theorem dX7_blind_45 : decode cX7_blind 45 = .ok (.iconst 0, 1) := by decide +kernel
theorem dX7_blind_46 : decode cX7_blind 46 = .ok (.istore 4, 2) := by decide +kernel
theorem dX7_blind_48 : decode cX7_blind 48 = .ok (.iload 4, 2) := by decide +kernel
theorem dX7_blind_50 : decode cX7_blind 50 = .ok (.bipush 20, 2) := by decide +kernel
theorem dX7_blind_52 : decode cX7_blind 52 = .ok (.if_icmp .ge 24, 3) := by decide +kernel
theorem dX7_blind_55 : decode cX7_blind 55 = .ok (.aload_n 0, 1) := by decide +kernel
theorem dX7_blind_56 : decode cX7_blind 56 = .ok (.getfield 19, 3) := by decide +kernel
theorem dX7_blind_59 : decode cX7_blind 59 = .ok (.iload_n 2, 1) := by decide +kernel
theorem dX7_blind_60 : decode cX7_blind 60 = .ok (.iload_n 1, 1) := by decide +kernel
theorem dX7_blind_61 : decode cX7_blind 61 = .ok (.iload 4, 2) := by decide +kernel
theorem dX7_blind_63 : decode cX7_blind 63 = .ok (.invokevirtual 204, 3) := by decide +kernel
theorem dX7_blind_66 : decode cX7_blind 66 = .ok (.iload_n 3, 1) := by decide +kernel
theorem dX7_blind_67 : decode cX7_blind 67 = .ok (.if_icmp .le 9, 3) := by decide +kernel
theorem dX7_blind_70 : decode cX7_blind 70 = .ok (.iinc 4 1, 3) := by decide +kernel
theorem dX7_blind_73 : decode cX7_blind 73 = .ok (.goto (-25), 3) := by decide +kernel
theorem dX7_blind_76 : decode cX7_blind 76 = .ok (.aload_n 0, 1) := by decide +kernel
theorem dX7_blind_77 : decode cX7_blind 77 = .ok (.iload 4, 2) := by decide +kernel
theorem dX7_blind_79 : decode cX7_blind 79 = .ok (.invokevirtual 119, 3) := by decide +kernel
theorem dX7_blind_82 : decode cX7_blind 82 = .ok (.ireturn, 1) := by decide +kernel
set_option maxRecDepth 20000 in
theorem ggX7_active_X7_isEye : GoodIn wsX7_active wsX7_isEye := goodIn_r _ [6, 1, 55, 56, 57, 58, 59, 60, 61, 62, 63, 64, 65, 66, 67] (by decide +kernel) (by decide +kernel)
set_option maxRecDepth 20000 in
theorem gX7_active_X7_isEye : GoodIn wsX7_active (wsV RX7 122 RX7 yX7_isEye wsX7_isEye) := goodIn_app (goodIn_of _ (by decide +kernel)) ggX7_active_X7_isEye
set_option maxRecDepth 20000 in
theorem ggX7_active_X7_isDay : GoodIn wsX7_active wsX7_isDay := goodIn_r _ [9, 10, 11, 5, 12] (by decide +kernel) (by decide +kernel)
set_option maxRecDepth 20000 in
theorem gX7_active_X7_isDay : GoodIn wsX7_active (va_wsS RX7 125 yX7_isDay wsX7_isDay) := goodIn_app (goodIn_of _ (by decide +kernel)) ggX7_active_X7_isDay
set_option maxRecDepth 20000 in
theorem ggX7_active_X7_lack : GoodIn wsX7_active wsX7_lack := goodIn_r _ [16, 17, 55, 56, 57, 58, 59, 60, 61, 62] (by decide +kernel) (by decide +kernel)
set_option maxRecDepth 20000 in
theorem gX7_active_X7_lack : GoodIn wsX7_active (wsV RX7 96 RX7 yX7_lack wsX7_lack) := goodIn_app (goodIn_of _ (by decide +kernel)) ggX7_active_X7_lack
set_option maxRecDepth 20000 in
theorem ggX7_active_X5_countDays : GoodIn wsX7_active wsX5_countDays := goodIn_r _ [22, 23, 24, 25, 21, 26, 27, 63, 64, 65, 66, 67] (by decide +kernel) (by decide +kernel)
set_option maxRecDepth 20000 in
theorem gX7_active_X5_countDays : GoodIn wsX7_active (wsV RX7 149 RX5 yX5_countDays wsX5_countDays) := goodIn_app (goodIn_of _ (by decide +kernel)) ggX7_active_X5_countDays
set_option maxRecDepth 20000 in
theorem ggX7_active_X5_countActive : GoodIn wsX7_active wsX5_countActive := goodIn_r _ [31, 23, 24, 25, 21, 26, 27, 32, 33, 34, 35, 63, 64, 65, 66, 67] (by decide +kernel) (by decide +kernel)
set_option maxRecDepth 20000 in
theorem gX7_active_X5_countActive : GoodIn wsX7_active (wsV RX7 207 RX5 yX5_countActive wsX5_countActive) := goodIn_app (goodIn_of _ (by decide +kernel)) ggX7_active_X5_countActive
set_option maxRecDepth 20000 in
theorem ggX7_active_X7_tellFraction : GoodIn wsX7_active wsX7_tellFraction := goodIn_r _ [39, 40, 41, 42, 43, 44, 45, 46, 47, 48, 49, 50, 51, 52, 53, 5, 54, 17, 55, 56, 57, 58, 59, 60, 61, 62, 68, 69] (by decide +kernel) (by decide +kernel)
set_option maxRecDepth 20000 in
theorem gX7_active_X7_tellFraction : GoodIn wsX7_active (wsV RX7 188 RX7 yX7_tellFraction wsX7_tellFraction) := goodIn_app (goodIn_of _ (by decide +kernel)) ggX7_active_X7_tellFraction
theorem dX7_active_0 : decode cX7_active 0 = .ok (.aload_n 0, 1) := by decide +kernel
theorem dX7_active_1 : decode cX7_active 1 = .ok (.iload_n 1, 1) := by decide +kernel
theorem dX7_active_2 : decode cX7_active 2 = .ok (.invokevirtual 122, 3) := by decide +kernel
theorem dX7_active_5 : decode cX7_active 5 = .ok (.ifCond .eq 22, 3) := by decide +kernel
theorem dX7_active_8 : decode cX7_active 8 = .ok (.iload_n 2, 1) := by decide +kernel
theorem dX7_active_9 : decode cX7_active 9 = .ok (.invokestatic 125, 3) := by decide +kernel
theorem dX7_active_12 : decode cX7_active 12 = .ok (.ifCond .eq 15, 3) := by decide +kernel
theorem dX7_active_15 : decode cX7_active 15 = .ok (.iload_n 3, 1) := by decide +kernel
theorem dX7_active_16 : decode cX7_active 16 = .ok (.invokestatic 125, 3) := by decide +kernel
theorem dX7_active_19 : decode cX7_active 19 = .ok (.ifCond .eq 8, 3) := by decide +kernel
theorem dX7_active_22 : decode cX7_active 22 = .ok (.iload_n 2, 1) := by decide +kernel
theorem dX7_active_23 : decode cX7_active 23 = .ok (.iload_n 3, 1) := by decide +kernel
theorem dX7_active_24 : decode cX7_active 24 = .ok (.if_icmp .le 9, 3) := by decide +kernel
theorem dX7_active_27 : decode cX7_active 27 = .ok (.aload_n 0, 1) := by decide +kernel
theorem dX7_active_28 : decode cX7_active 28 = .ok (.iconst 1, 1) := by decide +kernel
theorem dX7_active_29 : decode cX7_active 29 = .ok (.invokevirtual 96, 3) := by decide +kernel
theorem dX7_active_32 : decode cX7_active 32 = .ok (.ireturn, 1) := by decide +kernel
theorem dX7_active_33 : decode cX7_active 33 = .ok (.aload_n 0, 1) := by decide +kernel
theorem dX7_active_34 : decode cX7_active 34 = .ok (.getfield 19, 3) := by decide +kernel
theorem dX7_active_37 : decode cX7_active 37 = .ok (.iload_n 1, 1) := by decide +kernel
theorem dX7_active_38 : decode cX7_active 38 = .ok (.iload_n 2, 1) := by decide +kernel
theorem dX7_active_39 : decode cX7_active 39 = .ok (.iload_n 3, 1) := by decide +kernel
theorem dX7_active_40 : decode cX7_active 40 = .ok (.invokevirtual 149, 3) := by decide +kernel
theorem dX7_active_43 : decode cX7_active 43 = .ok (.istore 4, 2) := by decide +kernel
theorem dX7_active_45 : decode cX7_active 45 = .ok (.iload 4, 2) := by decide +kernel
theorem dX7_active_47 : decode cX7_active 47 = .ok (.ifCond .ne 9, 3) := by decide +kernel
theorem dX7_active_50 : decode cX7_active 50 = .ok (.aload_n 0, 1) := by decide +kernel
theorem dX7_active_51 : decode cX7_active 51 = .ok (.iconst 5, 1) := by decide +kernel
theorem dX7_active_52 : decode cX7_active 52 = .ok (.invokevirtual 96, 3) := by decide +kernel
theorem dX7_active_55 : decode cX7_active 55 = .ok (.ireturn, 1) := by decide +kernel
theorem dX7_active_56 : decode cX7_active 56 = .ok (.aload_n 0, 1) := by decide +kernel
theorem dX7_active_57 : decode cX7_active 57 = .ok (.aload_n 0, 1) := by decide +kernel
theorem dX7_active_58 : decode cX7_active 58 = .ok (.getfield 19, 3) := by decide +kernel
theorem dX7_active_61 : decode cX7_active 61 = .ok (.iload_n 1, 1) := by decide +kernel
theorem dX7_active_62 : decode cX7_active 62 = .ok (.iload_n 2, 1) := by decide +kernel
theorem dX7_active_63 : decode cX7_active 63 = .ok (.iload_n 3, 1) := by decide +kernel
theorem dX7_active_64 : decode cX7_active 64 = .ok (.invokevirtual 207, 3) := by decide +kernel
theorem dX7_active_67 : decode cX7_active 67 = .ok (.iload 4, 2) := by decide +kernel
theorem dX7_active_69 : decode cX7_active 69 = .ok (.invokevirtual 188, 3) := by decide +kernel
theorem dX7_active_72 : decode cX7_active 72 = .ok (.ireturn, 1) := by decide +kernel
set_option maxRecDepth 20000 in
theorem ggX7_chain_X7_isEye : GoodIn wsX7_chain wsX7_isEye := goodIn_r _ [7, 2, 72, 73, 74, 75, 76, 77, 78, 79, 84, 85, 86, 87, 88] (by decide +kernel) (by decide +kernel)
