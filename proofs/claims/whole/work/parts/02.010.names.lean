set_option maxRecDepth 20000 in
theorem ggX7_smooth_X7_lack : GoodIn wsX7_smooth wsX7_lack := goodIn_r _ [18, 19, 119, 120, 121, 122, 123, 124, 125, 126] (by decide +kernel) (by decide +kernel)
set_option maxRecDepth 20000 in
theorem gX7_smooth_X7_lack : GoodIn wsX7_smooth (wsV RX7 96 RX7 yX7_lack wsX7_lack) := goodIn_app (goodIn_of _ (by decide +kernel)) ggX7_smooth_X7_lack
set_option maxRecDepth 20000 in
theorem ggX7_smooth_X0_reckon : GoodIn wsX7_smooth wsX0_reckon := goodIn_r _ [24, 25, 26, 27, 28, 29, 30, 31, 32, 33, 34, 23, 35, 36, 37, 38, 39, 40, 41, 42, 43, 44, 45, 46, 47, 48, 49, 50, 51, 52, 53, 54, 55, 56, 57, 58, 59, 60, 61, 62, 63, 64, 65, 66, 67, 68, 69, 70, 71, 72, 73, 127, 128, 129, 130, 131, 132, 133, 134, 135] (by decide +kernel) (by decide +kernel)
set_option maxRecDepth 20000 in
theorem gX7_smooth_X0_reckon : GoodIn wsX7_smooth (wsV RX7 210 RX0 yX0_reckon wsX0_reckon) := goodIn_app (goodIn_of _ (by decide +kernel)) ggX7_smooth_X0_reckon
set_option maxRecDepth 20000 in
theorem ggX7_smooth_X3_reckonMonths : GoodIn wsX7_smooth wsX3_reckonMonths := goodIn_r _ [77, 78, 79, 80, 81, 13, 82, 83, 84, 85, 86, 87, 88, 89, 90, 46, 91, 92, 93, 94, 95, 96, 97, 98, 99, 100, 101, 102, 103, 104, 136, 137, 138, 131, 132, 133, 134, 135, 127, 128, 129, 130] (by decide +kernel) (by decide +kernel)
set_option maxRecDepth 20000 in
theorem gX7_smooth_X3_reckonMonths : GoodIn wsX7_smooth (wsV RX7 243 RX3 yX3_reckonMonths wsX3_reckonMonths) := goodIn_app (goodIn_of _ (by decide +kernel)) ggX7_smooth_X3_reckonMonths
set_option maxRecDepth 20000 in
theorem ggX7_smooth_X3_smoothOf : GoodIn wsX7_smooth wsX3_smoothOf := goodIn_r _ [108, 78, 109, 37, 38, 39, 110, 41, 42, 136, 137, 138] (by decide +kernel) (by decide +kernel)
set_option maxRecDepth 20000 in
theorem gX7_smooth_X3_smoothOf : GoodIn wsX7_smooth (wsV RX7 247 RX3 yX3_smoothOf wsX3_smoothOf) := goodIn_app (goodIn_of _ (by decide +kernel)) ggX7_smooth_X3_smoothOf
set_option maxRecDepth 20000 in
theorem ggX7_smooth_X7_answerOr : GoodIn wsX7_smooth wsX7_answerOr := goodIn_r _ [114, 15, 16, 17, 6, 18, 19, 115, 116, 117, 118, 119, 120, 121, 122, 123, 124, 125, 126] (by decide +kernel) (by decide +kernel)
set_option maxRecDepth 20000 in
theorem gX7_smooth_X7_answerOr : GoodIn wsX7_smooth (wsV RX7 168 RX7 yX7_answerOr wsX7_answerOr) := goodIn_app (goodIn_of _ (by decide +kernel)) ggX7_smooth_X7_answerOr
theorem dX7_smooth_0 : decode cX7_smooth 0 = .ok (.iload_n 1, 1) := by decide +kernel
theorem dX7_smooth_1 : decode cX7_smooth 1 = .ok (.invokestatic 234, 3) := by decide +kernel
theorem dX7_smooth_4 : decode cX7_smooth 4 = .ok (.ifCond .eq 10, 3) := by decide +kernel
theorem dX7_smooth_7 : decode cX7_smooth 7 = .ok (.iload_n 2, 1) := by decide +kernel
theorem dX7_smooth_8 : decode cX7_smooth 8 = .ok (.invokestatic 240, 3) := by decide +kernel
theorem dX7_smooth_11 : decode cX7_smooth 11 = .ok (.ifCond .ne 9, 3) := by decide +kernel
theorem dX7_smooth_14 : decode cX7_smooth 14 = .ok (.aload_n 0, 1) := by decide +kernel
theorem dX7_smooth_15 : decode cX7_smooth 15 = .ok (.iconst 1, 1) := by decide +kernel
theorem dX7_smooth_16 : decode cX7_smooth 16 = .ok (.invokevirtual 96, 3) := by decide +kernel
theorem dX7_smooth_19 : decode cX7_smooth 19 = .ok (.ireturn, 1) := by decide +kernel
theorem dX7_smooth_20 : decode cX7_smooth 20 = .ok (.aload_n 0, 1) := by decide +kernel
theorem dX7_smooth_21 : decode cX7_smooth 21 = .ok (.getfield 40, 3) := by decide +kernel
theorem dX7_smooth_24 : decode cX7_smooth 24 = .ok (.aload_n 0, 1) := by decide +kernel
theorem dX7_smooth_25 : decode cX7_smooth 25 = .ok (.getfield 19, 3) := by decide +kernel
theorem dX7_smooth_28 : decode cX7_smooth 28 = .ok (.iconst (-1), 1) := by decide +kernel
theorem dX7_smooth_29 : decode cX7_smooth 29 = .ok (.invokevirtual 210, 3) := by decide +kernel
theorem dX7_smooth_32 : decode cX7_smooth 32 = .ok (.aload_n 0, 1) := by decide +kernel
theorem dX7_smooth_33 : decode cX7_smooth 33 = .ok (.getfield 47, 3) := by decide +kernel
theorem dX7_smooth_36 : decode cX7_smooth 36 = .ok (.aload_n 0, 1) := by decide +kernel
theorem dX7_smooth_37 : decode cX7_smooth 37 = .ok (.getfield 19, 3) := by decide +kernel
theorem dX7_smooth_40 : decode cX7_smooth 40 = .ok (.aload_n 0, 1) := by decide +kernel
theorem dX7_smooth_41 : decode cX7_smooth 41 = .ok (.getfield 40, 3) := by decide +kernel
theorem dX7_smooth_44 : decode cX7_smooth 44 = .ok (.invokevirtual 243, 3) := by decide +kernel
theorem dX7_smooth_47 : decode cX7_smooth 47 = .ok (.aload_n 0, 1) := by decide +kernel
theorem dX7_smooth_48 : decode cX7_smooth 48 = .ok (.iconst 5, 1) := by decide +kernel
theorem dX7_smooth_49 : decode cX7_smooth 49 = .ok (.aload_n 0, 1) := by decide +kernel
theorem dX7_smooth_50 : decode cX7_smooth 50 = .ok (.getfield 47, 3) := by decide +kernel
theorem dX7_smooth_53 : decode cX7_smooth 53 = .ok (.iload_n 1, 1) := by decide +kernel
theorem dX7_smooth_54 : decode cX7_smooth 54 = .ok (.iload_n 2, 1) := by decide +kernel
theorem dX7_smooth_55 : decode cX7_smooth 55 = .ok (.invokevirtual 247, 3) := by decide +kernel
theorem dX7_smooth_58 : decode cX7_smooth 58 = .ok (.invokevirtual 168, 3) := by decide +kernel
theorem dX7_smooth_61 : decode cX7_smooth 61 = .ok (.ireturn, 1) := by decide +kernel
set_option maxRecDepth 20000 in
theorem ggX7_turn_X3_isSmoothWidth : GoodIn wsX7_turn wsX3_isSmoothWidth := goodIn_r _ [7] (by decide +kernel) (by decide +kernel)
set_option maxRecDepth 20000 in
theorem gX7_turn_X3_isSmoothWidth : GoodIn wsX7_turn (va_wsS RX7 240 yX3_isSmoothWidth wsX3_isSmoothWidth) := goodIn_app (goodIn_of _ (by decide +kernel)) ggX7_turn_X3_isSmoothWidth
set_option maxRecDepth 20000 in
theorem ggX7_turn_X7_lack : GoodIn wsX7_turn wsX7_lack := goodIn_r _ [12, 13, 130, 131, 132, 133, 134, 135, 136, 137] (by decide +kernel) (by decide +kernel)
set_option maxRecDepth 20000 in
theorem gX7_turn_X7_lack : GoodIn wsX7_turn (wsV RX7 96 RX7 yX7_lack wsX7_lack) := goodIn_app (goodIn_of _ (by decide +kernel)) ggX7_turn_X7_lack
set_option maxRecDepth 20000 in
theorem ggX7_turn_X0_reckon : GoodIn wsX7_turn wsX0_reckon := goodIn_r _ [18, 19, 20, 21, 22, 23, 24, 25, 26, 27, 28, 17, 29, 30, 31, 32, 33, 34, 35, 36, 37, 38, 39, 40, 41, 42, 43, 44, 45, 46, 47, 48, 49, 50, 51, 52, 53, 54, 55, 56, 57, 58, 59, 60, 61, 62, 63, 64, 65, 66, 67, 138, 139, 140, 141, 142, 143, 144, 145, 146] (by decide +kernel) (by decide +kernel)
set_option maxRecDepth 20000 in
theorem gX7_turn_X0_reckon : GoodIn wsX7_turn (wsV RX7 210 RX0 yX0_reckon wsX0_reckon) := goodIn_app (goodIn_of _ (by decide +kernel)) ggX7_turn_X0_reckon
set_option maxRecDepth 20000 in
theorem ggX7_turn_X3_reckonMonths : GoodIn wsX7_turn wsX3_reckonMonths := goodIn_r _ [71, 72, 73, 74, 75, 6, 76, 77, 78, 79, 80, 81, 82, 83, 84, 40, 85, 86, 87, 88, 89, 90, 91, 92, 93, 94, 95, 96, 97, 98, 147, 148, 149, 142, 143, 144, 145, 146, 138, 139, 140, 141] (by decide +kernel) (by decide +kernel)
set_option maxRecDepth 20000 in
theorem gX7_turn_X3_reckonMonths : GoodIn wsX7_turn (wsV RX7 243 RX3 yX3_reckonMonths wsX3_reckonMonths) := goodIn_app (goodIn_of _ (by decide +kernel)) ggX7_turn_X3_reckonMonths
set_option maxRecDepth 20000 in
theorem ggX7_turn_X3_reckonSmooths : GoodIn wsX7_turn wsX3_reckonSmooths := goodIn_r _ [102, 103, 104, 105, 106, 6, 107, 72, 108, 31, 32, 33, 109, 35, 36, 147, 148, 149] (by decide +kernel) (by decide +kernel)
set_option maxRecDepth 20000 in
theorem gX7_turn_X3_reckonSmooths : GoodIn wsX7_turn (wsV RX7 250 RX3 yX3_reckonSmooths wsX3_reckonSmooths) := goodIn_app (goodIn_of _ (by decide +kernel)) ggX7_turn_X3_reckonSmooths
set_option maxRecDepth 20000 in
theorem ggX7_turn_X3_findTurn : GoodIn wsX7_turn wsX3_findTurn := goodIn_r _ [113, 114, 115, 116, 6, 117, 103, 108, 31, 32, 33, 109, 35, 36, 118, 119, 120, 121, 147, 148, 149] (by decide +kernel) (by decide +kernel)
set_option maxRecDepth 20000 in
theorem gX7_turn_X3_findTurn : GoodIn wsX7_turn (wsV RX7 254 RX3 yX3_findTurn wsX3_findTurn) := goodIn_app (goodIn_of _ (by decide +kernel)) ggX7_turn_X3_findTurn
set_option maxRecDepth 20000 in
theorem ggX7_turn_X7_answerOr : GoodIn wsX7_turn wsX7_answerOr := goodIn_r _ [125, 8, 9, 10, 11, 12, 13, 126, 127, 128, 129, 130, 131, 132, 133, 134, 135, 136, 137] (by decide +kernel) (by decide +kernel)
set_option maxRecDepth 20000 in
theorem gX7_turn_X7_answerOr : GoodIn wsX7_turn (wsV RX7 168 RX7 yX7_answerOr wsX7_answerOr) := goodIn_app (goodIn_of _ (by decide +kernel)) ggX7_turn_X7_answerOr
theorem dX7_turn_0 : decode cX7_turn 0 = .ok (.iload_n 2, 1) := by decide +kernel
theorem dX7_turn_1 : decode cX7_turn 1 = .ok (.invokestatic 240, 3) := by decide +kernel
theorem dX7_turn_4 : decode cX7_turn 4 = .ok (.ifCond .eq 14, 3) := by decide +kernel
theorem dX7_turn_7 : decode cX7_turn 7 = .ok (.iload_n 3, 1) := by decide +kernel
theorem dX7_turn_8 : decode cX7_turn 8 = .ok (.iconst 1, 1) := by decide +kernel
theorem dX7_turn_9 : decode cX7_turn 9 = .ok (.if_icmp .lt 9, 3) := by decide +kernel
theorem dX7_turn_12 : decode cX7_turn 12 = .ok (.iload_n 3, 1) := by decide +kernel
theorem dX7_turn_13 : decode cX7_turn 13 = .ok (.bipush 8, 2) := by decide +kernel
theorem dX7_turn_15 : decode cX7_turn 15 = .ok (.if_icmp .le 9, 3) := by decide +kernel
theorem dX7_turn_18 : decode cX7_turn 18 = .ok (.aload_n 0, 1) := by decide +kernel
theorem dX7_turn_19 : decode cX7_turn 19 = .ok (.iconst 1, 1) := by decide +kernel
theorem dX7_turn_20 : decode cX7_turn 20 = .ok (.invokevirtual 96, 3) := by decide +kernel
theorem dX7_turn_23 : decode cX7_turn 23 = .ok (.ireturn, 1) := by decide +kernel
theorem dX7_turn_24 : decode cX7_turn 24 = .ok (.iload_n 1, 1) := by decide +kernel
theorem dX7_turn_25 : decode cX7_turn 25 = .ok (.ifCond .ge 10, 3) := by decide +kernel
theorem dX7_turn_28 : decode cX7_turn 28 = .ok (.aload_n 0, 1) := by decide +kernel
theorem dX7_turn_29 : decode cX7_turn 29 = .ok (.bipush 6, 2) := by decide +kernel
theorem dX7_turn_31 : decode cX7_turn 31 = .ok (.invokevirtual 96, 3) := by decide +kernel
theorem dX7_turn_34 : decode cX7_turn 34 = .ok (.ireturn, 1) := by decide +kernel
theorem dX7_turn_35 : decode cX7_turn 35 = .ok (.aload_n 0, 1) := by decide +kernel
theorem dX7_turn_36 : decode cX7_turn 36 = .ok (.getfield 40, 3) := by decide +kernel
theorem dX7_turn_39 : decode cX7_turn 39 = .ok (.aload_n 0, 1) := by decide +kernel
theorem dX7_turn_40 : decode cX7_turn 40 = .ok (.getfield 19, 3) := by decide +kernel
theorem dX7_turn_43 : decode cX7_turn 43 = .ok (.iconst (-1), 1) := by decide +kernel
theorem dX7_turn_44 : decode cX7_turn 44 = .ok (.invokevirtual 210, 3) := by decide +kernel
theorem dX7_turn_47 : decode cX7_turn 47 = .ok (.aload_n 0, 1) := by decide +kernel
theorem dX7_turn_48 : decode cX7_turn 48 = .ok (.getfield 47, 3) := by decide +kernel
theorem dX7_turn_51 : decode cX7_turn 51 = .ok (.aload_n 0, 1) := by decide +kernel
theorem dX7_turn_52 : decode cX7_turn 52 = .ok (.getfield 19, 3) := by decide +kernel
theorem dX7_turn_55 : decode cX7_turn 55 = .ok (.aload_n 0, 1) := by decide +kernel
theorem dX7_turn_56 : decode cX7_turn 56 = .ok (.getfield 40, 3) := by decide +kernel
theorem dX7_turn_59 : decode cX7_turn 59 = .ok (.invokevirtual 243, 3) := by decide +kernel
theorem dX7_turn_62 : decode cX7_turn 62 = .ok (.aload_n 0, 1) := by decide +kernel
theorem dX7_turn_63 : decode cX7_turn 63 = .ok (.getfield 47, 3) := by decide +kernel
theorem dX7_turn_66 : decode cX7_turn 66 = .ok (.iload_n 2, 1) := by decide +kernel
theorem dX7_turn_67 : decode cX7_turn 67 = .ok (.invokevirtual 250, 3) := by decide +kernel
theorem dX7_turn_70 : decode cX7_turn 70 = .ok (.aload_n 0, 1) := by decide +kernel
theorem dX7_turn_71 : decode cX7_turn 71 = .ok (.bipush 6, 2) := by decide +kernel
theorem dX7_turn_73 : decode cX7_turn 73 = .ok (.aload_n 0, 1) := by decide +kernel
theorem dX7_turn_74 : decode cX7_turn 74 = .ok (.getfield 47, 3) := by decide +kernel
theorem dX7_turn_77 : decode cX7_turn 77 = .ok (.iload_n 1, 1) := by decide +kernel
theorem dX7_turn_78 : decode cX7_turn 78 = .ok (.iload_n 3, 1) := by decide +kernel
theorem dX7_turn_79 : decode cX7_turn 79 = .ok (.iload 4, 2) := by decide +kernel
theorem dX7_turn_81 : decode cX7_turn 81 = .ok (.invokevirtual 254, 3) := by decide +kernel
theorem dX7_turn_84 : decode cX7_turn 84 = .ok (.invokevirtual 168, 3) := by decide +kernel
theorem dX7_turn_87 : decode cX7_turn 87 = .ok (.ireturn, 1) := by decide +kernel
set_option maxRecDepth 20000 in
theorem ggX7_change_X7_isMonth : GoodIn wsX7_change wsX7_isMonth := goodIn_r _ [4, 5, 6, 3, 7] (by decide +kernel) (by decide +kernel)
set_option maxRecDepth 20000 in
theorem gX7_change_X7_isMonth : GoodIn wsX7_change (va_wsS RX7 234 yX7_isMonth wsX7_isMonth) := goodIn_app (goodIn_of _ (by decide +kernel)) ggX7_change_X7_isMonth
set_option maxRecDepth 20000 in
theorem ggX7_change_X7_isEye : GoodIn wsX7_change wsX7_isEye := goodIn_r _ [11, 12, 109, 110, 111, 112, 113, 114, 115, 116, 117, 118, 119, 120, 121] (by decide +kernel) (by decide +kernel)
set_option maxRecDepth 20000 in
theorem gX7_change_X7_isEye : GoodIn wsX7_change (wsV RX7 122 RX7 yX7_isEye wsX7_isEye) := goodIn_app (goodIn_of _ (by decide +kernel)) ggX7_change_X7_isEye
set_option maxRecDepth 20000 in
theorem ggX7_change_X7_lack : GoodIn wsX7_change wsX7_lack := goodIn_r _ [16, 17, 109, 110, 111, 112, 113, 114, 115, 116] (by decide +kernel) (by decide +kernel)
set_option maxRecDepth 20000 in
theorem gX7_change_X7_lack : GoodIn wsX7_change (wsV RX7 96 RX7 yX7_lack wsX7_lack) := goodIn_app (goodIn_of _ (by decide +kernel)) ggX7_change_X7_lack
set_option maxRecDepth 20000 in
theorem ggX7_change_X7_monthWithout : GoodIn wsX7_change wsX7_monthWithout := goodIn_r _ [21, 22, 12, 23, 24, 25, 26, 27, 28, 29, 30, 31, 32, 33, 34, 35, 36, 37, 38, 39, 40, 41, 42, 43, 44, 45, 46, 47, 48, 49, 50, 51, 52, 53, 54, 55, 56, 57, 58, 59, 60, 61, 62, 63, 64, 65, 66, 67, 68, 69, 70, 71, 72, 73, 74, 75, 76, 77, 78, 79, 80, 81, 82, 83, 84, 85, 86, 87, 88, 89, 90, 91, 92, 93, 94, 95, 96, 97, 98, 99, 100, 101, 102, 103, 104, 109, 110, 111, 112, 113, 114, 115, 116, 122, 123, 124, 125, 117, 118, 119, 120, 121, 126, 127, 128] (by decide +kernel) (by decide +kernel)
set_option maxRecDepth 20000 in
theorem gX7_change_X7_monthWithout : GoodIn wsX7_change (wsV RX7 237 RX7 yX7_monthWithout wsX7_monthWithout) := goodIn_app (goodIn_of _ (by decide +kernel)) ggX7_change_X7_monthWithout
set_option maxRecDepth 20000 in
theorem ggX7_change_X7_answer : GoodIn wsX7_change wsX7_answer := goodIn_r _ [108, 17, 109, 110, 111, 112, 113, 114, 115, 116] (by decide +kernel) (by decide +kernel)
set_option maxRecDepth 20000 in
theorem gX7_change_X7_answer : GoodIn wsX7_change (wsV RX7 119 RX7 yX7_answer wsX7_answer) := goodIn_app (goodIn_of _ (by decide +kernel)) ggX7_change_X7_answer
theorem dX7_change_0 : decode cX7_change 0 = .ok (.iload_n 1, 1) := by decide +kernel
theorem dX7_change_1 : decode cX7_change 1 = .ok (.invokestatic 234, 3) := by decide +kernel
theorem dX7_change_4 : decode cX7_change 4 = .ok (.ifCond .eq 15, 3) := by decide +kernel
theorem dX7_change_7 : decode cX7_change 7 = .ok (.aload_n 0, 1) := by decide +kernel
theorem dX7_change_8 : decode cX7_change 8 = .ok (.iload_n 2, 1) := by decide +kernel
theorem dX7_change_9 : decode cX7_change 9 = .ok (.invokevirtual 122, 3) := by decide +kernel
theorem dX7_change_12 : decode cX7_change 12 = .ok (.ifCond .eq 7, 3) := by decide +kernel
theorem dX7_change_15 : decode cX7_change 15 = .ok (.iload_n 2, 1) := by decide +kernel
theorem dX7_change_16 : decode cX7_change 16 = .ok (.ifCond .ne 9, 3) := by decide +kernel
theorem dX7_change_19 : decode cX7_change 19 = .ok (.aload_n 0, 1) := by decide +kernel
theorem dX7_change_20 : decode cX7_change 20 = .ok (.iconst 1, 1) := by decide +kernel
theorem dX7_change_21 : decode cX7_change 21 = .ok (.invokevirtual 96, 3) := by decide +kernel
theorem dX7_change_24 : decode cX7_change 24 = .ok (.ireturn, 1) := by decide +kernel
theorem dX7_change_25 : decode cX7_change 25 = .ok (.aload_n 0, 1) := by decide +kernel
theorem dX7_change_26 : decode cX7_change 26 = .ok (.iload_n 1, 1) := by decide +kernel
theorem dX7_change_27 : decode cX7_change 27 = .ok (.iconst (-1), 1) := by decide +kernel
theorem dX7_change_28 : decode cX7_change 28 = .ok (.invokevirtual 237, 3) := by decide +kernel
theorem dX7_change_31 : decode cX7_change 31 = .ok (.istore_n 3, 1) := by decide +kernel
theorem dX7_change_32 : decode cX7_change 32 = .ok (.aload_n 0, 1) := by decide +kernel
theorem dX7_change_33 : decode cX7_change 33 = .ok (.iload_n 1, 1) := by decide +kernel
theorem dX7_change_34 : decode cX7_change 34 = .ok (.iload_n 2, 1) := by decide +kernel
theorem dX7_change_35 : decode cX7_change 35 = .ok (.invokevirtual 237, 3) := by decide +kernel
theorem dX7_change_38 : decode cX7_change 38 = .ok (.istore 4, 2) := by decide +kernel
theorem dX7_change_40 : decode cX7_change 40 = .ok (.iload_n 3, 1) := by decide +kernel
theorem dX7_change_41 : decode cX7_change 41 = .ok (.iconst (-1), 1) := by decide +kernel
theorem dX7_change_42 : decode cX7_change 42 = .ok (.if_icmp .eq 9, 3) := by decide +kernel
theorem dX7_change_45 : decode cX7_change 45 = .ok (.iload 4, 2) := by decide +kernel
theorem dX7_change_47 : decode cX7_change 47 = .ok (.iconst (-1), 1) := by decide +kernel
theorem dX7_change_48 : decode cX7_change 48 = .ok (.if_icmp .ne 9, 3) := by decide +kernel
theorem dX7_change_51 : decode cX7_change 51 = .ok (.aload_n 0, 1) := by decide +kernel
theorem dX7_change_52 : decode cX7_change 52 = .ok (.iconst 5, 1) := by decide +kernel
theorem dX7_change_53 : decode cX7_change 53 = .ok (.invokevirtual 96, 3) := by decide +kernel
theorem dX7_change_56 : decode cX7_change 56 = .ok (.ireturn, 1) := by decide +kernel
theorem dX7_change_57 : decode cX7_change 57 = .ok (.aload_n 0, 1) := by decide +kernel
theorem dX7_change_58 : decode cX7_change 58 = .ok (.iload_n 3, 1) := by decide +kernel
theorem dX7_change_59 : decode cX7_change 59 = .ok (.iload 4, 2) := by decide +kernel
theorem dX7_change_61 : decode cX7_change 61 = .ok (.isub, 1) := by decide +kernel
theorem dX7_change_62 : decode cX7_change 62 = .ok (.invokevirtual 119, 3) := by decide +kernel
theorem dX7_change_65 : decode cX7_change 65 = .ok (.ireturn, 1) := by decide +kernel
theorem dX7_isWithin_0 : decode cX7_isWithin 0 = .ok (.iload_n 0, 1) := by decide +kernel
theorem dX7_isWithin_1 : decode cX7_isWithin 1 = .ok (.ifCond .lt 12, 3) := by decide +kernel
theorem dX7_isWithin_4 : decode cX7_isWithin 4 = .ok (.iload_n 0, 1) := by decide +kernel
theorem dX7_isWithin_5 : decode cX7_isWithin 5 = .ok (.iload_n 1, 1) := by decide +kernel
theorem dX7_isWithin_6 : decode cX7_isWithin 6 = .ok (.if_icmp .gt 7, 3) := by decide +kernel
theorem dX7_isWithin_9 : decode cX7_isWithin 9 = .ok (.iconst 1, 1) := by decide +kernel
theorem dX7_isWithin_10 : decode cX7_isWithin 10 = .ok (.goto 4, 3) := by decide +kernel
theorem dX7_isWithin_13 : decode cX7_isWithin 13 = .ok (.iconst 0, 1) := by decide +kernel
theorem dX7_isWithin_14 : decode cX7_isWithin 14 = .ok (.ireturn, 1) := by decide +kernel
set_option maxRecDepth 20000 in
theorem ggX7_isDay_X7_isWithin : GoodIn wsX7_isDay wsX7_isWithin := goodIn_r _ [4] (by decide +kernel) (by decide +kernel)
set_option maxRecDepth 20000 in
theorem gX7_isDay_X7_isWithin : GoodIn wsX7_isDay (va_wsS RX7 69 yX7_isWithin wsX7_isWithin) := goodIn_app (goodIn_of _ (by decide +kernel)) ggX7_isDay_X7_isWithin
theorem dX7_isDay_0 : decode cX7_isDay 0 = .ok (.iload_n 0, 1) := by decide +kernel
theorem dX7_isDay_1 : decode cX7_isDay 1 = .ok (.sipush 239, 3) := by decide +kernel
theorem dX7_isDay_4 : decode cX7_isDay 4 = .ok (.invokestatic 69, 3) := by decide +kernel
theorem dX7_isDay_7 : decode cX7_isDay 7 = .ok (.ireturn, 1) := by decide +kernel
set_option maxRecDepth 20000 in
theorem ggX7_isMonth_X7_isWithin : GoodIn wsX7_isMonth wsX7_isWithin := goodIn_r _ [4] (by decide +kernel) (by decide +kernel)
set_option maxRecDepth 20000 in
theorem gX7_isMonth_X7_isWithin : GoodIn wsX7_isMonth (va_wsS RX7 69 yX7_isWithin wsX7_isWithin) := goodIn_app (goodIn_of _ (by decide +kernel)) ggX7_isMonth_X7_isWithin
theorem dX7_isMonth_0 : decode cX7_isMonth 0 = .ok (.iload_n 0, 1) := by decide +kernel
theorem dX7_isMonth_1 : decode cX7_isMonth 1 = .ok (.bipush 23, 2) := by decide +kernel
theorem dX7_isMonth_3 : decode cX7_isMonth 3 = .ok (.invokestatic 69, 3) := by decide +kernel
theorem dX7_isMonth_6 : decode cX7_isMonth 6 = .ok (.ireturn, 1) := by decide +kernel
theorem dX7_isEye_0 : decode cX7_isEye 0 = .ok (.iload_n 1, 1) := by decide +kernel
theorem dX7_isEye_1 : decode cX7_isEye 1 = .ok (.ifCond .lt 18, 3) := by decide +kernel
theorem dX7_isEye_4 : decode cX7_isEye 4 = .ok (.iload_n 1, 1) := by decide +kernel
theorem dX7_isEye_5 : decode cX7_isEye 5 = .ok (.aload_n 0, 1) := by decide +kernel
theorem dX7_isEye_6 : decode cX7_isEye 6 = .ok (.getfield 19, 3) := by decide +kernel
theorem dX7_isEye_9 : decode cX7_isEye 9 = .ok (.getfield 112, 3) := by decide +kernel
theorem dX7_isEye_12 : decode cX7_isEye 12 = .ok (.if_icmp .ge 7, 3) := by decide +kernel
theorem dX7_isEye_15 : decode cX7_isEye 15 = .ok (.iconst 1, 1) := by decide +kernel
theorem dX7_isEye_16 : decode cX7_isEye 16 = .ok (.goto 4, 3) := by decide +kernel
theorem dX7_isEye_19 : decode cX7_isEye 19 = .ok (.iconst 0, 1) := by decide +kernel
theorem dX7_isEye_20 : decode cX7_isEye 20 = .ok (.ireturn, 1) := by decide +kernel
set_option maxRecDepth 20000 in
theorem ggX7_arePair_X7_isEye : GoodIn wsX7_arePair wsX7_isEye := goodIn_r _ [5, 6, 7, 8, 9, 10, 11, 12, 13, 14, 15, 16, 17, 18, 19] (by decide +kernel) (by decide +kernel)
set_option maxRecDepth 20000 in
theorem gX7_arePair_X7_isEye : GoodIn wsX7_arePair (wsV RX7 122 RX7 yX7_isEye wsX7_isEye) := goodIn_app (goodIn_of _ (by decide +kernel)) ggX7_arePair_X7_isEye
theorem dX7_arePair_0 : decode cX7_arePair 0 = .ok (.aload_n 0, 1) := by decide +kernel
theorem dX7_arePair_1 : decode cX7_arePair 1 = .ok (.iload_n 1, 1) := by decide +kernel
theorem dX7_arePair_2 : decode cX7_arePair 2 = .ok (.invokevirtual 122, 3) := by decide +kernel
theorem dX7_arePair_5 : decode cX7_arePair 5 = .ok (.ifCond .eq 20, 3) := by decide +kernel
theorem dX7_arePair_8 : decode cX7_arePair 8 = .ok (.aload_n 0, 1) := by decide +kernel
theorem dX7_arePair_9 : decode cX7_arePair 9 = .ok (.iload_n 2, 1) := by decide +kernel
theorem dX7_arePair_10 : decode cX7_arePair 10 = .ok (.invokevirtual 122, 3) := by decide +kernel
theorem dX7_arePair_13 : decode cX7_arePair 13 = .ok (.ifCond .eq 12, 3) := by decide +kernel
theorem dX7_arePair_16 : decode cX7_arePair 16 = .ok (.iload_n 1, 1) := by decide +kernel
theorem dX7_arePair_17 : decode cX7_arePair 17 = .ok (.iload_n 2, 1) := by decide +kernel
theorem dX7_arePair_18 : decode cX7_arePair 18 = .ok (.if_icmp .eq 7, 3) := by decide +kernel
theorem dX7_arePair_21 : decode cX7_arePair 21 = .ok (.iconst 1, 1) := by decide +kernel
theorem dX7_arePair_22 : decode cX7_arePair 22 = .ok (.goto 4, 3) := by decide +kernel
theorem dX7_arePair_25 : decode cX7_arePair 25 = .ok (.iconst 0, 1) := by decide +kernel
theorem dX7_arePair_26 : decode cX7_arePair 26 = .ok (.ireturn, 1) := by decide +kernel
theorem dX7_agree_0 : decode cX7_agree 0 = .ok (.aload_n 0, 1) := by decide +kernel
theorem dX7_agree_1 : decode cX7_agree 1 = .ok (.iconst 0, 1) := by decide +kernel
theorem dX7_agree_2 : decode cX7_agree 2 = .ok (.putfield 58, 3) := by decide +kernel
theorem dX7_agree_5 : decode cX7_agree 5 = .ok (.iconst 1, 1) := by decide +kernel
theorem dX7_agree_6 : decode cX7_agree 6 = .ok (.ireturn, 1) := by decide +kernel
theorem dX7_refuse_0 : decode cX7_refuse 0 = .ok (.aload_n 0, 1) := by decide +kernel
theorem dX7_refuse_1 : decode cX7_refuse 1 = .ok (.iload_n 1, 1) := by decide +kernel
theorem dX7_refuse_2 : decode cX7_refuse 2 = .ok (.putfield 58, 3) := by decide +kernel
theorem dX7_refuse_5 : decode cX7_refuse 5 = .ok (.iconst 0, 1) := by decide +kernel
theorem dX7_refuse_6 : decode cX7_refuse 6 = .ok (.ireturn, 1) := by decide +kernel
theorem dX7_answer_0 : decode cX7_answer 0 = .ok (.aload_n 0, 1) := by decide +kernel
theorem dX7_answer_1 : decode cX7_answer 1 = .ok (.iconst 0, 1) := by decide +kernel
theorem dX7_answer_2 : decode cX7_answer 2 = .ok (.putfield 58, 3) := by decide +kernel
theorem dX7_answer_5 : decode cX7_answer 5 = .ok (.iload_n 1, 1) := by decide +kernel
theorem dX7_answer_6 : decode cX7_answer 6 = .ok (.ireturn, 1) := by decide +kernel
theorem dX7_lack_0 : decode cX7_lack 0 = .ok (.aload_n 0, 1) := by decide +kernel
theorem dX7_lack_1 : decode cX7_lack 1 = .ok (.iload_n 1, 1) := by decide +kernel
theorem dX7_lack_2 : decode cX7_lack 2 = .ok (.putfield 58, 3) := by decide +kernel
theorem dX7_lack_5 : decode cX7_lack 5 = .ok (.iconst (-1), 1) := by decide +kernel
theorem dX7_lack_6 : decode cX7_lack 6 = .ok (.ireturn, 1) := by decide +kernel
set_option maxRecDepth 20000 in
theorem ggX7_answerOr_X7_lack : GoodIn wsX7_answerOr wsX7_lack := goodIn_r _ [5, 6, 11, 12, 13, 14, 15, 16, 17, 18] (by decide +kernel) (by decide +kernel)
set_option maxRecDepth 20000 in
theorem gX7_answerOr_X7_lack : GoodIn wsX7_answerOr (wsV RX7 96 RX7 yX7_lack wsX7_lack) := goodIn_app (goodIn_of _ (by decide +kernel)) ggX7_answerOr_X7_lack
set_option maxRecDepth 20000 in
theorem ggX7_answerOr_X7_answer : GoodIn wsX7_answerOr wsX7_answer := goodIn_r _ [10, 6, 11, 12, 13, 14, 15, 16, 17, 18] (by decide +kernel) (by decide +kernel)
set_option maxRecDepth 20000 in
theorem gX7_answerOr_X7_answer : GoodIn wsX7_answerOr (wsV RX7 119 RX7 yX7_answer wsX7_answer) := goodIn_app (goodIn_of _ (by decide +kernel)) ggX7_answerOr_X7_answer
theorem dX7_answerOr_0 : decode cX7_answerOr 0 = .ok (.iload_n 2, 1) := by decide +kernel
theorem dX7_answerOr_1 : decode cX7_answerOr 1 = .ok (.iconst (-1), 1) := by decide +kernel
theorem dX7_answerOr_2 : decode cX7_answerOr 2 = .ok (.if_icmp .ne 11, 3) := by decide +kernel
theorem dX7_answerOr_5 : decode cX7_answerOr 5 = .ok (.aload_n 0, 1) := by decide +kernel
theorem dX7_answerOr_6 : decode cX7_answerOr 6 = .ok (.iload_n 1, 1) := by decide +kernel
theorem dX7_answerOr_7 : decode cX7_answerOr 7 = .ok (.invokevirtual 96, 3) := by decide +kernel
theorem dX7_answerOr_10 : decode cX7_answerOr 10 = .ok (.goto 8, 3) := by decide +kernel
theorem dX7_answerOr_13 : decode cX7_answerOr 13 = .ok (.aload_n 0, 1) := by decide +kernel
theorem dX7_answerOr_14 : decode cX7_answerOr 14 = .ok (.iload_n 2, 1) := by decide +kernel
theorem dX7_answerOr_15 : decode cX7_answerOr 15 = .ok (.invokevirtual 119, 3) := by decide +kernel
theorem dX7_answerOr_18 : decode cX7_answerOr 18 = .ok (.ireturn, 1) := by decide +kernel
set_option maxRecDepth 20000 in
theorem ggX7_tellFraction_X1_put : GoodIn wsX7_tellFraction wsX1_put := goodIn_r _ [6, 7, 8, 9, 10, 5, 11, 26, 27] (by decide +kernel) (by decide +kernel)
