set_option maxRecDepth 20000 in
theorem ggX8_weightOf_X8_lay : GoodIn wsX8_weightOf wsX8_lay := goodIn_r _ [13, 14, 15, 4, 3, 16, 17, 18, 7, 19, 20, 21, 22, 12, 23, 24, 25, 26, 27, 28, 29, 30, 31, 32, 33, 1, 34, 35, 36, 37, 38, 39, 40, 41, 42, 43, 44, 45, 46, 47, 48, 49, 50, 51, 52, 53, 54, 55, 56, 57, 58, 59, 60, 61, 62, 63, 64, 65, 66, 67, 68, 69, 70, 71, 72, 73, 74, 75, 76, 77, 78, 79, 80] (by decide +kernel) (by decide +kernel)
set_option maxRecDepth 20000 in
theorem gX8_weightOf_X8_lay : GoodIn wsX8_weightOf (wsV RX8 161 RX8 yX8_lay wsX8_lay) := goodIn_app (goodIn_of _ (by decide +kernel)) ggX8_weightOf_X8_lay
set_option maxRecDepth 20000 in
theorem ggX8_weightOf_X8_pair : GoodIn wsX8_weightOf wsX8_pair := goodIn_r _ [28] (by decide +kernel) (by decide +kernel)
set_option maxRecDepth 20000 in
theorem gX8_weightOf_X8_pair : GoodIn wsX8_weightOf (va_wsS RX8 150 yX8_pair wsX8_pair) := goodIn_app (goodIn_of _ (by decide +kernel)) ggX8_weightOf_X8_pair
theorem dX8_weightOf_0 : decode cX8_weightOf 0 = .ok (.aload_n 0, 1) := by decide +kernel
theorem dX8_weightOf_1 : decode cX8_weightOf 1 = .ok (.iload_n 1, 1) := by decide +kernel
theorem dX8_weightOf_2 : decode cX8_weightOf 2 = .ok (.invokevirtual 161, 3) := by decide +kernel
theorem dX8_weightOf_5 : decode cX8_weightOf 5 = .ok (.istore_n 2, 1) := by decide +kernel
theorem dX8_weightOf_6 : decode cX8_weightOf 6 = .ok (.iload_n 2, 1) := by decide +kernel
theorem dX8_weightOf_7 : decode cX8_weightOf 7 = .ok (.iconst (-1), 1) := by decide +kernel
theorem dX8_weightOf_8 : decode cX8_weightOf 8 = .ok (.if_icmp .ne 5, 3) := by decide +kernel
theorem dX8_weightOf_11 : decode cX8_weightOf 11 = .ok (.iconst (-1), 1) := by decide +kernel
theorem dX8_weightOf_12 : decode cX8_weightOf 12 = .ok (.ireturn, 1) := by decide +kernel
theorem dX8_weightOf_13 : decode cX8_weightOf 13 = .ok (.ldc2_w 120, 3) := by decide +kernel
theorem dX8_weightOf_16 : decode cX8_weightOf 16 = .ok (.lstore_n 3, 1) := by decide +kernel
theorem dX8_weightOf_17 : decode cX8_weightOf 17 = .ok (.iload_n 2, 1) := by decide +kernel
theorem dX8_weightOf_18 : decode cX8_weightOf 18 = .ok (.iconst 1, 1) := by decide +kernel
theorem dX8_weightOf_19 : decode cX8_weightOf 19 = .ok (.isub, 1) := by decide +kernel
theorem dX8_weightOf_20 : decode cX8_weightOf 20 = .ok (.istore 5, 2) := by decide +kernel
theorem dX8_weightOf_22 : decode cX8_weightOf 22 = .ok (.iload 5, 2) := by decide +kernel
theorem dX8_weightOf_24 : decode cX8_weightOf 24 = .ok (.ifCond .le 47, 3) := by decide +kernel
theorem dX8_weightOf_27 : decode cX8_weightOf 27 = .ok (.ldc2_w 164, 3) := by decide +kernel
theorem dX8_weightOf_30 : decode cX8_weightOf 30 = .ok (.lload_n 3, 1) := by decide +kernel
theorem dX8_weightOf_31 : decode cX8_weightOf 31 = .ok (.aload_n 0, 1) := by decide +kernel
theorem dX8_weightOf_32 : decode cX8_weightOf 32 = .ok (.getfield 58, 3) := by decide +kernel
theorem dX8_weightOf_35 : decode cX8_weightOf 35 = .ok (.aload_n 0, 1) := by decide +kernel
theorem dX8_weightOf_36 : decode cX8_weightOf 36 = .ok (.getfield 61, 3) := by decide +kernel
theorem dX8_weightOf_39 : decode cX8_weightOf 39 = .ok (.iload 5, 2) := by decide +kernel
theorem dX8_weightOf_41 : decode cX8_weightOf 41 = .ok (.iconst 1, 1) := by decide +kernel
theorem dX8_weightOf_42 : decode cX8_weightOf 42 = .ok (.isub, 1) := by decide +kernel
theorem dX8_weightOf_43 : decode cX8_weightOf 43 = .ok (.iaload, 1) := by decide +kernel
theorem dX8_weightOf_44 : decode cX8_weightOf 44 = .ok (.aload_n 0, 1) := by decide +kernel
theorem dX8_weightOf_45 : decode cX8_weightOf 45 = .ok (.getfield 61, 3) := by decide +kernel
theorem dX8_weightOf_48 : decode cX8_weightOf 48 = .ok (.iload 5, 2) := by decide +kernel
theorem dX8_weightOf_50 : decode cX8_weightOf 50 = .ok (.iaload, 1) := by decide +kernel
theorem dX8_weightOf_51 : decode cX8_weightOf 51 = .ok (.invokestatic 150, 3) := by decide +kernel
theorem dX8_weightOf_54 : decode cX8_weightOf 54 = .ok (.iaload, 1) := by decide +kernel
theorem dX8_weightOf_55 : decode cX8_weightOf 55 = .ok (.i2l, 1) := by decide +kernel
theorem dX8_weightOf_56 : decode cX8_weightOf 56 = .ok (.lmul, 1) := by decide +kernel
theorem dX8_weightOf_57 : decode cX8_weightOf 57 = .ok (.ldc2_w 120, 3) := by decide +kernel
theorem dX8_weightOf_60 : decode cX8_weightOf 60 = .ok (.ldiv, 1) := by decide +kernel
theorem dX8_weightOf_61 : decode cX8_weightOf 61 = .ok (.invokestatic 166, 3) := by decide +kernel
theorem dX8_weightOf_64 : decode cX8_weightOf 64 = .ok (.lstore_n 3, 1) := by decide +kernel
theorem dX8_weightOf_65 : decode cX8_weightOf 65 = .ok (.iinc 5 (-1), 3) := by decide +kernel
theorem dX8_weightOf_68 : decode cX8_weightOf 68 = .ok (.goto (-46), 3) := by decide +kernel
theorem dX8_weightOf_71 : decode cX8_weightOf 71 = .ok (.lload_n 3, 1) := by decide +kernel
theorem dX8_weightOf_72 : decode cX8_weightOf 72 = .ok (.l2i, 1) := by decide +kernel
theorem dX8_weightOf_73 : decode cX8_weightOf 73 = .ok (.ireturn, 1) := by decide +kernel
set_option maxRecDepth 20000 in
theorem ggX8_weight_X8_isEye : GoodIn wsX8_weight wsX8_isEye := goodIn_r _ [6, 7, 71, 72, 73, 74, 75, 76, 77, 78, 79, 80, 81, 82, 83, 84, 85, 86, 87, 88, 89, 90, 91, 92, 93] (by decide +kernel) (by decide +kernel)
set_option maxRecDepth 20000 in
theorem gX8_weight_X8_isEye : GoodIn wsX8_weight (wsV RX8 110 RX8 yX8_isEye wsX8_isEye) := goodIn_app (goodIn_of _ (by decide +kernel)) ggX8_weight_X8_isEye
set_option maxRecDepth 20000 in
theorem ggX8_weight_X8_refuse : GoodIn wsX8_weight wsX8_refuse := goodIn_r _ [11, 1, 71, 72, 73, 74, 75, 76, 77, 78, 79, 80, 81, 82, 83, 84, 85, 86, 87, 88, 89, 90, 91, 92, 93] (by decide +kernel) (by decide +kernel)
set_option maxRecDepth 20000 in
theorem gX8_weight_X8_refuse : GoodIn wsX8_weight (wsV RX8 99 RX8 yX8_refuse wsX8_refuse) := goodIn_app (goodIn_of _ (by decide +kernel)) ggX8_weight_X8_refuse
set_option maxRecDepth 20000 in
theorem ggX8_weight_X8_weightOf : GoodIn wsX8_weight wsX8_weightOf := goodIn_r _ [15, 16, 17, 18, 19, 20, 21, 22, 23, 24, 25, 26, 5, 27, 28, 29, 30, 31, 32, 33, 34, 35, 36, 37, 7, 38, 39, 40, 41, 42, 43, 44, 45, 46, 47, 48, 49, 50, 51, 52, 53, 54, 55, 56, 57, 58, 59, 60, 61, 62, 63, 64, 65, 66, 67, 68, 69, 70, 71, 72, 73, 74, 75, 76, 77, 78, 79, 80, 81, 82, 83, 84, 85, 86, 87, 88, 89, 90, 91, 92, 93] (by decide +kernel) (by decide +kernel)
set_option maxRecDepth 20000 in
theorem gX8_weight_X8_weightOf : GoodIn wsX8_weight (wsV RX8 169 RX8 yX8_weightOf wsX8_weightOf) := goodIn_app (goodIn_of _ (by decide +kernel)) ggX8_weight_X8_weightOf
theorem dX8_weight_0 : decode cX8_weight 0 = .ok (.aload_n 0, 1) := by decide +kernel
theorem dX8_weight_1 : decode cX8_weight 1 = .ok (.iload_n 1, 1) := by decide +kernel
theorem dX8_weight_2 : decode cX8_weight 2 = .ok (.invokevirtual 110, 3) := by decide +kernel
theorem dX8_weight_5 : decode cX8_weight 5 = .ok (.ifCond .ne 9, 3) := by decide +kernel
theorem dX8_weight_8 : decode cX8_weight 8 = .ok (.aload_n 0, 1) := by decide +kernel
theorem dX8_weight_9 : decode cX8_weight 9 = .ok (.iconst 1, 1) := by decide +kernel
theorem dX8_weight_10 : decode cX8_weight 10 = .ok (.invokevirtual 99, 3) := by decide +kernel
theorem dX8_weight_13 : decode cX8_weight 13 = .ok (.ireturn, 1) := by decide +kernel
theorem dX8_weight_14 : decode cX8_weight 14 = .ok (.aload_n 0, 1) := by decide +kernel
theorem dX8_weight_15 : decode cX8_weight 15 = .ok (.iload_n 1, 1) := by decide +kernel
theorem dX8_weight_16 : decode cX8_weight 16 = .ok (.invokevirtual 169, 3) := by decide +kernel
theorem dX8_weight_19 : decode cX8_weight 19 = .ok (.istore_n 2, 1) := by decide +kernel
theorem dX8_weight_20 : decode cX8_weight 20 = .ok (.iload_n 2, 1) := by decide +kernel
theorem dX8_weight_21 : decode cX8_weight 21 = .ok (.iconst (-1), 1) := by decide +kernel
theorem dX8_weight_22 : decode cX8_weight 22 = .ok (.if_icmp .ne 10, 3) := by decide +kernel
theorem dX8_weight_25 : decode cX8_weight 25 = .ok (.aload_n 0, 1) := by decide +kernel
theorem dX8_weight_26 : decode cX8_weight 26 = .ok (.bipush 6, 2) := by decide +kernel
theorem dX8_weight_28 : decode cX8_weight 28 = .ok (.invokevirtual 99, 3) := by decide +kernel
theorem dX8_weight_31 : decode cX8_weight 31 = .ok (.ireturn, 1) := by decide +kernel
theorem dX8_weight_32 : decode cX8_weight 32 = .ok (.aload_n 0, 1) := by decide +kernel
theorem dX8_weight_33 : decode cX8_weight 33 = .ok (.iconst 0, 1) := by decide +kernel
theorem dX8_weight_34 : decode cX8_weight 34 = .ok (.putfield 73, 3) := by decide +kernel
theorem dX8_weight_37 : decode cX8_weight 37 = .ok (.iload_n 2, 1) := by decide +kernel
theorem dX8_weight_38 : decode cX8_weight 38 = .ok (.ireturn, 1) := by decide +kernel
set_option maxRecDepth 20000 in
theorem ggX8_loop_X8_areTwo : GoodIn wsX8_loop wsX8_areTwo := goodIn_r _ [8, 9, 10, 11, 7, 12, 13, 44, 45, 46, 47, 48, 49, 50, 51, 52, 53, 54, 55, 56, 57, 58, 59, 60, 61, 62, 63, 64, 65, 66] (by decide +kernel) (by decide +kernel)
set_option maxRecDepth 20000 in
theorem gX8_loop_X8_areTwo : GoodIn wsX8_loop (wsV RX8 133 RX8 yX8_areTwo wsX8_areTwo) := goodIn_app (goodIn_of _ (by decide +kernel)) ggX8_loop_X8_areTwo
set_option maxRecDepth 20000 in
theorem ggX8_loop_X8_refuse : GoodIn wsX8_loop wsX8_refuse := goodIn_r _ [17, 2, 44, 45, 46, 47, 48, 49, 50, 51, 52, 53, 54, 55, 56, 57, 58, 59, 60, 61, 62, 63, 64, 65, 66] (by decide +kernel) (by decide +kernel)
set_option maxRecDepth 20000 in
theorem gX8_loop_X8_refuse : GoodIn wsX8_loop (wsV RX8 99 RX8 yX8_refuse wsX8_refuse) := goodIn_app (goodIn_of _ (by decide +kernel)) ggX8_loop_X8_refuse
set_option maxRecDepth 20000 in
theorem ggX8_loop_X8_factorOf : GoodIn wsX8_loop wsX8_factorOf := goodIn_r _ [21, 22, 23, 24, 25, 26, 27, 28, 7, 29, 30, 31, 32, 33, 34, 35, 36, 37, 38, 39, 40, 41, 42, 43, 44, 45, 46, 47, 48, 49, 50, 51, 52, 53, 54, 55, 56, 57, 58, 59, 60, 61, 62, 63, 64, 65, 66] (by decide +kernel) (by decide +kernel)
set_option maxRecDepth 20000 in
theorem gX8_loop_X8_factorOf : GoodIn wsX8_loop (wsV RX8 143 RX8 yX8_factorOf wsX8_factorOf) := goodIn_app (goodIn_of _ (by decide +kernel)) ggX8_loop_X8_factorOf
theorem dX8_loop_0 : decode cX8_loop 0 = .ok (.aload_n 0, 1) := by decide +kernel
theorem dX8_loop_1 : decode cX8_loop 1 = .ok (.iload_n 1, 1) := by decide +kernel
theorem dX8_loop_2 : decode cX8_loop 2 = .ok (.iload_n 2, 1) := by decide +kernel
theorem dX8_loop_3 : decode cX8_loop 3 = .ok (.invokevirtual 133, 3) := by decide +kernel
theorem dX8_loop_6 : decode cX8_loop 6 = .ok (.ifCond .eq 21, 3) := by decide +kernel
theorem dX8_loop_9 : decode cX8_loop 9 = .ok (.aload_n 0, 1) := by decide +kernel
theorem dX8_loop_10 : decode cX8_loop 10 = .ok (.iload_n 2, 1) := by decide +kernel
theorem dX8_loop_11 : decode cX8_loop 11 = .ok (.iload_n 3, 1) := by decide +kernel
theorem dX8_loop_12 : decode cX8_loop 12 = .ok (.invokevirtual 133, 3) := by decide +kernel
theorem dX8_loop_15 : decode cX8_loop 15 = .ok (.ifCond .eq 12, 3) := by decide +kernel
theorem dX8_loop_18 : decode cX8_loop 18 = .ok (.aload_n 0, 1) := by decide +kernel
theorem dX8_loop_19 : decode cX8_loop 19 = .ok (.iload_n 1, 1) := by decide +kernel
theorem dX8_loop_20 : decode cX8_loop 20 = .ok (.iload_n 3, 1) := by decide +kernel
theorem dX8_loop_21 : decode cX8_loop 21 = .ok (.invokevirtual 133, 3) := by decide +kernel
theorem dX8_loop_24 : decode cX8_loop 24 = .ok (.ifCond .ne 9, 3) := by decide +kernel
theorem dX8_loop_27 : decode cX8_loop 27 = .ok (.aload_n 0, 1) := by decide +kernel
theorem dX8_loop_28 : decode cX8_loop 28 = .ok (.iconst 1, 1) := by decide +kernel
theorem dX8_loop_29 : decode cX8_loop 29 = .ok (.invokevirtual 99, 3) := by decide +kernel
theorem dX8_loop_32 : decode cX8_loop 32 = .ok (.ireturn, 1) := by decide +kernel
theorem dX8_loop_33 : decode cX8_loop 33 = .ok (.aload_n 0, 1) := by decide +kernel
theorem dX8_loop_34 : decode cX8_loop 34 = .ok (.iload_n 1, 1) := by decide +kernel
theorem dX8_loop_35 : decode cX8_loop 35 = .ok (.iload_n 2, 1) := by decide +kernel
theorem dX8_loop_36 : decode cX8_loop 36 = .ok (.invokevirtual 143, 3) := by decide +kernel
theorem dX8_loop_39 : decode cX8_loop 39 = .ok (.i2l, 1) := by decide +kernel
theorem dX8_loop_40 : decode cX8_loop 40 = .ok (.lstore 4, 2) := by decide +kernel
theorem dX8_loop_42 : decode cX8_loop 42 = .ok (.aload_n 0, 1) := by decide +kernel
theorem dX8_loop_43 : decode cX8_loop 43 = .ok (.iload_n 2, 1) := by decide +kernel
theorem dX8_loop_44 : decode cX8_loop 44 = .ok (.iload_n 3, 1) := by decide +kernel
theorem dX8_loop_45 : decode cX8_loop 45 = .ok (.invokevirtual 143, 3) := by decide +kernel
theorem dX8_loop_48 : decode cX8_loop 48 = .ok (.i2l, 1) := by decide +kernel
theorem dX8_loop_49 : decode cX8_loop 49 = .ok (.lstore 6, 2) := by decide +kernel
theorem dX8_loop_51 : decode cX8_loop 51 = .ok (.aload_n 0, 1) := by decide +kernel
theorem dX8_loop_52 : decode cX8_loop 52 = .ok (.iload_n 3, 1) := by decide +kernel
theorem dX8_loop_53 : decode cX8_loop 53 = .ok (.iload_n 1, 1) := by decide +kernel
theorem dX8_loop_54 : decode cX8_loop 54 = .ok (.invokevirtual 143, 3) := by decide +kernel
theorem dX8_loop_57 : decode cX8_loop 57 = .ok (.i2l, 1) := by decide +kernel
theorem dX8_loop_58 : decode cX8_loop 58 = .ok (.lstore 8, 2) := by decide +kernel
theorem dX8_loop_60 : decode cX8_loop 60 = .ok (.lload 4, 2) := by decide +kernel
theorem dX8_loop_62 : decode cX8_loop 62 = .ok (.ldc2_w 94, 3) := by decide +kernel
theorem dX8_loop_65 : decode cX8_loop 65 = .ok (.lcmp, 1) := by decide +kernel
theorem dX8_loop_66 : decode cX8_loop 66 = .ok (.ifCond .eq 21, 3) := by decide +kernel
theorem dX8_loop_69 : decode cX8_loop 69 = .ok (.lload 6, 2) := by decide +kernel
theorem dX8_loop_71 : decode cX8_loop 71 = .ok (.ldc2_w 94, 3) := by decide +kernel
theorem dX8_loop_74 : decode cX8_loop 74 = .ok (.lcmp, 1) := by decide +kernel
theorem dX8_loop_75 : decode cX8_loop 75 = .ok (.ifCond .eq 12, 3) := by decide +kernel
theorem dX8_loop_78 : decode cX8_loop 78 = .ok (.lload 8, 2) := by decide +kernel
theorem dX8_loop_80 : decode cX8_loop 80 = .ok (.ldc2_w 94, 3) := by decide +kernel
theorem dX8_loop_83 : decode cX8_loop 83 = .ok (.lcmp, 1) := by decide +kernel
theorem dX8_loop_84 : decode cX8_loop 84 = .ok (.ifCond .ne 10, 3) := by decide +kernel
theorem dX8_loop_87 : decode cX8_loop 87 = .ok (.aload_n 0, 1) := by decide +kernel
theorem dX8_loop_88 : decode cX8_loop 88 = .ok (.bipush 6, 2) := by decide +kernel
theorem dX8_loop_90 : decode cX8_loop 90 = .ok (.invokevirtual 99, 3) := by decide +kernel
theorem dX8_loop_93 : decode cX8_loop 93 = .ok (.ireturn, 1) := by decide +kernel
theorem dX8_loop_94 : decode cX8_loop 94 = .ok (.aload_n 0, 1) := by decide +kernel
theorem dX8_loop_95 : decode cX8_loop 95 = .ok (.iconst 0, 1) := by decide +kernel
theorem dX8_loop_96 : decode cX8_loop 96 = .ok (.putfield 73, 3) := by decide +kernel
theorem dX8_loop_99 : decode cX8_loop 99 = .ok (.lload 4, 2) := by decide +kernel
theorem dX8_loop_101 : decode cX8_loop 101 = .ok (.lload 6, 2) := by decide +kernel
theorem dX8_loop_103 : decode cX8_loop 103 = .ok (.lmul, 1) := by decide +kernel
theorem dX8_loop_104 : decode cX8_loop 104 = .ok (.lload 8, 2) := by decide +kernel
theorem dX8_loop_106 : decode cX8_loop 106 = .ok (.lmul, 1) := by decide +kernel
theorem dX8_loop_107 : decode cX8_loop 107 = .ok (.ldc2_w 164, 3) := by decide +kernel
theorem dX8_loop_110 : decode cX8_loop 110 = .ok (.ldiv, 1) := by decide +kernel
theorem dX8_loop_111 : decode cX8_loop 111 = .ok (.l2i, 1) := by decide +kernel
theorem dX8_loop_112 : decode cX8_loop 112 = .ok (.ireturn, 1) := by decide +kernel
set_option maxRecDepth 20000 in
theorem ggX8_weigh_X8_weightOf : GoodIn wsX8_weigh wsX8_weightOf := goodIn_r _ [7, 8, 9, 10, 11, 12, 13, 14, 15, 16, 17, 18, 6, 19, 20, 21, 22, 23, 24, 25, 26, 27, 28, 29, 1, 30, 31, 32, 33, 34, 35, 36, 37, 38, 39, 40, 41, 42, 43, 44, 45, 46, 47, 48, 49, 50, 51, 52, 53, 54, 55, 56, 57, 58, 59, 60, 61, 62, 63, 64, 65, 66, 67, 68, 69, 70, 71, 72, 73, 74, 75, 76, 77, 78, 79, 80, 81, 82, 83, 84, 85] (by decide +kernel) (by decide +kernel)
set_option maxRecDepth 20000 in
theorem gX8_weigh_X8_weightOf : GoodIn wsX8_weigh (wsV RX8 169 RX8 yX8_weightOf wsX8_weightOf) := goodIn_app (goodIn_of _ (by decide +kernel)) ggX8_weigh_X8_weightOf
theorem dX8_weigh_0 : decode cX8_weigh 0 = .ok (.iconst 0, 1) := by decide +kernel
theorem dX8_weigh_1 : decode cX8_weigh 1 = .ok (.istore_n 1, 1) := by decide +kernel
theorem dX8_weigh_2 : decode cX8_weigh 2 = .ok (.iload_n 1, 1) := by decide +kernel
theorem dX8_weigh_3 : decode cX8_weigh 3 = .ok (.aload_n 0, 1) := by decide +kernel
theorem dX8_weigh_4 : decode cX8_weigh 4 = .ok (.getfield 96, 3) := by decide +kernel
theorem dX8_weigh_7 : decode cX8_weigh 7 = .ok (.if_icmp .ge 20, 3) := by decide +kernel
theorem dX8_weigh_10 : decode cX8_weigh 10 = .ok (.aload_n 0, 1) := by decide +kernel
theorem dX8_weigh_11 : decode cX8_weigh 11 = .ok (.getfield 64, 3) := by decide +kernel
theorem dX8_weigh_14 : decode cX8_weigh 14 = .ok (.iload_n 1, 1) := by decide +kernel
theorem dX8_weigh_15 : decode cX8_weigh 15 = .ok (.aload_n 0, 1) := by decide +kernel
theorem dX8_weigh_16 : decode cX8_weigh 16 = .ok (.iload_n 1, 1) := by decide +kernel
theorem dX8_weigh_17 : decode cX8_weigh 17 = .ok (.invokevirtual 169, 3) := by decide +kernel
theorem dX8_weigh_20 : decode cX8_weigh 20 = .ok (.iastore, 1) := by decide +kernel
theorem dX8_weigh_21 : decode cX8_weigh 21 = .ok (.iinc 1 1, 3) := by decide +kernel
theorem dX8_weigh_24 : decode cX8_weigh 24 = .ok (.goto (-22), 3) := by decide +kernel
theorem dX8_weigh_27 : decode cX8_weigh 27 = .ok (.return_, 1) := by decide +kernel
set_option maxRecDepth 20000 in
theorem ggX8_valueOf_X8_tells : GoodIn wsX8_valueOf wsX8_tells := goodIn_r _ [7, 8, 9, 10, 11, 6, 12, 18, 19, 20, 21, 22, 23, 24, 25, 26, 27, 28, 29, 30, 31, 32, 33, 34, 35, 36, 37, 38, 39, 40] (by decide +kernel) (by decide +kernel)
set_option maxRecDepth 20000 in
theorem gX8_valueOf_X8_tells : GoodIn wsX8_valueOf (wsV RX8 125 RX8 yX8_tells wsX8_tells) := goodIn_app (goodIn_of _ (by decide +kernel)) ggX8_valueOf_X8_tells
set_option maxRecDepth 20000 in
theorem ggX8_valueOf_X8_number : GoodIn wsX8_valueOf wsX8_number := goodIn_r _ [16, 9, 17, 10, 11, 6, 12, 18, 19, 20, 21, 22, 23, 24, 25, 26, 27, 28, 29, 30, 31, 32, 33, 34, 35, 36, 37, 38, 39, 40] (by decide +kernel) (by decide +kernel)
set_option maxRecDepth 20000 in
theorem gX8_valueOf_X8_number : GoodIn wsX8_valueOf (wsV RX8 122 RX8 yX8_number wsX8_number) := goodIn_app (goodIn_of _ (by decide +kernel)) ggX8_valueOf_X8_number
theorem dX8_valueOf_0 : decode cX8_valueOf 0 = .ok (.lconst 0, 1) := by decide +kernel
theorem dX8_valueOf_1 : decode cX8_valueOf 1 = .ok (.lstore_n 2, 1) := by decide +kernel
theorem dX8_valueOf_2 : decode cX8_valueOf 2 = .ok (.iconst 0, 1) := by decide +kernel
theorem dX8_valueOf_3 : decode cX8_valueOf 3 = .ok (.istore 4, 2) := by decide +kernel
theorem dX8_valueOf_5 : decode cX8_valueOf 5 = .ok (.iconst 0, 1) := by decide +kernel
theorem dX8_valueOf_6 : decode cX8_valueOf 6 = .ok (.istore 5, 2) := by decide +kernel
theorem dX8_valueOf_8 : decode cX8_valueOf 8 = .ok (.iload 5, 2) := by decide +kernel
theorem dX8_valueOf_10 : decode cX8_valueOf 10 = .ok (.aload_n 0, 1) := by decide +kernel
theorem dX8_valueOf_11 : decode cX8_valueOf 11 = .ok (.getfield 96, 3) := by decide +kernel
theorem dX8_valueOf_14 : decode cX8_valueOf 14 = .ok (.if_icmp .ge 56, 3) := by decide +kernel
theorem dX8_valueOf_17 : decode cX8_valueOf 17 = .ok (.aload_n 0, 1) := by decide +kernel
theorem dX8_valueOf_18 : decode cX8_valueOf 18 = .ok (.iload 5, 2) := by decide +kernel
theorem dX8_valueOf_20 : decode cX8_valueOf 20 = .ok (.iload_n 1, 1) := by decide +kernel
theorem dX8_valueOf_21 : decode cX8_valueOf 21 = .ok (.invokevirtual 125, 3) := by decide +kernel
theorem dX8_valueOf_24 : decode cX8_valueOf 24 = .ok (.ifCond .eq 40, 3) := by decide +kernel
theorem dX8_valueOf_27 : decode cX8_valueOf 27 = .ok (.aload_n 0, 1) := by decide +kernel
theorem dX8_valueOf_28 : decode cX8_valueOf 28 = .ok (.getfield 64, 3) := by decide +kernel
theorem dX8_valueOf_31 : decode cX8_valueOf 31 = .ok (.iload 5, 2) := by decide +kernel
theorem dX8_valueOf_33 : decode cX8_valueOf 33 = .ok (.iaload, 1) := by decide +kernel
theorem dX8_valueOf_34 : decode cX8_valueOf 34 = .ok (.iconst (-1), 1) := by decide +kernel
theorem dX8_valueOf_35 : decode cX8_valueOf 35 = .ok (.if_icmp .ne 6, 3) := by decide +kernel
theorem dX8_valueOf_38 : decode cX8_valueOf 38 = .ok (.goto 26, 3) := by decide +kernel
theorem dX8_valueOf_41 : decode cX8_valueOf 41 = .ok (.lload_n 2, 1) := by decide +kernel
theorem dX8_valueOf_42 : decode cX8_valueOf 42 = .ok (.aload_n 0, 1) := by decide +kernel
theorem dX8_valueOf_43 : decode cX8_valueOf 43 = .ok (.iload 5, 2) := by decide +kernel
theorem dX8_valueOf_45 : decode cX8_valueOf 45 = .ok (.iload_n 1, 1) := by decide +kernel
theorem dX8_valueOf_46 : decode cX8_valueOf 46 = .ok (.invokevirtual 122, 3) := by decide +kernel
theorem dX8_valueOf_49 : decode cX8_valueOf 49 = .ok (.i2l, 1) := by decide +kernel
theorem dX8_valueOf_50 : decode cX8_valueOf 50 = .ok (.aload_n 0, 1) := by decide +kernel
theorem dX8_valueOf_51 : decode cX8_valueOf 51 = .ok (.getfield 64, 3) := by decide +kernel
theorem dX8_valueOf_54 : decode cX8_valueOf 54 = .ok (.iload 5, 2) := by decide +kernel
theorem dX8_valueOf_56 : decode cX8_valueOf 56 = .ok (.iaload, 1) := by decide +kernel
theorem dX8_valueOf_57 : decode cX8_valueOf 57 = .ok (.i2l, 1) := by decide +kernel
theorem dX8_valueOf_58 : decode cX8_valueOf 58 = .ok (.lmul, 1) := by decide +kernel
theorem dX8_valueOf_59 : decode cX8_valueOf 59 = .ok (.ladd, 1) := by decide +kernel
theorem dX8_valueOf_60 : decode cX8_valueOf 60 = .ok (.lstore_n 2, 1) := by decide +kernel
theorem dX8_valueOf_61 : decode cX8_valueOf 61 = .ok (.iinc 4 1, 3) := by decide +kernel
theorem dX8_valueOf_64 : decode cX8_valueOf 64 = .ok (.iinc 5 1, 3) := by decide +kernel
theorem dX8_valueOf_67 : decode cX8_valueOf 67 = .ok (.goto (-59), 3) := by decide +kernel
theorem dX8_valueOf_70 : decode cX8_valueOf 70 = .ok (.iload 4, 2) := by decide +kernel
theorem dX8_valueOf_72 : decode cX8_valueOf 72 = .ok (.ifCond .ne 7, 3) := by decide +kernel
theorem dX8_valueOf_75 : decode cX8_valueOf 75 = .ok (.iconst (-1), 1) := by decide +kernel
theorem dX8_valueOf_76 : decode cX8_valueOf 76 = .ok (.goto 9, 3) := by decide +kernel
theorem dX8_valueOf_79 : decode cX8_valueOf 79 = .ok (.lload_n 2, 1) := by decide +kernel
theorem dX8_valueOf_80 : decode cX8_valueOf 80 = .ok (.iload 4, 2) := by decide +kernel
theorem dX8_valueOf_82 : decode cX8_valueOf 82 = .ok (.i2l, 1) := by decide +kernel
theorem dX8_valueOf_83 : decode cX8_valueOf 83 = .ok (.ldiv, 1) := by decide +kernel
theorem dX8_valueOf_84 : decode cX8_valueOf 84 = .ok (.l2i, 1) := by decide +kernel
theorem dX8_valueOf_85 : decode cX8_valueOf 85 = .ok (.ireturn, 1) := by decide +kernel
set_option maxRecDepth 20000 in
theorem ggX8_monthOf_X8_valueOf : GoodIn wsX8_monthOf wsX8_valueOf := goodIn_r _ [6, 7, 8, 9, 10, 11, 5, 12, 13, 14, 15, 16, 17, 18, 19, 20, 21, 22, 23, 24, 25, 26, 27, 28, 29, 30, 31, 32, 33, 34, 35, 36, 37, 38, 39, 40, 41, 42, 43, 44, 45] (by decide +kernel) (by decide +kernel)
set_option maxRecDepth 20000 in
theorem gX8_monthOf_X8_valueOf : GoodIn wsX8_monthOf (wsV RX8 172 RX8 yX8_valueOf wsX8_valueOf) := goodIn_app (goodIn_of _ (by decide +kernel)) ggX8_monthOf_X8_valueOf
theorem dX8_monthOf_0 : decode cX8_monthOf 0 = .ok (.lconst 0, 1) := by decide +kernel
theorem dX8_monthOf_1 : decode cX8_monthOf 1 = .ok (.lstore_n 2, 1) := by decide +kernel
theorem dX8_monthOf_2 : decode cX8_monthOf 2 = .ok (.iconst 0, 1) := by decide +kernel
theorem dX8_monthOf_3 : decode cX8_monthOf 3 = .ok (.istore 4, 2) := by decide +kernel
theorem dX8_monthOf_5 : decode cX8_monthOf 5 = .ok (.bipush 10, 2) := by decide +kernel
theorem dX8_monthOf_7 : decode cX8_monthOf 7 = .ok (.iload_n 1, 1) := by decide +kernel
theorem dX8_monthOf_8 : decode cX8_monthOf 8 = .ok (.imul, 1) := by decide +kernel
theorem dX8_monthOf_9 : decode cX8_monthOf 9 = .ok (.istore 5, 2) := by decide +kernel
theorem dX8_monthOf_11 : decode cX8_monthOf 11 = .ok (.iload 5, 2) := by decide +kernel
theorem dX8_monthOf_13 : decode cX8_monthOf 13 = .ok (.bipush 10, 2) := by decide +kernel
theorem dX8_monthOf_15 : decode cX8_monthOf 15 = .ok (.iload_n 1, 1) := by decide +kernel
theorem dX8_monthOf_16 : decode cX8_monthOf 16 = .ok (.imul, 1) := by decide +kernel
theorem dX8_monthOf_17 : decode cX8_monthOf 17 = .ok (.bipush 10, 2) := by decide +kernel
theorem dX8_monthOf_19 : decode cX8_monthOf 19 = .ok (.iadd, 1) := by decide +kernel
theorem dX8_monthOf_20 : decode cX8_monthOf 20 = .ok (.if_icmp .ge 35, 3) := by decide +kernel
theorem dX8_monthOf_23 : decode cX8_monthOf 23 = .ok (.aload_n 0, 1) := by decide +kernel
theorem dX8_monthOf_24 : decode cX8_monthOf 24 = .ok (.iload 5, 2) := by decide +kernel
theorem dX8_monthOf_26 : decode cX8_monthOf 26 = .ok (.invokevirtual 172, 3) := by decide +kernel
theorem dX8_monthOf_29 : decode cX8_monthOf 29 = .ok (.istore 6, 2) := by decide +kernel
theorem dX8_monthOf_31 : decode cX8_monthOf 31 = .ok (.iload 6, 2) := by decide +kernel
theorem dX8_monthOf_33 : decode cX8_monthOf 33 = .ok (.iconst (-1), 1) := by decide +kernel
theorem dX8_monthOf_34 : decode cX8_monthOf 34 = .ok (.if_icmp .ne 6, 3) := by decide +kernel
theorem dX8_monthOf_37 : decode cX8_monthOf 37 = .ok (.goto 12, 3) := by decide +kernel
theorem dX8_monthOf_40 : decode cX8_monthOf 40 = .ok (.lload_n 2, 1) := by decide +kernel
theorem dX8_monthOf_41 : decode cX8_monthOf 41 = .ok (.iload 6, 2) := by decide +kernel
theorem dX8_monthOf_43 : decode cX8_monthOf 43 = .ok (.i2l, 1) := by decide +kernel
theorem dX8_monthOf_44 : decode cX8_monthOf 44 = .ok (.ladd, 1) := by decide +kernel
theorem dX8_monthOf_45 : decode cX8_monthOf 45 = .ok (.lstore_n 2, 1) := by decide +kernel
theorem dX8_monthOf_46 : decode cX8_monthOf 46 = .ok (.iinc 4 1, 3) := by decide +kernel
theorem dX8_monthOf_49 : decode cX8_monthOf 49 = .ok (.iinc 5 1, 3) := by decide +kernel
theorem dX8_monthOf_52 : decode cX8_monthOf 52 = .ok (.goto (-41), 3) := by decide +kernel
theorem dX8_monthOf_55 : decode cX8_monthOf 55 = .ok (.iload 4, 2) := by decide +kernel
theorem dX8_monthOf_57 : decode cX8_monthOf 57 = .ok (.aload_n 0, 1) := by decide +kernel
theorem dX8_monthOf_58 : decode cX8_monthOf 58 = .ok (.getfield 28, 3) := by decide +kernel
theorem dX8_monthOf_61 : decode cX8_monthOf 61 = .ok (.if_icmp .ge 7, 3) := by decide +kernel
theorem dX8_monthOf_64 : decode cX8_monthOf 64 = .ok (.iconst (-1), 1) := by decide +kernel
theorem dX8_monthOf_65 : decode cX8_monthOf 65 = .ok (.goto 9, 3) := by decide +kernel
theorem dX8_monthOf_68 : decode cX8_monthOf 68 = .ok (.lload_n 2, 1) := by decide +kernel
theorem dX8_monthOf_69 : decode cX8_monthOf 69 = .ok (.iload 4, 2) := by decide +kernel
theorem dX8_monthOf_71 : decode cX8_monthOf 71 = .ok (.i2l, 1) := by decide +kernel
theorem dX8_monthOf_72 : decode cX8_monthOf 72 = .ok (.ldiv, 1) := by decide +kernel
theorem dX8_monthOf_73 : decode cX8_monthOf 73 = .ok (.l2i, 1) := by decide +kernel
theorem dX8_monthOf_74 : decode cX8_monthOf 74 = .ok (.ireturn, 1) := by decide +kernel
set_option maxRecDepth 20000 in
theorem ggX8_tellValue_X8_refuse : GoodIn wsX8_tellValue wsX8_refuse := goodIn_r _ [6, 1, 7, 8, 9, 10, 11, 12, 13, 14, 15, 16, 17, 18, 19, 20, 21, 22, 23, 24, 25, 26, 27, 28, 29] (by decide +kernel) (by decide +kernel)
set_option maxRecDepth 20000 in
theorem gX8_tellValue_X8_refuse : GoodIn wsX8_tellValue (wsV RX8 99 RX8 yX8_refuse wsX8_refuse) := goodIn_app (goodIn_of _ (by decide +kernel)) ggX8_tellValue_X8_refuse
theorem dX8_tellValue_0 : decode cX8_tellValue 0 = .ok (.iload_n 1, 1) := by decide +kernel
theorem dX8_tellValue_1 : decode cX8_tellValue 1 = .ok (.iconst (-1), 1) := by decide +kernel
theorem dX8_tellValue_2 : decode cX8_tellValue 2 = .ok (.if_icmp .ne 9, 3) := by decide +kernel
theorem dX8_tellValue_5 : decode cX8_tellValue 5 = .ok (.aload_n 0, 1) := by decide +kernel
theorem dX8_tellValue_6 : decode cX8_tellValue 6 = .ok (.iconst 5, 1) := by decide +kernel
theorem dX8_tellValue_7 : decode cX8_tellValue 7 = .ok (.invokevirtual 99, 3) := by decide +kernel
theorem dX8_tellValue_10 : decode cX8_tellValue 10 = .ok (.ireturn, 1) := by decide +kernel
theorem dX8_tellValue_11 : decode cX8_tellValue 11 = .ok (.aload_n 0, 1) := by decide +kernel
theorem dX8_tellValue_12 : decode cX8_tellValue 12 = .ok (.iconst 0, 1) := by decide +kernel
theorem dX8_tellValue_13 : decode cX8_tellValue 13 = .ok (.putfield 73, 3) := by decide +kernel
theorem dX8_tellValue_16 : decode cX8_tellValue 16 = .ok (.iload_n 1, 1) := by decide +kernel
theorem dX8_tellValue_17 : decode cX8_tellValue 17 = .ok (.ireturn, 1) := by decide +kernel
set_option maxRecDepth 20000 in
theorem ggX8_day_X8_isDay : GoodIn wsX8_day wsX8_isDay := goodIn_r _ [4] (by decide +kernel) (by decide +kernel)
set_option maxRecDepth 20000 in
theorem gX8_day_X8_isDay : GoodIn wsX8_day (va_wsS RX8 113 yX8_isDay wsX8_isDay) := goodIn_app (goodIn_of _ (by decide +kernel)) ggX8_day_X8_isDay
set_option maxRecDepth 20000 in
theorem ggX8_day_X8_refuse : GoodIn wsX8_day wsX8_refuse := goodIn_r _ [8, 9, 83, 84, 85, 86, 87, 88, 89, 90, 91, 92, 93, 94, 95, 96, 97, 98, 99, 100, 101, 102, 103, 104, 105] (by decide +kernel) (by decide +kernel)
set_option maxRecDepth 20000 in
theorem gX8_day_X8_refuse : GoodIn wsX8_day (wsV RX8 99 RX8 yX8_refuse wsX8_refuse) := goodIn_app (goodIn_of _ (by decide +kernel)) ggX8_day_X8_refuse
set_option maxRecDepth 20000 in
theorem ggX8_day_X8_weigh : GoodIn wsX8_day wsX8_weigh := goodIn_r _ [13, 14, 15, 16, 17, 18, 3, 19, 20, 21, 22, 23, 24, 25, 26, 27, 28, 29, 30, 31, 32, 33, 34, 35, 36, 37, 38, 39, 40, 41, 42, 43, 44, 45, 46, 47, 48, 49, 50, 51, 52, 53, 54, 55, 56, 57, 58, 59, 60, 61, 62, 63, 64, 65, 66, 67, 68, 69, 70, 71, 72, 73, 74, 83, 84, 85, 86, 87, 88, 89, 90, 91, 92, 93, 94, 95, 96, 97, 98, 99, 100, 101, 102, 103, 104, 105] (by decide +kernel) (by decide +kernel)
set_option maxRecDepth 20000 in
theorem gX8_day_X8_weigh : GoodIn wsX8_day (wsV RX8 175 RX8 yX8_weigh wsX8_weigh) := goodIn_app (goodIn_of _ (by decide +kernel)) ggX8_day_X8_weigh
set_option maxRecDepth 20000 in
theorem ggX8_day_X8_valueOf : GoodIn wsX8_day wsX8_valueOf := goodIn_r _ [78, 14, 15, 57, 58, 59, 3, 60, 61, 62, 63, 64, 65, 66, 67, 68, 69, 70, 83, 84, 85, 86, 87, 88, 89, 90, 91, 92, 93, 94, 95, 96, 97, 98, 99, 100, 101, 102, 103, 104, 105] (by decide +kernel) (by decide +kernel)
set_option maxRecDepth 20000 in
theorem gX8_day_X8_valueOf : GoodIn wsX8_day (wsV RX8 172 RX8 yX8_valueOf wsX8_valueOf) := goodIn_app (goodIn_of _ (by decide +kernel)) ggX8_day_X8_valueOf
set_option maxRecDepth 20000 in
theorem ggX8_day_X8_tellValue : GoodIn wsX8_day wsX8_tellValue := goodIn_r _ [82, 9, 5, 6, 7, 3, 8, 83, 84, 85, 86, 87, 88, 89, 90, 91, 92, 93, 94, 95, 96, 97, 98, 99, 100, 101, 102, 103, 104, 105] (by decide +kernel) (by decide +kernel)
set_option maxRecDepth 20000 in
theorem gX8_day_X8_tellValue : GoodIn wsX8_day (wsV RX8 178 RX8 yX8_tellValue wsX8_tellValue) := goodIn_app (goodIn_of _ (by decide +kernel)) ggX8_day_X8_tellValue
theorem dX8_day_0 : decode cX8_day 0 = .ok (.iload_n 1, 1) := by decide +kernel
theorem dX8_day_1 : decode cX8_day 1 = .ok (.invokestatic 113, 3) := by decide +kernel
theorem dX8_day_4 : decode cX8_day 4 = .ok (.ifCond .ne 9, 3) := by decide +kernel
theorem dX8_day_7 : decode cX8_day 7 = .ok (.aload_n 0, 1) := by decide +kernel
theorem dX8_day_8 : decode cX8_day 8 = .ok (.iconst 1, 1) := by decide +kernel
theorem dX8_day_9 : decode cX8_day 9 = .ok (.invokevirtual 99, 3) := by decide +kernel
theorem dX8_day_12 : decode cX8_day 12 = .ok (.ireturn, 1) := by decide +kernel
theorem dX8_day_13 : decode cX8_day 13 = .ok (.aload_n 0, 1) := by decide +kernel
theorem dX8_day_14 : decode cX8_day 14 = .ok (.invokevirtual 175, 3) := by decide +kernel
theorem dX8_day_17 : decode cX8_day 17 = .ok (.aload_n 0, 1) := by decide +kernel
theorem dX8_day_18 : decode cX8_day 18 = .ok (.aload_n 0, 1) := by decide +kernel
theorem dX8_day_19 : decode cX8_day 19 = .ok (.iload_n 1, 1) := by decide +kernel
theorem dX8_day_20 : decode cX8_day 20 = .ok (.invokevirtual 172, 3) := by decide +kernel
theorem dX8_day_23 : decode cX8_day 23 = .ok (.invokevirtual 178, 3) := by decide +kernel
theorem dX8_day_26 : decode cX8_day 26 = .ok (.ireturn, 1) := by decide +kernel
