set_option maxRecDepth 20000 in
theorem ggX8_month_X8_isMonth : GoodIn wsX8_month wsX8_isMonth := goodIn_r _ [4] (by decide +kernel) (by decide +kernel)
set_option maxRecDepth 20000 in
theorem gX8_month_X8_isMonth : GoodIn wsX8_month (va_wsS RX8 181 yX8_isMonth wsX8_isMonth) := goodIn_app (goodIn_of _ (by decide +kernel)) ggX8_month_X8_isMonth
set_option maxRecDepth 20000 in
theorem ggX8_month_X8_refuse : GoodIn wsX8_month wsX8_refuse := goodIn_r _ [8, 9, 88, 89, 90, 91, 92, 93, 94, 95, 96, 97, 98, 99, 100, 101, 102, 103, 104, 105, 106, 107, 108, 109, 110] (by decide +kernel) (by decide +kernel)
set_option maxRecDepth 20000 in
theorem gX8_month_X8_refuse : GoodIn wsX8_month (wsV RX8 99 RX8 yX8_refuse wsX8_refuse) := goodIn_app (goodIn_of _ (by decide +kernel)) ggX8_month_X8_refuse
set_option maxRecDepth 20000 in
theorem ggX8_month_X8_weigh : GoodIn wsX8_month wsX8_weigh := goodIn_r _ [13, 14, 15, 16, 17, 18, 3, 19, 20, 21, 22, 23, 24, 25, 26, 27, 28, 29, 30, 31, 32, 33, 34, 35, 36, 37, 38, 39, 40, 41, 42, 43, 44, 45, 46, 47, 48, 49, 50, 51, 52, 53, 54, 55, 56, 57, 58, 59, 60, 61, 62, 63, 64, 65, 66, 67, 68, 69, 70, 71, 72, 73, 74, 88, 89, 90, 91, 92, 93, 94, 95, 96, 97, 98, 99, 100, 101, 102, 103, 104, 105, 106, 107, 108, 109, 110] (by decide +kernel) (by decide +kernel)
set_option maxRecDepth 20000 in
theorem gX8_month_X8_weigh : GoodIn wsX8_month (wsV RX8 175 RX8 yX8_weigh wsX8_weigh) := goodIn_app (goodIn_of _ (by decide +kernel)) ggX8_month_X8_weigh
set_option maxRecDepth 20000 in
theorem ggX8_month_X8_monthOf : GoodIn wsX8_month wsX8_monthOf := goodIn_r _ [78, 79, 80, 81, 82, 3, 83, 14, 15, 57, 58, 59, 60, 61, 62, 63, 64, 65, 66, 67, 68, 69, 70, 88, 89, 90, 91, 92, 93, 94, 95, 96, 97, 98, 99, 100, 101, 102, 103, 104, 105, 106, 107, 108, 109, 110] (by decide +kernel) (by decide +kernel)
set_option maxRecDepth 20000 in
theorem gX8_month_X8_monthOf : GoodIn wsX8_month (wsV RX8 184 RX8 yX8_monthOf wsX8_monthOf) := goodIn_app (goodIn_of _ (by decide +kernel)) ggX8_month_X8_monthOf
set_option maxRecDepth 20000 in
theorem ggX8_month_X8_tellValue : GoodIn wsX8_month wsX8_tellValue := goodIn_r _ [87, 9, 5, 6, 7, 3, 8, 88, 89, 90, 91, 92, 93, 94, 95, 96, 97, 98, 99, 100, 101, 102, 103, 104, 105, 106, 107, 108, 109, 110] (by decide +kernel) (by decide +kernel)
set_option maxRecDepth 20000 in
theorem gX8_month_X8_tellValue : GoodIn wsX8_month (wsV RX8 178 RX8 yX8_tellValue wsX8_tellValue) := goodIn_app (goodIn_of _ (by decide +kernel)) ggX8_month_X8_tellValue
theorem dX8_month_0 : decode cX8_month 0 = .ok (.iload_n 1, 1) := by decide +kernel
theorem dX8_month_1 : decode cX8_month 1 = .ok (.invokestatic 181, 3) := by decide +kernel
theorem dX8_month_4 : decode cX8_month 4 = .ok (.ifCond .ne 9, 3) := by decide +kernel
theorem dX8_month_7 : decode cX8_month 7 = .ok (.aload_n 0, 1) := by decide +kernel
theorem dX8_month_8 : decode cX8_month 8 = .ok (.iconst 1, 1) := by decide +kernel
theorem dX8_month_9 : decode cX8_month 9 = .ok (.invokevirtual 99, 3) := by decide +kernel
theorem dX8_month_12 : decode cX8_month 12 = .ok (.ireturn, 1) := by decide +kernel
theorem dX8_month_13 : decode cX8_month 13 = .ok (.aload_n 0, 1) := by decide +kernel
theorem dX8_month_14 : decode cX8_month 14 = .ok (.invokevirtual 175, 3) := by decide +kernel
theorem dX8_month_17 : decode cX8_month 17 = .ok (.aload_n 0, 1) := by decide +kernel
theorem dX8_month_18 : decode cX8_month 18 = .ok (.aload_n 0, 1) := by decide +kernel
theorem dX8_month_19 : decode cX8_month 19 = .ok (.iload_n 1, 1) := by decide +kernel
theorem dX8_month_20 : decode cX8_month 20 = .ok (.invokevirtual 184, 3) := by decide +kernel
theorem dX8_month_23 : decode cX8_month 23 = .ok (.invokevirtual 178, 3) := by decide +kernel
theorem dX8_month_26 : decode cX8_month 26 = .ok (.ireturn, 1) := by decide +kernel
theorem dX8_isWide_0 : decode cX8_isWide 0 = .ok (.iload_n 0, 1) := by decide +kernel
theorem dX8_isWide_1 : decode cX8_isWide 1 = .ok (.iconst 1, 1) := by decide +kernel
theorem dX8_isWide_2 : decode cX8_isWide 2 = .ok (.if_icmp .eq 19, 3) := by decide +kernel
theorem dX8_isWide_5 : decode cX8_isWide 5 = .ok (.iload_n 0, 1) := by decide +kernel
theorem dX8_isWide_6 : decode cX8_isWide 6 = .ok (.iconst 3, 1) := by decide +kernel
theorem dX8_isWide_7 : decode cX8_isWide 7 = .ok (.if_icmp .eq 14, 3) := by decide +kernel
theorem dX8_isWide_10 : decode cX8_isWide 10 = .ok (.iload_n 0, 1) := by decide +kernel
theorem dX8_isWide_11 : decode cX8_isWide 11 = .ok (.iconst 5, 1) := by decide +kernel
theorem dX8_isWide_12 : decode cX8_isWide 12 = .ok (.if_icmp .eq 9, 3) := by decide +kernel
theorem dX8_isWide_15 : decode cX8_isWide 15 = .ok (.iload_n 0, 1) := by decide +kernel
theorem dX8_isWide_16 : decode cX8_isWide 16 = .ok (.bipush 7, 2) := by decide +kernel
theorem dX8_isWide_18 : decode cX8_isWide 18 = .ok (.if_icmp .ne 7, 3) := by decide +kernel
theorem dX8_isWide_21 : decode cX8_isWide 21 = .ok (.iconst 1, 1) := by decide +kernel
theorem dX8_isWide_22 : decode cX8_isWide 22 = .ok (.goto 4, 3) := by decide +kernel
theorem dX8_isWide_25 : decode cX8_isWide 25 = .ok (.iconst 0, 1) := by decide +kernel
theorem dX8_isWide_26 : decode cX8_isWide 26 = .ok (.ireturn, 1) := by decide +kernel
set_option maxRecDepth 20000 in
theorem ggX8_smoothAll_X8_weigh : GoodIn wsX8_smoothAll wsX8_weigh := goodIn_r _ [7, 8, 9, 10, 11, 12, 6, 13, 14, 15, 16, 17, 18, 19, 20, 21, 22, 23, 24, 25, 26, 27, 28, 29, 30, 31, 32, 33, 34, 35, 36, 37, 38, 39, 40, 41, 42, 43, 44, 45, 46, 47, 48, 49, 50, 51, 52, 53, 54, 55, 56, 57, 58, 59, 60, 61, 62, 63, 64, 65, 66, 67, 68, 81, 82, 83, 84, 85, 86, 87, 88, 89, 90, 91, 92, 93, 94, 95, 96, 97, 98, 99, 100, 101, 102, 103] (by decide +kernel) (by decide +kernel)
set_option maxRecDepth 20000 in
theorem gX8_smoothAll_X8_weigh : GoodIn wsX8_smoothAll (wsV RX8 175 RX8 yX8_weigh wsX8_weigh) := goodIn_app (goodIn_of _ (by decide +kernel)) ggX8_smoothAll_X8_weigh
set_option maxRecDepth 20000 in
theorem ggX8_smoothAll_X8_monthOf : GoodIn wsX8_smoothAll wsX8_monthOf := goodIn_r _ [72, 73, 74, 75, 76, 6, 77, 8, 9, 51, 52, 53, 54, 55, 56, 57, 58, 59, 60, 61, 62, 63, 64, 81, 82, 83, 84, 85, 86, 87, 88, 89, 90, 91, 92, 93, 94, 95, 96, 97, 98, 99, 100, 101, 102, 103] (by decide +kernel) (by decide +kernel)
set_option maxRecDepth 20000 in
theorem gX8_smoothAll_X8_monthOf : GoodIn wsX8_smoothAll (wsV RX8 184 RX8 yX8_monthOf wsX8_monthOf) := goodIn_app (goodIn_of _ (by decide +kernel)) ggX8_smoothAll_X8_monthOf
set_option maxRecDepth 20000 in
theorem ggX8_smoothAll_X8_isMonth : GoodIn wsX8_smoothAll wsX8_isMonth := goodIn_r _ [80] (by decide +kernel) (by decide +kernel)
set_option maxRecDepth 20000 in
theorem gX8_smoothAll_X8_isMonth : GoodIn wsX8_smoothAll (va_wsS RX8 181 yX8_isMonth wsX8_isMonth) := goodIn_app (goodIn_of _ (by decide +kernel)) ggX8_smoothAll_X8_isMonth
theorem dX8_smoothAll_0 : decode cX8_smoothAll 0 = .ok (.aload_n 0, 1) := by decide +kernel
theorem dX8_smoothAll_1 : decode cX8_smoothAll 1 = .ok (.invokevirtual 175, 3) := by decide +kernel
theorem dX8_smoothAll_4 : decode cX8_smoothAll 4 = .ok (.iconst 0, 1) := by decide +kernel
theorem dX8_smoothAll_5 : decode cX8_smoothAll 5 = .ok (.istore_n 2, 1) := by decide +kernel
theorem dX8_smoothAll_6 : decode cX8_smoothAll 6 = .ok (.iload_n 2, 1) := by decide +kernel
theorem dX8_smoothAll_7 : decode cX8_smoothAll 7 = .ok (.bipush 24, 2) := by decide +kernel
theorem dX8_smoothAll_9 : decode cX8_smoothAll 9 = .ok (.if_icmp .ge 20, 3) := by decide +kernel
theorem dX8_smoothAll_12 : decode cX8_smoothAll 12 = .ok (.aload_n 0, 1) := by decide +kernel
theorem dX8_smoothAll_13 : decode cX8_smoothAll 13 = .ok (.getfield 67, 3) := by decide +kernel
theorem dX8_smoothAll_16 : decode cX8_smoothAll 16 = .ok (.iload_n 2, 1) := by decide +kernel
theorem dX8_smoothAll_17 : decode cX8_smoothAll 17 = .ok (.aload_n 0, 1) := by decide +kernel
theorem dX8_smoothAll_18 : decode cX8_smoothAll 18 = .ok (.iload_n 2, 1) := by decide +kernel
theorem dX8_smoothAll_19 : decode cX8_smoothAll 19 = .ok (.invokevirtual 184, 3) := by decide +kernel
theorem dX8_smoothAll_22 : decode cX8_smoothAll 22 = .ok (.iastore, 1) := by decide +kernel
theorem dX8_smoothAll_23 : decode cX8_smoothAll 23 = .ok (.iinc 2 1, 3) := by decide +kernel
theorem dX8_smoothAll_26 : decode cX8_smoothAll 26 = .ok (.goto (-20), 3) := by decide +kernel
theorem dX8_smoothAll_29 : decode cX8_smoothAll 29 = .ok (.iconst 0, 1) := by decide +kernel
theorem dX8_smoothAll_30 : decode cX8_smoothAll 30 = .ok (.istore_n 2, 1) := by decide +kernel
theorem dX8_smoothAll_31 : decode cX8_smoothAll 31 = .ok (.iload_n 2, 1) := by decide +kernel
theorem dX8_smoothAll_32 : decode cX8_smoothAll 32 = .ok (.bipush 24, 2) := by decide +kernel
theorem dX8_smoothAll_34 : decode cX8_smoothAll 34 = .ok (.if_icmp .ge 99, 3) := by decide +kernel
theorem dX8_smoothAll_37 : decode cX8_smoothAll 37 = .ok (.lconst 0, 1) := by decide +kernel
theorem dX8_smoothAll_38 : decode cX8_smoothAll 38 = .ok (.lstore_n 3, 1) := by decide +kernel
theorem dX8_smoothAll_39 : decode cX8_smoothAll 39 = .ok (.iconst 0, 1) := by decide +kernel
theorem dX8_smoothAll_40 : decode cX8_smoothAll 40 = .ok (.istore 5, 2) := by decide +kernel
theorem dX8_smoothAll_42 : decode cX8_smoothAll 42 = .ok (.iload_n 2, 1) := by decide +kernel
theorem dX8_smoothAll_43 : decode cX8_smoothAll 43 = .ok (.iload_n 1, 1) := by decide +kernel
theorem dX8_smoothAll_44 : decode cX8_smoothAll 44 = .ok (.iconst 2, 1) := by decide +kernel
theorem dX8_smoothAll_45 : decode cX8_smoothAll 45 = .ok (.idiv, 1) := by decide +kernel
theorem dX8_smoothAll_46 : decode cX8_smoothAll 46 = .ok (.isub, 1) := by decide +kernel
theorem dX8_smoothAll_47 : decode cX8_smoothAll 47 = .ok (.istore 6, 2) := by decide +kernel
theorem dX8_smoothAll_49 : decode cX8_smoothAll 49 = .ok (.iload 6, 2) := by decide +kernel
theorem dX8_smoothAll_51 : decode cX8_smoothAll 51 = .ok (.iload_n 2, 1) := by decide +kernel
theorem dX8_smoothAll_52 : decode cX8_smoothAll 52 = .ok (.iload_n 1, 1) := by decide +kernel
theorem dX8_smoothAll_53 : decode cX8_smoothAll 53 = .ok (.iconst 2, 1) := by decide +kernel
theorem dX8_smoothAll_54 : decode cX8_smoothAll 54 = .ok (.idiv, 1) := by decide +kernel
theorem dX8_smoothAll_55 : decode cX8_smoothAll 55 = .ok (.iadd, 1) := by decide +kernel
theorem dX8_smoothAll_56 : decode cX8_smoothAll 56 = .ok (.if_icmp .gt 45, 3) := by decide +kernel
theorem dX8_smoothAll_59 : decode cX8_smoothAll 59 = .ok (.iload 6, 2) := by decide +kernel
theorem dX8_smoothAll_61 : decode cX8_smoothAll 61 = .ok (.invokestatic 181, 3) := by decide +kernel
theorem dX8_smoothAll_64 : decode cX8_smoothAll 64 = .ok (.ifCond .eq 31, 3) := by decide +kernel
theorem dX8_smoothAll_67 : decode cX8_smoothAll 67 = .ok (.aload_n 0, 1) := by decide +kernel
theorem dX8_smoothAll_68 : decode cX8_smoothAll 68 = .ok (.getfield 67, 3) := by decide +kernel
theorem dX8_smoothAll_71 : decode cX8_smoothAll 71 = .ok (.iload 6, 2) := by decide +kernel
theorem dX8_smoothAll_73 : decode cX8_smoothAll 73 = .ok (.iaload, 1) := by decide +kernel
theorem dX8_smoothAll_74 : decode cX8_smoothAll 74 = .ok (.iconst (-1), 1) := by decide +kernel
theorem dX8_smoothAll_75 : decode cX8_smoothAll 75 = .ok (.if_icmp .ne 6, 3) := by decide +kernel
theorem dX8_smoothAll_78 : decode cX8_smoothAll 78 = .ok (.goto 17, 3) := by decide +kernel
theorem dX8_smoothAll_81 : decode cX8_smoothAll 81 = .ok (.lload_n 3, 1) := by decide +kernel
theorem dX8_smoothAll_82 : decode cX8_smoothAll 82 = .ok (.aload_n 0, 1) := by decide +kernel
theorem dX8_smoothAll_83 : decode cX8_smoothAll 83 = .ok (.getfield 67, 3) := by decide +kernel
theorem dX8_smoothAll_86 : decode cX8_smoothAll 86 = .ok (.iload 6, 2) := by decide +kernel
theorem dX8_smoothAll_88 : decode cX8_smoothAll 88 = .ok (.iaload, 1) := by decide +kernel
theorem dX8_smoothAll_89 : decode cX8_smoothAll 89 = .ok (.i2l, 1) := by decide +kernel
theorem dX8_smoothAll_90 : decode cX8_smoothAll 90 = .ok (.ladd, 1) := by decide +kernel
theorem dX8_smoothAll_91 : decode cX8_smoothAll 91 = .ok (.lstore_n 3, 1) := by decide +kernel
theorem dX8_smoothAll_92 : decode cX8_smoothAll 92 = .ok (.iinc 5 1, 3) := by decide +kernel
theorem dX8_smoothAll_95 : decode cX8_smoothAll 95 = .ok (.iinc 6 1, 3) := by decide +kernel
theorem dX8_smoothAll_98 : decode cX8_smoothAll 98 = .ok (.goto (-49), 3) := by decide +kernel
theorem dX8_smoothAll_101 : decode cX8_smoothAll 101 = .ok (.aload_n 0, 1) := by decide +kernel
theorem dX8_smoothAll_102 : decode cX8_smoothAll 102 = .ok (.getfield 70, 3) := by decide +kernel
theorem dX8_smoothAll_105 : decode cX8_smoothAll 105 = .ok (.iload_n 2, 1) := by decide +kernel
theorem dX8_smoothAll_106 : decode cX8_smoothAll 106 = .ok (.aload_n 0, 1) := by decide +kernel
theorem dX8_smoothAll_107 : decode cX8_smoothAll 107 = .ok (.getfield 67, 3) := by decide +kernel
theorem dX8_smoothAll_110 : decode cX8_smoothAll 110 = .ok (.iload_n 2, 1) := by decide +kernel
theorem dX8_smoothAll_111 : decode cX8_smoothAll 111 = .ok (.iaload, 1) := by decide +kernel
theorem dX8_smoothAll_112 : decode cX8_smoothAll 112 = .ok (.iconst (-1), 1) := by decide +kernel
theorem dX8_smoothAll_113 : decode cX8_smoothAll 113 = .ok (.if_icmp .ne 7, 3) := by decide +kernel
theorem dX8_smoothAll_116 : decode cX8_smoothAll 116 = .ok (.iconst (-1), 1) := by decide +kernel
theorem dX8_smoothAll_117 : decode cX8_smoothAll 117 = .ok (.goto 9, 3) := by decide +kernel
theorem dX8_smoothAll_120 : decode cX8_smoothAll 120 = .ok (.lload_n 3, 1) := by decide +kernel
theorem dX8_smoothAll_121 : decode cX8_smoothAll 121 = .ok (.iload 5, 2) := by decide +kernel
theorem dX8_smoothAll_123 : decode cX8_smoothAll 123 = .ok (.i2l, 1) := by decide +kernel
theorem dX8_smoothAll_124 : decode cX8_smoothAll 124 = .ok (.ldiv, 1) := by decide +kernel
theorem dX8_smoothAll_125 : decode cX8_smoothAll 125 = .ok (.l2i, 1) := by decide +kernel
theorem dX8_smoothAll_126 : decode cX8_smoothAll 126 = .ok (.iastore, 1) := by decide +kernel
theorem dX8_smoothAll_127 : decode cX8_smoothAll 127 = .ok (.iinc 2 1, 3) := by decide +kernel
theorem dX8_smoothAll_130 : decode cX8_smoothAll 130 = .ok (.goto (-99), 3) := by decide +kernel
theorem dX8_smoothAll_133 : decode cX8_smoothAll 133 = .ok (.return_, 1) := by decide +kernel
set_option maxRecDepth 20000 in
theorem ggX8_smooth_X8_isMonth : GoodIn wsX8_smooth wsX8_isMonth := goodIn_r _ [5] (by decide +kernel) (by decide +kernel)
set_option maxRecDepth 20000 in
theorem gX8_smooth_X8_isMonth : GoodIn wsX8_smooth (va_wsS RX8 181 yX8_isMonth wsX8_isMonth) := goodIn_app (goodIn_of _ (by decide +kernel)) ggX8_smooth_X8_isMonth
set_option maxRecDepth 20000 in
theorem ggX8_smooth_X8_isWide : GoodIn wsX8_smooth wsX8_isWide := goodIn_r _ [8] (by decide +kernel) (by decide +kernel)
set_option maxRecDepth 20000 in
theorem gX8_smooth_X8_isWide : GoodIn wsX8_smooth (va_wsS RX8 187 yX8_isWide wsX8_isWide) := goodIn_app (goodIn_of _ (by decide +kernel)) ggX8_smooth_X8_isWide
set_option maxRecDepth 20000 in
theorem ggX8_smooth_X8_refuse : GoodIn wsX8_smooth wsX8_refuse := goodIn_r _ [12, 13, 97, 98, 99, 100, 101, 102, 103, 104, 105, 106, 107, 108, 109, 110, 111, 112, 113, 114, 115, 116, 117, 118, 119] (by decide +kernel) (by decide +kernel)
set_option maxRecDepth 20000 in
theorem gX8_smooth_X8_refuse : GoodIn wsX8_smooth (wsV RX8 99 RX8 yX8_refuse wsX8_refuse) := goodIn_app (goodIn_of _ (by decide +kernel)) ggX8_smooth_X8_refuse
set_option maxRecDepth 20000 in
theorem ggX8_smooth_X8_smoothAll : GoodIn wsX8_smooth wsX8_smoothAll := goodIn_r _ [17, 18, 1, 19, 20, 21, 4, 22, 23, 24, 25, 26, 27, 28, 29, 30, 31, 32, 33, 34, 35, 36, 37, 38, 39, 40, 41, 42, 43, 44, 45, 46, 47, 48, 49, 50, 51, 52, 53, 54, 55, 56, 57, 58, 59, 60, 61, 62, 63, 64, 65, 66, 67, 68, 69, 70, 71, 72, 73, 74, 75, 76, 77, 78, 79, 80, 81, 82, 83, 84, 85, 86, 87, 88, 89, 90, 91, 92, 2, 3, 5, 97, 98, 99, 100, 101, 102, 103, 104, 105, 106, 107, 108, 109, 110, 111, 112, 113, 114, 115, 116, 117, 118, 119] (by decide +kernel) (by decide +kernel)
set_option maxRecDepth 20000 in
theorem gX8_smooth_X8_smoothAll : GoodIn wsX8_smooth (wsV RX8 190 RX8 yX8_smoothAll wsX8_smoothAll) := goodIn_app (goodIn_of _ (by decide +kernel)) ggX8_smooth_X8_smoothAll
set_option maxRecDepth 20000 in
theorem ggX8_smooth_X8_tellValue : GoodIn wsX8_smooth wsX8_tellValue := goodIn_r _ [96, 13, 9, 10, 11, 4, 12, 97, 98, 99, 100, 101, 102, 103, 104, 105, 106, 107, 108, 109, 110, 111, 112, 113, 114, 115, 116, 117, 118, 119] (by decide +kernel) (by decide +kernel)
set_option maxRecDepth 20000 in
theorem gX8_smooth_X8_tellValue : GoodIn wsX8_smooth (wsV RX8 178 RX8 yX8_tellValue wsX8_tellValue) := goodIn_app (goodIn_of _ (by decide +kernel)) ggX8_smooth_X8_tellValue
theorem dX8_smooth_0 : decode cX8_smooth 0 = .ok (.iload_n 1, 1) := by decide +kernel
theorem dX8_smooth_1 : decode cX8_smooth 1 = .ok (.invokestatic 181, 3) := by decide +kernel
theorem dX8_smooth_4 : decode cX8_smooth 4 = .ok (.ifCond .eq 10, 3) := by decide +kernel
theorem dX8_smooth_7 : decode cX8_smooth 7 = .ok (.iload_n 2, 1) := by decide +kernel
theorem dX8_smooth_8 : decode cX8_smooth 8 = .ok (.invokestatic 187, 3) := by decide +kernel
theorem dX8_smooth_11 : decode cX8_smooth 11 = .ok (.ifCond .ne 9, 3) := by decide +kernel
theorem dX8_smooth_14 : decode cX8_smooth 14 = .ok (.aload_n 0, 1) := by decide +kernel
theorem dX8_smooth_15 : decode cX8_smooth 15 = .ok (.iconst 1, 1) := by decide +kernel
theorem dX8_smooth_16 : decode cX8_smooth 16 = .ok (.invokevirtual 99, 3) := by decide +kernel
theorem dX8_smooth_19 : decode cX8_smooth 19 = .ok (.ireturn, 1) := by decide +kernel
theorem dX8_smooth_20 : decode cX8_smooth 20 = .ok (.aload_n 0, 1) := by decide +kernel
theorem dX8_smooth_21 : decode cX8_smooth 21 = .ok (.iload_n 2, 1) := by decide +kernel
theorem dX8_smooth_22 : decode cX8_smooth 22 = .ok (.invokevirtual 190, 3) := by decide +kernel
theorem dX8_smooth_25 : decode cX8_smooth 25 = .ok (.aload_n 0, 1) := by decide +kernel
theorem dX8_smooth_26 : decode cX8_smooth 26 = .ok (.aload_n 0, 1) := by decide +kernel
theorem dX8_smooth_27 : decode cX8_smooth 27 = .ok (.getfield 70, 3) := by decide +kernel
theorem dX8_smooth_30 : decode cX8_smooth 30 = .ok (.iload_n 1, 1) := by decide +kernel
theorem dX8_smooth_31 : decode cX8_smooth 31 = .ok (.iaload, 1) := by decide +kernel
theorem dX8_smooth_32 : decode cX8_smooth 32 = .ok (.invokevirtual 178, 3) := by decide +kernel
theorem dX8_smooth_35 : decode cX8_smooth 35 = .ok (.ireturn, 1) := by decide +kernel
theorem dX8_isTurn_0 : decode cX8_isTurn 0 = .ok (.aload_n 0, 1) := by decide +kernel
theorem dX8_isTurn_1 : decode cX8_isTurn 1 = .ok (.getfield 70, 3) := by decide +kernel
theorem dX8_isTurn_4 : decode cX8_isTurn 4 = .ok (.iload_n 1, 1) := by decide +kernel
theorem dX8_isTurn_5 : decode cX8_isTurn 5 = .ok (.iaload, 1) := by decide +kernel
theorem dX8_isTurn_6 : decode cX8_isTurn 6 = .ok (.iconst (-1), 1) := by decide +kernel
theorem dX8_isTurn_7 : decode cX8_isTurn 7 = .ok (.if_icmp .ne 5, 3) := by decide +kernel
theorem dX8_isTurn_10 : decode cX8_isTurn 10 = .ok (.iconst 0, 1) := by decide +kernel
theorem dX8_isTurn_11 : decode cX8_isTurn 11 = .ok (.ireturn, 1) := by decide +kernel
theorem dX8_isTurn_12 : decode cX8_isTurn 12 = .ok (.iload_n 3, 1) := by decide +kernel
theorem dX8_isTurn_13 : decode cX8_isTurn 13 = .ok (.ifCond .eq 7, 3) := by decide +kernel
theorem dX8_isTurn_16 : decode cX8_isTurn 16 = .ok (.iconst 1, 1) := by decide +kernel
theorem dX8_isTurn_17 : decode cX8_isTurn 17 = .ok (.goto 4, 3) := by decide +kernel
theorem dX8_isTurn_20 : decode cX8_isTurn 20 = .ok (.iconst (-1), 1) := by decide +kernel
theorem dX8_isTurn_21 : decode cX8_isTurn 21 = .ok (.istore 4, 2) := by decide +kernel
theorem dX8_isTurn_23 : decode cX8_isTurn 23 = .ok (.iconst 0, 1) := by decide +kernel
theorem dX8_isTurn_24 : decode cX8_isTurn 24 = .ok (.iload_n 1, 1) := by decide +kernel
theorem dX8_isTurn_25 : decode cX8_isTurn 25 = .ok (.iload_n 2, 1) := by decide +kernel
theorem dX8_isTurn_26 : decode cX8_isTurn 26 = .ok (.isub, 1) := by decide +kernel
theorem dX8_isTurn_27 : decode cX8_isTurn 27 = .ok (.invokestatic 194, 3) := by decide +kernel
theorem dX8_isTurn_30 : decode cX8_isTurn 30 = .ok (.istore 5, 2) := by decide +kernel
theorem dX8_isTurn_32 : decode cX8_isTurn 32 = .ok (.iload 5, 2) := by decide +kernel
theorem dX8_isTurn_34 : decode cX8_isTurn 34 = .ok (.bipush 23, 2) := by decide +kernel
theorem dX8_isTurn_36 : decode cX8_isTurn 36 = .ok (.iload_n 1, 1) := by decide +kernel
theorem dX8_isTurn_37 : decode cX8_isTurn 37 = .ok (.iload_n 2, 1) := by decide +kernel
theorem dX8_isTurn_38 : decode cX8_isTurn 38 = .ok (.iadd, 1) := by decide +kernel
theorem dX8_isTurn_39 : decode cX8_isTurn 39 = .ok (.invokestatic 153, 3) := by decide +kernel
theorem dX8_isTurn_42 : decode cX8_isTurn 42 = .ok (.if_icmp .gt 72, 3) := by decide +kernel
theorem dX8_isTurn_45 : decode cX8_isTurn 45 = .ok (.iload 5, 2) := by decide +kernel
theorem dX8_isTurn_47 : decode cX8_isTurn 47 = .ok (.iload_n 1, 1) := by decide +kernel
theorem dX8_isTurn_48 : decode cX8_isTurn 48 = .ok (.if_icmp .eq 60, 3) := by decide +kernel
theorem dX8_isTurn_51 : decode cX8_isTurn 51 = .ok (.aload_n 0, 1) := by decide +kernel
theorem dX8_isTurn_52 : decode cX8_isTurn 52 = .ok (.getfield 70, 3) := by decide +kernel
theorem dX8_isTurn_55 : decode cX8_isTurn 55 = .ok (.iload 5, 2) := by decide +kernel
theorem dX8_isTurn_57 : decode cX8_isTurn 57 = .ok (.iaload, 1) := by decide +kernel
theorem dX8_isTurn_58 : decode cX8_isTurn 58 = .ok (.iconst (-1), 1) := by decide +kernel
theorem dX8_isTurn_59 : decode cX8_isTurn 59 = .ok (.if_icmp .ne 6, 3) := by decide +kernel
theorem dX8_isTurn_62 : decode cX8_isTurn 62 = .ok (.goto 46, 3) := by decide +kernel
theorem dX8_isTurn_65 : decode cX8_isTurn 65 = .ok (.iload 4, 2) := by decide +kernel
theorem dX8_isTurn_67 : decode cX8_isTurn 67 = .ok (.aload_n 0, 1) := by decide +kernel
theorem dX8_isTurn_68 : decode cX8_isTurn 68 = .ok (.getfield 70, 3) := by decide +kernel
theorem dX8_isTurn_71 : decode cX8_isTurn 71 = .ok (.iload 5, 2) := by decide +kernel
theorem dX8_isTurn_73 : decode cX8_isTurn 73 = .ok (.iaload, 1) := by decide +kernel
theorem dX8_isTurn_74 : decode cX8_isTurn 74 = .ok (.imul, 1) := by decide +kernel
theorem dX8_isTurn_75 : decode cX8_isTurn 75 = .ok (.iload 4, 2) := by decide +kernel
theorem dX8_isTurn_77 : decode cX8_isTurn 77 = .ok (.aload_n 0, 1) := by decide +kernel
theorem dX8_isTurn_78 : decode cX8_isTurn 78 = .ok (.getfield 70, 3) := by decide +kernel
theorem dX8_isTurn_81 : decode cX8_isTurn 81 = .ok (.iload_n 1, 1) := by decide +kernel
theorem dX8_isTurn_82 : decode cX8_isTurn 82 = .ok (.iaload, 1) := by decide +kernel
theorem dX8_isTurn_83 : decode cX8_isTurn 83 = .ok (.imul, 1) := by decide +kernel
theorem dX8_isTurn_84 : decode cX8_isTurn 84 = .ok (.isub, 1) := by decide +kernel
theorem dX8_isTurn_85 : decode cX8_isTurn 85 = .ok (.istore 6, 2) := by decide +kernel
theorem dX8_isTurn_87 : decode cX8_isTurn 87 = .ok (.iload 5, 2) := by decide +kernel
theorem dX8_isTurn_89 : decode cX8_isTurn 89 = .ok (.iload_n 1, 1) := by decide +kernel
theorem dX8_isTurn_90 : decode cX8_isTurn 90 = .ok (.if_icmp .ge 11, 3) := by decide +kernel
theorem dX8_isTurn_93 : decode cX8_isTurn 93 = .ok (.iload 6, 2) := by decide +kernel
theorem dX8_isTurn_95 : decode cX8_isTurn 95 = .ok (.ifCond .lt 13, 3) := by decide +kernel
theorem dX8_isTurn_98 : decode cX8_isTurn 98 = .ok (.goto 8, 3) := by decide +kernel
theorem dX8_isTurn_101 : decode cX8_isTurn 101 = .ok (.iload 6, 2) := by decide +kernel
theorem dX8_isTurn_103 : decode cX8_isTurn 103 = .ok (.ifCond .le 5, 3) := by decide +kernel
theorem dX8_isTurn_106 : decode cX8_isTurn 106 = .ok (.iconst 0, 1) := by decide +kernel
theorem dX8_isTurn_107 : decode cX8_isTurn 107 = .ok (.ireturn, 1) := by decide +kernel
theorem dX8_isTurn_108 : decode cX8_isTurn 108 = .ok (.iinc 5 1, 3) := by decide +kernel
theorem dX8_isTurn_111 : decode cX8_isTurn 111 = .ok (.goto (-79), 3) := by decide +kernel
theorem dX8_isTurn_114 : decode cX8_isTurn 114 = .ok (.iconst 1, 1) := by decide +kernel
theorem dX8_isTurn_115 : decode cX8_isTurn 115 = .ok (.ireturn, 1) := by decide +kernel
set_option maxRecDepth 20000 in
theorem ggX8_turn_X8_isWide : GoodIn wsX8_turn wsX8_isWide := goodIn_r _ [5] (by decide +kernel) (by decide +kernel)
set_option maxRecDepth 20000 in
theorem gX8_turn_X8_isWide : GoodIn wsX8_turn (va_wsS RX8 187 yX8_isWide wsX8_isWide) := goodIn_app (goodIn_of _ (by decide +kernel)) ggX8_turn_X8_isWide
set_option maxRecDepth 20000 in
theorem ggX8_turn_X8_refuse : GoodIn wsX8_turn wsX8_refuse := goodIn_r _ [9, 1, 100, 101, 102, 103, 104, 105, 106, 107, 108, 109, 110, 111, 112, 113, 114, 115, 116, 117, 118, 119, 120, 121, 122] (by decide +kernel) (by decide +kernel)
set_option maxRecDepth 20000 in
theorem gX8_turn_X8_refuse : GoodIn wsX8_turn (wsV RX8 99 RX8 yX8_refuse wsX8_refuse) := goodIn_app (goodIn_of _ (by decide +kernel)) ggX8_turn_X8_refuse
set_option maxRecDepth 20000 in
theorem ggX8_turn_X8_smoothAll : GoodIn wsX8_turn wsX8_smoothAll := goodIn_r _ [13, 14, 15, 16, 17, 18, 4, 19, 20, 21, 22, 23, 24, 25, 26, 27, 28, 29, 30, 31, 32, 33, 34, 35, 36, 37, 38, 39, 40, 41, 42, 43, 44, 45, 46, 47, 48, 49, 50, 51, 52, 53, 54, 55, 56, 57, 58, 59, 60, 61, 62, 63, 64, 65, 66, 67, 68, 69, 70, 71, 72, 73, 74, 75, 76, 77, 78, 79, 80, 81, 82, 83, 84, 85, 86, 87, 88, 89, 90, 91, 92, 100, 101, 102, 103, 104, 105, 106, 107, 108, 109, 110, 111, 112, 113, 114, 115, 116, 117, 118, 119, 120, 121, 122] (by decide +kernel) (by decide +kernel)
set_option maxRecDepth 20000 in
theorem gX8_turn_X8_smoothAll : GoodIn wsX8_turn (wsV RX8 190 RX8 yX8_smoothAll wsX8_smoothAll) := goodIn_app (goodIn_of _ (by decide +kernel)) ggX8_turn_X8_smoothAll
set_option maxRecDepth 20000 in
theorem ggX8_turn_X8_isTurn : GoodIn wsX8_turn wsX8_isTurn := goodIn_r _ [96, 15, 97, 98, 32, 99, 41, 42, 43, 100, 101, 102, 103, 104, 105, 106, 107, 108, 109, 110, 111, 112, 113, 114, 115, 116, 117, 118, 119, 120, 121, 122] (by decide +kernel) (by decide +kernel)
set_option maxRecDepth 20000 in
theorem gX8_turn_X8_isTurn : GoodIn wsX8_turn (wsV RX8 197 RX8 yX8_isTurn wsX8_isTurn) := goodIn_app (goodIn_of _ (by decide +kernel)) ggX8_turn_X8_isTurn
theorem dX8_turn_0 : decode cX8_turn 0 = .ok (.iload_n 2, 1) := by decide +kernel
theorem dX8_turn_1 : decode cX8_turn 1 = .ok (.invokestatic 187, 3) := by decide +kernel
theorem dX8_turn_4 : decode cX8_turn 4 = .ok (.ifCond .eq 14, 3) := by decide +kernel
theorem dX8_turn_7 : decode cX8_turn 7 = .ok (.iload_n 3, 1) := by decide +kernel
theorem dX8_turn_8 : decode cX8_turn 8 = .ok (.iconst 1, 1) := by decide +kernel
theorem dX8_turn_9 : decode cX8_turn 9 = .ok (.if_icmp .lt 9, 3) := by decide +kernel
theorem dX8_turn_12 : decode cX8_turn 12 = .ok (.iload_n 3, 1) := by decide +kernel
theorem dX8_turn_13 : decode cX8_turn 13 = .ok (.bipush 8, 2) := by decide +kernel
theorem dX8_turn_15 : decode cX8_turn 15 = .ok (.if_icmp .le 9, 3) := by decide +kernel
theorem dX8_turn_18 : decode cX8_turn 18 = .ok (.aload_n 0, 1) := by decide +kernel
theorem dX8_turn_19 : decode cX8_turn 19 = .ok (.iconst 1, 1) := by decide +kernel
theorem dX8_turn_20 : decode cX8_turn 20 = .ok (.invokevirtual 99, 3) := by decide +kernel
theorem dX8_turn_23 : decode cX8_turn 23 = .ok (.ireturn, 1) := by decide +kernel
theorem dX8_turn_24 : decode cX8_turn 24 = .ok (.aload_n 0, 1) := by decide +kernel
theorem dX8_turn_25 : decode cX8_turn 25 = .ok (.iload_n 2, 1) := by decide +kernel
theorem dX8_turn_26 : decode cX8_turn 26 = .ok (.invokevirtual 190, 3) := by decide +kernel
theorem dX8_turn_29 : decode cX8_turn 29 = .ok (.iload_n 1, 1) := by decide +kernel
theorem dX8_turn_30 : decode cX8_turn 30 = .ok (.istore 5, 2) := by decide +kernel
theorem dX8_turn_32 : decode cX8_turn 32 = .ok (.iconst 0, 1) := by decide +kernel
theorem dX8_turn_33 : decode cX8_turn 33 = .ok (.istore 6, 2) := by decide +kernel
theorem dX8_turn_35 : decode cX8_turn 35 = .ok (.iload 6, 2) := by decide +kernel
theorem dX8_turn_37 : decode cX8_turn 37 = .ok (.bipush 24, 2) := by decide +kernel
theorem dX8_turn_39 : decode cX8_turn 39 = .ok (.if_icmp .ge 44, 3) := by decide +kernel
theorem dX8_turn_42 : decode cX8_turn 42 = .ok (.iload_n 1, 1) := by decide +kernel
theorem dX8_turn_43 : decode cX8_turn 43 = .ok (.ifCond .lt 40, 3) := by decide +kernel
theorem dX8_turn_46 : decode cX8_turn 46 = .ok (.aload_n 0, 1) := by decide +kernel
theorem dX8_turn_47 : decode cX8_turn 47 = .ok (.iload 6, 2) := by decide +kernel
theorem dX8_turn_49 : decode cX8_turn 49 = .ok (.iload_n 3, 1) := by decide +kernel
theorem dX8_turn_50 : decode cX8_turn 50 = .ok (.iload 4, 2) := by decide +kernel
theorem dX8_turn_52 : decode cX8_turn 52 = .ok (.invokevirtual 197, 3) := by decide +kernel
theorem dX8_turn_55 : decode cX8_turn 55 = .ok (.ifCond .ne 6, 3) := by decide +kernel
theorem dX8_turn_58 : decode cX8_turn 58 = .ok (.goto 19, 3) := by decide +kernel
theorem dX8_turn_61 : decode cX8_turn 61 = .ok (.iload 5, 2) := by decide +kernel
theorem dX8_turn_63 : decode cX8_turn 63 = .ok (.ifCond .ne 11, 3) := by decide +kernel
theorem dX8_turn_66 : decode cX8_turn 66 = .ok (.aload_n 0, 1) := by decide +kernel
theorem dX8_turn_67 : decode cX8_turn 67 = .ok (.iconst 0, 1) := by decide +kernel
theorem dX8_turn_68 : decode cX8_turn 68 = .ok (.putfield 73, 3) := by decide +kernel
theorem dX8_turn_71 : decode cX8_turn 71 = .ok (.iload 6, 2) := by decide +kernel
theorem dX8_turn_73 : decode cX8_turn 73 = .ok (.ireturn, 1) := by decide +kernel
theorem dX8_turn_74 : decode cX8_turn 74 = .ok (.iinc 5 (-1), 3) := by decide +kernel
theorem dX8_turn_77 : decode cX8_turn 77 = .ok (.iinc 6 1, 3) := by decide +kernel
theorem dX8_turn_80 : decode cX8_turn 80 = .ok (.goto (-45), 3) := by decide +kernel
theorem dX8_turn_83 : decode cX8_turn 83 = .ok (.aload_n 0, 1) := by decide +kernel
theorem dX8_turn_84 : decode cX8_turn 84 = .ok (.bipush 6, 2) := by decide +kernel
theorem dX8_turn_86 : decode cX8_turn 86 = .ok (.invokevirtual 99, 3) := by decide +kernel
theorem dX8_turn_89 : decode cX8_turn 89 = .ok (.ireturn, 1) := by decide +kernel
set_option maxRecDepth 20000 in
theorem ggX8_change_X8_isMonth : GoodIn wsX8_change wsX8_isMonth := goodIn_r _ [6] (by decide +kernel) (by decide +kernel)
set_option maxRecDepth 20000 in
theorem gX8_change_X8_isMonth : GoodIn wsX8_change (va_wsS RX8 181 yX8_isMonth wsX8_isMonth) := goodIn_app (goodIn_of _ (by decide +kernel)) ggX8_change_X8_isMonth
set_option maxRecDepth 20000 in
theorem ggX8_change_X8_isEye : GoodIn wsX8_change wsX8_isEye := goodIn_r _ [10, 11, 88, 89, 90, 91, 92, 93, 94, 95, 96, 97, 98, 99, 100, 101, 102, 103, 104, 105, 106, 107, 108, 109, 110] (by decide +kernel) (by decide +kernel)
set_option maxRecDepth 20000 in
theorem gX8_change_X8_isEye : GoodIn wsX8_change (wsV RX8 110 RX8 yX8_isEye wsX8_isEye) := goodIn_app (goodIn_of _ (by decide +kernel)) ggX8_change_X8_isEye
set_option maxRecDepth 20000 in
theorem ggX8_change_X8_refuse : GoodIn wsX8_change wsX8_refuse := goodIn_r _ [15, 2, 88, 89, 90, 91, 92, 93, 94, 95, 96, 97, 98, 99, 100, 101, 102, 103, 104, 105, 106, 107, 108, 109, 110] (by decide +kernel) (by decide +kernel)
