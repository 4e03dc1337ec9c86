set_option maxRecDepth 20000 in
theorem gX7_tellFraction_X1_put : GoodIn wsX7_tellFraction (wsV RX7 258 RX1 yX1_put wsX1_put) := goodIn_app (goodIn_of _ (by decide +kernel)) ggX7_tellFraction_X1_put
set_option maxRecDepth 20000 in
theorem ggX7_tellFraction_X7_answer : GoodIn wsX7_tellFraction wsX7_answer := goodIn_r _ [16, 17, 18, 19, 20, 21, 22, 23, 24, 25] (by decide +kernel) (by decide +kernel)
set_option maxRecDepth 20000 in
theorem gX7_tellFraction_X7_answer : GoodIn wsX7_tellFraction (wsV RX7 119 RX7 yX7_answer wsX7_answer) := goodIn_app (goodIn_of _ (by decide +kernel)) ggX7_tellFraction_X7_answer
theorem dX7_tellFraction_0 : decode cX7_tellFraction 0 = .ok (.aload_n 0, 1) := by decide +kernel
theorem dX7_tellFraction_1 : decode cX7_tellFraction 1 = .ok (.getfield 54, 3) := by decide +kernel
theorem dX7_tellFraction_4 : decode cX7_tellFraction 4 = .ok (.iload_n 1, 1) := by decide +kernel
theorem dX7_tellFraction_5 : decode cX7_tellFraction 5 = .ok (.iload_n 2, 1) := by decide +kernel
theorem dX7_tellFraction_6 : decode cX7_tellFraction 6 = .ok (.invokevirtual 258, 3) := by decide +kernel
theorem dX7_tellFraction_9 : decode cX7_tellFraction 9 = .ok (.aload_n 0, 1) := by decide +kernel
theorem dX7_tellFraction_10 : decode cX7_tellFraction 10 = .ok (.iload_n 1, 1) := by decide +kernel
theorem dX7_tellFraction_11 : decode cX7_tellFraction 11 = .ok (.ifCond .le 7, 3) := by decide +kernel
theorem dX7_tellFraction_14 : decode cX7_tellFraction 14 = .ok (.iconst 1, 1) := by decide +kernel
theorem dX7_tellFraction_15 : decode cX7_tellFraction 15 = .ok (.goto 4, 3) := by decide +kernel
theorem dX7_tellFraction_18 : decode cX7_tellFraction 18 = .ok (.iconst 0, 1) := by decide +kernel
theorem dX7_tellFraction_19 : decode cX7_tellFraction 19 = .ok (.invokevirtual 119, 3) := by decide +kernel
theorem dX7_tellFraction_22 : decode cX7_tellFraction 22 = .ok (.ireturn, 1) := by decide +kernel
set_option maxRecDepth 20000 in
theorem ggX7_whyNoPour_X7_isWithin : GoodIn wsX7_whyNoPour wsX7_isWithin := goodIn_r _ [5] (by decide +kernel) (by decide +kernel)
set_option maxRecDepth 20000 in
theorem gX7_whyNoPour_X7_isWithin : GoodIn wsX7_whyNoPour (va_wsS RX7 69 yX7_isWithin wsX7_isWithin) := goodIn_app (goodIn_of _ (by decide +kernel)) ggX7_whyNoPour_X7_isWithin
set_option maxRecDepth 20000 in
theorem ggX7_whyNoPour_X6_isMissing : GoodIn wsX7_whyNoPour wsX6_isMissing := goodIn_r _ [10, 11, 29, 30, 31] (by decide +kernel) (by decide +kernel)
set_option maxRecDepth 20000 in
theorem gX7_whyNoPour_X6_isMissing : GoodIn wsX7_whyNoPour (wsV RX7 261 RX6 yX6_isMissing wsX6_isMissing) := goodIn_app (goodIn_of _ (by decide +kernel)) ggX7_whyNoPour_X6_isMissing
set_option maxRecDepth 20000 in
theorem ggX7_whyNoPour_X6_areAlike : GoodIn wsX7_whyNoPour wsX6_areAlike := goodIn_r _ [15, 11, 29, 30, 31] (by decide +kernel) (by decide +kernel)
set_option maxRecDepth 20000 in
theorem gX7_whyNoPour_X6_areAlike : GoodIn wsX7_whyNoPour (wsV RX7 264 RX6 yX6_areAlike wsX6_areAlike) := goodIn_app (goodIn_of _ (by decide +kernel)) ggX7_whyNoPour_X6_areAlike
set_option maxRecDepth 20000 in
theorem ggX7_whyNoPour_X6_holds : GoodIn wsX7_whyNoPour wsX6_holds := goodIn_r _ [19, 20, 29, 30, 31] (by decide +kernel) (by decide +kernel)
set_option maxRecDepth 20000 in
theorem gX7_whyNoPour_X6_holds : GoodIn wsX7_whyNoPour (wsV RX7 267 RX6 yX6_holds wsX6_holds) := goodIn_app (goodIn_of _ (by decide +kernel)) ggX7_whyNoPour_X6_holds
theorem dX7_whyNoPour_0 : decode cX7_whyNoPour 0 = .ok (.iload_n 1, 1) := by decide +kernel
theorem dX7_whyNoPour_1 : decode cX7_whyNoPour 1 = .ok (.iconst 3, 1) := by decide +kernel
theorem dX7_whyNoPour_2 : decode cX7_whyNoPour 2 = .ok (.invokestatic 69, 3) := by decide +kernel
theorem dX7_whyNoPour_5 : decode cX7_whyNoPour 5 = .ok (.ifCond .eq 11, 3) := by decide +kernel
theorem dX7_whyNoPour_8 : decode cX7_whyNoPour 8 = .ok (.iload_n 3, 1) := by decide +kernel
theorem dX7_whyNoPour_9 : decode cX7_whyNoPour 9 = .ok (.iconst 3, 1) := by decide +kernel
theorem dX7_whyNoPour_10 : decode cX7_whyNoPour 10 = .ok (.invokestatic 69, 3) := by decide +kernel
theorem dX7_whyNoPour_13 : decode cX7_whyNoPour 13 = .ok (.ifCond .ne 5, 3) := by decide +kernel
theorem dX7_whyNoPour_16 : decode cX7_whyNoPour 16 = .ok (.iconst 1, 1) := by decide +kernel
theorem dX7_whyNoPour_17 : decode cX7_whyNoPour 17 = .ok (.ireturn, 1) := by decide +kernel
theorem dX7_whyNoPour_18 : decode cX7_whyNoPour 18 = .ok (.iload_n 2, 1) := by decide +kernel
theorem dX7_whyNoPour_19 : decode cX7_whyNoPour 19 = .ok (.ifCond .lt 13, 3) := by decide +kernel
theorem dX7_whyNoPour_22 : decode cX7_whyNoPour 22 = .ok (.iload 4, 2) := by decide +kernel
theorem dX7_whyNoPour_24 : decode cX7_whyNoPour 24 = .ok (.ifCond .lt 8, 3) := by decide +kernel
theorem dX7_whyNoPour_27 : decode cX7_whyNoPour 27 = .ok (.iload 5, 2) := by decide +kernel
theorem dX7_whyNoPour_29 : decode cX7_whyNoPour 29 = .ok (.ifCond .ge 5, 3) := by decide +kernel
theorem dX7_whyNoPour_32 : decode cX7_whyNoPour 32 = .ok (.iconst 1, 1) := by decide +kernel
theorem dX7_whyNoPour_33 : decode cX7_whyNoPour 33 = .ok (.ireturn, 1) := by decide +kernel
theorem dX7_whyNoPour_34 : decode cX7_whyNoPour 34 = .ok (.aload_n 0, 1) := by decide +kernel
theorem dX7_whyNoPour_35 : decode cX7_whyNoPour 35 = .ok (.getfield 10, 3) := by decide +kernel
theorem dX7_whyNoPour_38 : decode cX7_whyNoPour 38 = .ok (.iload_n 1, 1) := by decide +kernel
theorem dX7_whyNoPour_39 : decode cX7_whyNoPour 39 = .ok (.invokevirtual 261, 3) := by decide +kernel
theorem dX7_whyNoPour_42 : decode cX7_whyNoPour 42 = .ok (.ifCond .ne 14, 3) := by decide +kernel
theorem dX7_whyNoPour_45 : decode cX7_whyNoPour 45 = .ok (.aload_n 0, 1) := by decide +kernel
theorem dX7_whyNoPour_46 : decode cX7_whyNoPour 46 = .ok (.getfield 10, 3) := by decide +kernel
theorem dX7_whyNoPour_49 : decode cX7_whyNoPour 49 = .ok (.iload_n 3, 1) := by decide +kernel
theorem dX7_whyNoPour_50 : decode cX7_whyNoPour 50 = .ok (.invokevirtual 261, 3) := by decide +kernel
theorem dX7_whyNoPour_53 : decode cX7_whyNoPour 53 = .ok (.ifCond .eq 5, 3) := by decide +kernel
theorem dX7_whyNoPour_56 : decode cX7_whyNoPour 56 = .ok (.iconst 2, 1) := by decide +kernel
theorem dX7_whyNoPour_57 : decode cX7_whyNoPour 57 = .ok (.ireturn, 1) := by decide +kernel
theorem dX7_whyNoPour_58 : decode cX7_whyNoPour 58 = .ok (.aload_n 0, 1) := by decide +kernel
theorem dX7_whyNoPour_59 : decode cX7_whyNoPour 59 = .ok (.getfield 10, 3) := by decide +kernel
theorem dX7_whyNoPour_62 : decode cX7_whyNoPour 62 = .ok (.iload_n 1, 1) := by decide +kernel
theorem dX7_whyNoPour_63 : decode cX7_whyNoPour 63 = .ok (.iload_n 3, 1) := by decide +kernel
theorem dX7_whyNoPour_64 : decode cX7_whyNoPour 64 = .ok (.invokevirtual 264, 3) := by decide +kernel
theorem dX7_whyNoPour_67 : decode cX7_whyNoPour 67 = .ok (.ifCond .ne 6, 3) := by decide +kernel
theorem dX7_whyNoPour_70 : decode cX7_whyNoPour 70 = .ok (.bipush 7, 2) := by decide +kernel
theorem dX7_whyNoPour_72 : decode cX7_whyNoPour 72 = .ok (.ireturn, 1) := by decide +kernel
theorem dX7_whyNoPour_73 : decode cX7_whyNoPour 73 = .ok (.aload_n 0, 1) := by decide +kernel
theorem dX7_whyNoPour_74 : decode cX7_whyNoPour 74 = .ok (.getfield 10, 3) := by decide +kernel
theorem dX7_whyNoPour_77 : decode cX7_whyNoPour 77 = .ok (.iload_n 1, 1) := by decide +kernel
theorem dX7_whyNoPour_78 : decode cX7_whyNoPour 78 = .ok (.iload_n 2, 1) := by decide +kernel
theorem dX7_whyNoPour_79 : decode cX7_whyNoPour 79 = .ok (.iload 5, 2) := by decide +kernel
theorem dX7_whyNoPour_81 : decode cX7_whyNoPour 81 = .ok (.invokevirtual 267, 3) := by decide +kernel
theorem dX7_whyNoPour_84 : decode cX7_whyNoPour 84 = .ok (.ifCond .eq 22, 3) := by decide +kernel
theorem dX7_whyNoPour_87 : decode cX7_whyNoPour 87 = .ok (.aload_n 0, 1) := by decide +kernel
theorem dX7_whyNoPour_88 : decode cX7_whyNoPour 88 = .ok (.getfield 10, 3) := by decide +kernel
theorem dX7_whyNoPour_91 : decode cX7_whyNoPour 91 = .ok (.iload_n 3, 1) := by decide +kernel
theorem dX7_whyNoPour_92 : decode cX7_whyNoPour 92 = .ok (.iload 4, 2) := by decide +kernel
theorem dX7_whyNoPour_94 : decode cX7_whyNoPour 94 = .ok (.iload 5, 2) := by decide +kernel
theorem dX7_whyNoPour_96 : decode cX7_whyNoPour 96 = .ok (.invokevirtual 267, 3) := by decide +kernel
theorem dX7_whyNoPour_99 : decode cX7_whyNoPour 99 = .ok (.ifCond .eq 7, 3) := by decide +kernel
theorem dX7_whyNoPour_102 : decode cX7_whyNoPour 102 = .ok (.iconst 0, 1) := by decide +kernel
theorem dX7_whyNoPour_103 : decode cX7_whyNoPour 103 = .ok (.goto 4, 3) := by decide +kernel
theorem dX7_whyNoPour_106 : decode cX7_whyNoPour 106 = .ok (.iconst 3, 1) := by decide +kernel
theorem dX7_whyNoPour_107 : decode cX7_whyNoPour 107 = .ok (.ireturn, 1) := by decide +kernel
set_option maxRecDepth 20000 in
theorem ggX7_whyNoBook_X7_isEye : GoodIn wsX7_whyNoBook wsX7_isEye := goodIn_r _ [6, 7, 39, 40, 41, 42, 43, 44, 45, 46, 47, 48, 49, 50, 51] (by decide +kernel) (by decide +kernel)
set_option maxRecDepth 20000 in
theorem gX7_whyNoBook_X7_isEye : GoodIn wsX7_whyNoBook (wsV RX7 122 RX7 yX7_isEye wsX7_isEye) := goodIn_app (goodIn_of _ (by decide +kernel)) ggX7_whyNoBook_X7_isEye
set_option maxRecDepth 20000 in
theorem ggX7_whyNoBook_X7_isDay : GoodIn wsX7_whyNoBook wsX7_isDay := goodIn_r _ [10, 11, 12, 5, 13] (by decide +kernel) (by decide +kernel)
set_option maxRecDepth 20000 in
theorem gX7_whyNoBook_X7_isDay : GoodIn wsX7_whyNoBook (va_wsS RX7 125 yX7_isDay wsX7_isDay) := goodIn_app (goodIn_of _ (by decide +kernel)) ggX7_whyNoBook_X7_isDay
set_option maxRecDepth 20000 in
theorem ggX7_whyNoBook_X7_isWithin : GoodIn wsX7_whyNoBook wsX7_isWithin := goodIn_r _ [13] (by decide +kernel) (by decide +kernel)
set_option maxRecDepth 20000 in
theorem gX7_whyNoBook_X7_isWithin : GoodIn wsX7_whyNoBook (va_wsS RX7 69 yX7_isWithin wsX7_isWithin) := goodIn_app (goodIn_of _ (by decide +kernel)) ggX7_whyNoBook_X7_isWithin
set_option maxRecDepth 20000 in
theorem ggX7_whyNoBook_X6_isMissing : GoodIn wsX7_whyNoBook wsX6_isMissing := goodIn_r _ [18, 19, 52, 53, 54] (by decide +kernel) (by decide +kernel)
set_option maxRecDepth 20000 in
theorem gX7_whyNoBook_X6_isMissing : GoodIn wsX7_whyNoBook (wsV RX7 261 RX6 yX6_isMissing wsX6_isMissing) := goodIn_app (goodIn_of _ (by decide +kernel)) ggX7_whyNoBook_X6_isMissing
set_option maxRecDepth 20000 in
theorem ggX7_whyNoBook_X6_holds : GoodIn wsX7_whyNoBook wsX6_holds := goodIn_r _ [23, 24, 52, 53, 54] (by decide +kernel) (by decide +kernel)
set_option maxRecDepth 20000 in
theorem gX7_whyNoBook_X6_holds : GoodIn wsX7_whyNoBook (wsV RX7 267 RX6 yX6_holds wsX6_holds) := goodIn_app (goodIn_of _ (by decide +kernel)) ggX7_whyNoBook_X6_holds
set_option maxRecDepth 20000 in
theorem ggX7_whyNoBook_X6_numberAt : GoodIn wsX7_whyNoBook wsX6_numberAt := goodIn_r _ [28, 29, 52, 53, 54] (by decide +kernel) (by decide +kernel)
set_option maxRecDepth 20000 in
theorem gX7_whyNoBook_X6_numberAt : GoodIn wsX7_whyNoBook (wsV RX7 100 RX6 yX6_numberAt wsX6_numberAt) := goodIn_app (goodIn_of _ (by decide +kernel)) ggX7_whyNoBook_X6_numberAt
set_option maxRecDepth 20000 in
theorem ggX7_whyNoBook_X5_isCode : GoodIn wsX7_whyNoBook wsX5_isCode := goodIn_r _ [33, 34, 35, 36, 37, 32, 38, 12, 5, 13] (by decide +kernel) (by decide +kernel)
set_option maxRecDepth 20000 in
theorem gX7_whyNoBook_X5_isCode : GoodIn wsX7_whyNoBook (va_wsS RX7 271 yX5_isCode wsX5_isCode) := goodIn_app (goodIn_of _ (by decide +kernel)) ggX7_whyNoBook_X5_isCode
theorem dX7_whyNoBook_0 : decode cX7_whyNoBook 0 = .ok (.aload_n 0, 1) := by decide +kernel
theorem dX7_whyNoBook_1 : decode cX7_whyNoBook 1 = .ok (.iload_n 1, 1) := by decide +kernel
theorem dX7_whyNoBook_2 : decode cX7_whyNoBook 2 = .ok (.invokevirtual 122, 3) := by decide +kernel
theorem dX7_whyNoBook_5 : decode cX7_whyNoBook 5 = .ok (.ifCond .eq 18, 3) := by decide +kernel
theorem dX7_whyNoBook_8 : decode cX7_whyNoBook 8 = .ok (.iload_n 2, 1) := by decide +kernel
theorem dX7_whyNoBook_9 : decode cX7_whyNoBook 9 = .ok (.invokestatic 125, 3) := by decide +kernel
theorem dX7_whyNoBook_12 : decode cX7_whyNoBook 12 = .ok (.ifCond .eq 11, 3) := by decide +kernel
theorem dX7_whyNoBook_15 : decode cX7_whyNoBook 15 = .ok (.iload_n 3, 1) := by decide +kernel
theorem dX7_whyNoBook_16 : decode cX7_whyNoBook 16 = .ok (.iconst 3, 1) := by decide +kernel
theorem dX7_whyNoBook_17 : decode cX7_whyNoBook 17 = .ok (.invokestatic 69, 3) := by decide +kernel
theorem dX7_whyNoBook_20 : decode cX7_whyNoBook 20 = .ok (.ifCond .ne 5, 3) := by decide +kernel
theorem dX7_whyNoBook_23 : decode cX7_whyNoBook 23 = .ok (.iconst 1, 1) := by decide +kernel
theorem dX7_whyNoBook_24 : decode cX7_whyNoBook 24 = .ok (.ireturn, 1) := by decide +kernel
theorem dX7_whyNoBook_25 : decode cX7_whyNoBook 25 = .ok (.iload 4, 2) := by decide +kernel
theorem dX7_whyNoBook_27 : decode cX7_whyNoBook 27 = .ok (.iconst 1, 1) := by decide +kernel
theorem dX7_whyNoBook_28 : decode cX7_whyNoBook 28 = .ok (.if_icmp .lt 22, 3) := by decide +kernel
theorem dX7_whyNoBook_31 : decode cX7_whyNoBook 31 = .ok (.iload 4, 2) := by decide +kernel
theorem dX7_whyNoBook_33 : decode cX7_whyNoBook 33 = .ok (.bipush 60, 2) := by decide +kernel
theorem dX7_whyNoBook_35 : decode cX7_whyNoBook 35 = .ok (.if_icmp .gt 15, 3) := by decide +kernel
theorem dX7_whyNoBook_38 : decode cX7_whyNoBook 38 = .ok (.iload_n 2, 1) := by decide +kernel
theorem dX7_whyNoBook_39 : decode cX7_whyNoBook 39 = .ok (.iload 4, 2) := by decide +kernel
theorem dX7_whyNoBook_41 : decode cX7_whyNoBook 41 = .ok (.iadd, 1) := by decide +kernel
theorem dX7_whyNoBook_42 : decode cX7_whyNoBook 42 = .ok (.iconst 1, 1) := by decide +kernel
theorem dX7_whyNoBook_43 : decode cX7_whyNoBook 43 = .ok (.isub, 1) := by decide +kernel
theorem dX7_whyNoBook_44 : decode cX7_whyNoBook 44 = .ok (.invokestatic 125, 3) := by decide +kernel
theorem dX7_whyNoBook_47 : decode cX7_whyNoBook 47 = .ok (.ifCond .ne 5, 3) := by decide +kernel
theorem dX7_whyNoBook_50 : decode cX7_whyNoBook 50 = .ok (.iconst 1, 1) := by decide +kernel
theorem dX7_whyNoBook_51 : decode cX7_whyNoBook 51 = .ok (.ireturn, 1) := by decide +kernel
theorem dX7_whyNoBook_52 : decode cX7_whyNoBook 52 = .ok (.aload_n 0, 1) := by decide +kernel
theorem dX7_whyNoBook_53 : decode cX7_whyNoBook 53 = .ok (.getfield 10, 3) := by decide +kernel
theorem dX7_whyNoBook_56 : decode cX7_whyNoBook 56 = .ok (.iload_n 3, 1) := by decide +kernel
theorem dX7_whyNoBook_57 : decode cX7_whyNoBook 57 = .ok (.invokevirtual 261, 3) := by decide +kernel
theorem dX7_whyNoBook_60 : decode cX7_whyNoBook 60 = .ok (.ifCond .eq 5, 3) := by decide +kernel
theorem dX7_whyNoBook_63 : decode cX7_whyNoBook 63 = .ok (.iconst 2, 1) := by decide +kernel
theorem dX7_whyNoBook_64 : decode cX7_whyNoBook 64 = .ok (.ireturn, 1) := by decide +kernel
theorem dX7_whyNoBook_65 : decode cX7_whyNoBook 65 = .ok (.aload_n 0, 1) := by decide +kernel
theorem dX7_whyNoBook_66 : decode cX7_whyNoBook 66 = .ok (.getfield 10, 3) := by decide +kernel
theorem dX7_whyNoBook_69 : decode cX7_whyNoBook 69 = .ok (.iload_n 3, 1) := by decide +kernel
theorem dX7_whyNoBook_70 : decode cX7_whyNoBook 70 = .ok (.iconst 0, 1) := by decide +kernel
theorem dX7_whyNoBook_71 : decode cX7_whyNoBook 71 = .ok (.iload 4, 2) := by decide +kernel
theorem dX7_whyNoBook_73 : decode cX7_whyNoBook 73 = .ok (.invokevirtual 267, 3) := by decide +kernel
theorem dX7_whyNoBook_76 : decode cX7_whyNoBook 76 = .ok (.ifCond .ne 5, 3) := by decide +kernel
theorem dX7_whyNoBook_79 : decode cX7_whyNoBook 79 = .ok (.iconst 3, 1) := by decide +kernel
theorem dX7_whyNoBook_80 : decode cX7_whyNoBook 80 = .ok (.ireturn, 1) := by decide +kernel
theorem dX7_whyNoBook_81 : decode cX7_whyNoBook 81 = .ok (.iconst 0, 1) := by decide +kernel
theorem dX7_whyNoBook_82 : decode cX7_whyNoBook 82 = .ok (.istore 5, 2) := by decide +kernel
theorem dX7_whyNoBook_84 : decode cX7_whyNoBook 84 = .ok (.iload 5, 2) := by decide +kernel
theorem dX7_whyNoBook_86 : decode cX7_whyNoBook 86 = .ok (.iload 4, 2) := by decide +kernel
theorem dX7_whyNoBook_88 : decode cX7_whyNoBook 88 = .ok (.if_icmp .ge 27, 3) := by decide +kernel
theorem dX7_whyNoBook_91 : decode cX7_whyNoBook 91 = .ok (.aload_n 0, 1) := by decide +kernel
theorem dX7_whyNoBook_92 : decode cX7_whyNoBook 92 = .ok (.getfield 10, 3) := by decide +kernel
theorem dX7_whyNoBook_95 : decode cX7_whyNoBook 95 = .ok (.iload_n 3, 1) := by decide +kernel
theorem dX7_whyNoBook_96 : decode cX7_whyNoBook 96 = .ok (.iload 5, 2) := by decide +kernel
theorem dX7_whyNoBook_98 : decode cX7_whyNoBook 98 = .ok (.invokevirtual 100, 3) := by decide +kernel
theorem dX7_whyNoBook_101 : decode cX7_whyNoBook 101 = .ok (.invokestatic 271, 3) := by decide +kernel
theorem dX7_whyNoBook_104 : decode cX7_whyNoBook 104 = .ok (.ifCond .ne 5, 3) := by decide +kernel
theorem dX7_whyNoBook_107 : decode cX7_whyNoBook 107 = .ok (.iconst 1, 1) := by decide +kernel
theorem dX7_whyNoBook_108 : decode cX7_whyNoBook 108 = .ok (.ireturn, 1) := by decide +kernel
theorem dX7_whyNoBook_109 : decode cX7_whyNoBook 109 = .ok (.iinc 5 1, 3) := by decide +kernel
theorem dX7_whyNoBook_112 : decode cX7_whyNoBook 112 = .ok (.goto (-28), 3) := by decide +kernel
theorem dX7_whyNoBook_115 : decode cX7_whyNoBook 115 = .ok (.iconst 0, 1) := by decide +kernel
theorem dX7_whyNoBook_116 : decode cX7_whyNoBook 116 = .ok (.ireturn, 1) := by decide +kernel
set_option maxRecDepth 20000 in
theorem ggX7_monthWithout_X0_reckon : GoodIn wsX7_monthWithout wsX0_reckon := goodIn_r _ [8, 9, 10, 11, 12, 13, 14, 15, 16, 17, 18, 7, 19, 20, 21, 22, 23, 24, 25, 26, 27, 28, 29, 30, 31, 32, 33, 34, 35, 36, 37, 38, 39, 40, 41, 42, 43, 44, 45, 46, 47, 48, 49, 50, 51, 52, 53, 54, 55, 56, 57, 93, 94, 95, 96, 97, 98, 99, 100, 101] (by decide +kernel) (by decide +kernel)
set_option maxRecDepth 20000 in
theorem gX7_monthWithout_X0_reckon : GoodIn wsX7_monthWithout (wsV RX7 210 RX0 yX0_reckon wsX0_reckon) := goodIn_app (goodIn_of _ (by decide +kernel)) ggX7_monthWithout_X0_reckon
set_option maxRecDepth 20000 in
theorem ggX7_monthWithout_X3_valueOfMonth : GoodIn wsX7_monthWithout wsX3_valueOfMonth := goodIn_r _ [62, 63, 64, 65, 66, 61, 67, 68, 69, 70, 30, 71, 72, 73, 74, 75, 76, 77, 78, 79, 80, 81, 82, 83, 84, 102, 103, 104, 97, 98, 99, 100, 101, 93, 94, 95, 96] (by decide +kernel) (by decide +kernel)
set_option maxRecDepth 20000 in
theorem gX7_monthWithout_X3_valueOfMonth : GoodIn wsX7_monthWithout (wsV RX7 275 RX3 yX3_valueOfMonth wsX3_valueOfMonth) := goodIn_app (goodIn_of _ (by decide +kernel)) ggX7_monthWithout_X3_valueOfMonth
theorem dX7_monthWithout_0 : decode cX7_monthWithout 0 = .ok (.aload_n 0, 1) := by decide +kernel
theorem dX7_monthWithout_1 : decode cX7_monthWithout 1 = .ok (.getfield 40, 3) := by decide +kernel
theorem dX7_monthWithout_4 : decode cX7_monthWithout 4 = .ok (.aload_n 0, 1) := by decide +kernel
theorem dX7_monthWithout_5 : decode cX7_monthWithout 5 = .ok (.getfield 19, 3) := by decide +kernel
theorem dX7_monthWithout_8 : decode cX7_monthWithout 8 = .ok (.iload_n 2, 1) := by decide +kernel
theorem dX7_monthWithout_9 : decode cX7_monthWithout 9 = .ok (.invokevirtual 210, 3) := by decide +kernel
theorem dX7_monthWithout_12 : decode cX7_monthWithout 12 = .ok (.aload_n 0, 1) := by decide +kernel
theorem dX7_monthWithout_13 : decode cX7_monthWithout 13 = .ok (.getfield 47, 3) := by decide +kernel
theorem dX7_monthWithout_16 : decode cX7_monthWithout 16 = .ok (.aload_n 0, 1) := by decide +kernel
theorem dX7_monthWithout_17 : decode cX7_monthWithout 17 = .ok (.getfield 19, 3) := by decide +kernel
theorem dX7_monthWithout_20 : decode cX7_monthWithout 20 = .ok (.aload_n 0, 1) := by decide +kernel
theorem dX7_monthWithout_21 : decode cX7_monthWithout 21 = .ok (.getfield 40, 3) := by decide +kernel
theorem dX7_monthWithout_24 : decode cX7_monthWithout 24 = .ok (.iload_n 1, 1) := by decide +kernel
theorem dX7_monthWithout_25 : decode cX7_monthWithout 25 = .ok (.invokevirtual 275, 3) := by decide +kernel
theorem dX7_monthWithout_28 : decode cX7_monthWithout 28 = .ok (.ireturn, 1) := by decide +kernel
theorem dX8_init_0 : decode cX8_init 0 = .ok (.aload_n 0, 1) := by decide +kernel
theorem dX8_init_1 : decode cX8_init 1 = .ok (.invokespecial 1, 3) := by decide +kernel
theorem dX8_init_4 : decode cX8_init 4 = .ok (.aload_n 0, 1) := by decide +kernel
theorem dX8_init_5 : decode cX8_init 5 = .ok (.lconst 1, 1) := by decide +kernel
theorem dX8_init_6 : decode cX8_init 6 = .ok (.putfield 7, 3) := by decide +kernel
theorem dX8_init_9 : decode cX8_init 9 = .ok (.aload_n 0, 1) := by decide +kernel
theorem dX8_init_10 : decode cX8_init 10 = .ok (.iconst 4, 1) := by decide +kernel
theorem dX8_init_11 : decode cX8_init 11 = .ok (.newarray .int, 2) := by decide +kernel
theorem dX8_init_13 : decode cX8_init 13 = .ok (.putfield 13, 3) := by decide +kernel
theorem dX8_init_16 : decode cX8_init 16 = .ok (.aload_n 0, 1) := by decide +kernel
theorem dX8_init_17 : decode cX8_init 17 = .ok (.iconst 4, 1) := by decide +kernel
theorem dX8_init_18 : decode cX8_init 18 = .ok (.newarray .int, 2) := by decide +kernel
theorem dX8_init_20 : decode cX8_init 20 = .ok (.dup, 1) := by decide +kernel
theorem dX8_init_21 : decode cX8_init 21 = .ok (.iconst 0, 1) := by decide +kernel
theorem dX8_init_22 : decode cX8_init 22 = .ok (.iconst (-1), 1) := by decide +kernel
theorem dX8_init_23 : decode cX8_init 23 = .ok (.iastore, 1) := by decide +kernel
theorem dX8_init_24 : decode cX8_init 24 = .ok (.dup, 1) := by decide +kernel
theorem dX8_init_25 : decode cX8_init 25 = .ok (.iconst 1, 1) := by decide +kernel
theorem dX8_init_26 : decode cX8_init 26 = .ok (.iconst (-1), 1) := by decide +kernel
theorem dX8_init_27 : decode cX8_init 27 = .ok (.iastore, 1) := by decide +kernel
theorem dX8_init_28 : decode cX8_init 28 = .ok (.dup, 1) := by decide +kernel
theorem dX8_init_29 : decode cX8_init 29 = .ok (.iconst 2, 1) := by decide +kernel
theorem dX8_init_30 : decode cX8_init 30 = .ok (.iconst (-1), 1) := by decide +kernel
theorem dX8_init_31 : decode cX8_init 31 = .ok (.iastore, 1) := by decide +kernel
theorem dX8_init_32 : decode cX8_init 32 = .ok (.dup, 1) := by decide +kernel
theorem dX8_init_33 : decode cX8_init 33 = .ok (.iconst 3, 1) := by decide +kernel
theorem dX8_init_34 : decode cX8_init 34 = .ok (.iconst (-1), 1) := by decide +kernel
theorem dX8_init_35 : decode cX8_init 35 = .ok (.iastore, 1) := by decide +kernel
theorem dX8_init_36 : decode cX8_init 36 = .ok (.putfield 17, 3) := by decide +kernel
theorem dX8_init_39 : decode cX8_init 39 = .ok (.aload_n 0, 1) := by decide +kernel
theorem dX8_init_40 : decode cX8_init 40 = .ok (.sipush 240, 3) := by decide +kernel
theorem dX8_init_43 : decode cX8_init 43 = .ok (.newarray .long, 2) := by decide +kernel
theorem dX8_init_45 : decode cX8_init 45 = .ok (.putfield 20, 3) := by decide +kernel
theorem dX8_init_48 : decode cX8_init 48 = .ok (.aload_n 0, 1) := by decide +kernel
theorem dX8_init_49 : decode cX8_init 49 = .ok (.bipush 10, 2) := by decide +kernel
theorem dX8_init_51 : decode cX8_init 51 = .ok (.putfield 24, 3) := by decide +kernel
theorem dX8_init_54 : decode cX8_init 54 = .ok (.aload_n 0, 1) := by decide +kernel
theorem dX8_init_55 : decode cX8_init 55 = .ok (.iconst 3, 1) := by decide +kernel
theorem dX8_init_56 : decode cX8_init 56 = .ok (.putfield 28, 3) := by decide +kernel
theorem dX8_init_59 : decode cX8_init 59 = .ok (.aload_n 0, 1) := by decide +kernel
theorem dX8_init_60 : decode cX8_init 60 = .ok (.sipush 1920, 3) := by decide +kernel
theorem dX8_init_63 : decode cX8_init 63 = .ok (.newarray .int, 2) := by decide +kernel
theorem dX8_init_65 : decode cX8_init 65 = .ok (.putfield 31, 3) := by decide +kernel
theorem dX8_init_68 : decode cX8_init 68 = .ok (.aload_n 0, 1) := by decide +kernel
theorem dX8_init_69 : decode cX8_init 69 = .ok (.sipush 1920, 3) := by decide +kernel
theorem dX8_init_72 : decode cX8_init 72 = .ok (.newarray .int, 2) := by decide +kernel
theorem dX8_init_74 : decode cX8_init 74 = .ok (.putfield 34, 3) := by decide +kernel
theorem dX8_init_77 : decode cX8_init 77 = .ok (.aload_n 0, 1) := by decide +kernel
theorem dX8_init_78 : decode cX8_init 78 = .ok (.iconst (-1), 1) := by decide +kernel
theorem dX8_init_79 : decode cX8_init 79 = .ok (.putfield 37, 3) := by decide +kernel
theorem dX8_init_82 : decode cX8_init 82 = .ok (.aload_n 0, 1) := by decide +kernel
theorem dX8_init_83 : decode cX8_init 83 = .ok (.bipush 21, 2) := by decide +kernel
theorem dX8_init_85 : decode cX8_init 85 = .ok (.newarray .int, 2) := by decide +kernel
theorem dX8_init_87 : decode cX8_init 87 = .ok (.putfield 40, 3) := by decide +kernel
theorem dX8_init_90 : decode cX8_init 90 = .ok (.aload_n 0, 1) := by decide +kernel
theorem dX8_init_91 : decode cX8_init 91 = .ok (.bipush 21, 2) := by decide +kernel
theorem dX8_init_93 : decode cX8_init 93 = .ok (.newarray .int, 2) := by decide +kernel
theorem dX8_init_95 : decode cX8_init 95 = .ok (.putfield 43, 3) := by decide +kernel
theorem dX8_init_98 : decode cX8_init 98 = .ok (.aload_n 0, 1) := by decide +kernel
theorem dX8_init_99 : decode cX8_init 99 = .ok (.bipush 8, 2) := by decide +kernel
theorem dX8_init_101 : decode cX8_init 101 = .ok (.newarray .int, 2) := by decide +kernel
theorem dX8_init_103 : decode cX8_init 103 = .ok (.putfield 46, 3) := by decide +kernel
theorem dX8_init_106 : decode cX8_init 106 = .ok (.aload_n 0, 1) := by decide +kernel
theorem dX8_init_107 : decode cX8_init 107 = .ok (.bipush 8, 2) := by decide +kernel
theorem dX8_init_109 : decode cX8_init 109 = .ok (.newarray .int, 2) := by decide +kernel
theorem dX8_init_111 : decode cX8_init 111 = .ok (.putfield 49, 3) := by decide +kernel
theorem dX8_init_114 : decode cX8_init 114 = .ok (.aload_n 0, 1) := by decide +kernel
theorem dX8_init_115 : decode cX8_init 115 = .ok (.bipush 8, 2) := by decide +kernel
theorem dX8_init_117 : decode cX8_init 117 = .ok (.newarray .int, 2) := by decide +kernel
theorem dX8_init_119 : decode cX8_init 119 = .ok (.putfield 52, 3) := by decide +kernel
theorem dX8_init_122 : decode cX8_init 122 = .ok (.aload_n 0, 1) := by decide +kernel
theorem dX8_init_123 : decode cX8_init 123 = .ok (.bipush 64, 2) := by decide +kernel
theorem dX8_init_125 : decode cX8_init 125 = .ok (.newarray .int, 2) := by decide +kernel
theorem dX8_init_127 : decode cX8_init 127 = .ok (.putfield 55, 3) := by decide +kernel
theorem dX8_init_130 : decode cX8_init 130 = .ok (.aload_n 0, 1) := by decide +kernel
theorem dX8_init_131 : decode cX8_init 131 = .ok (.bipush 64, 2) := by decide +kernel
theorem dX8_init_133 : decode cX8_init 133 = .ok (.newarray .int, 2) := by decide +kernel
theorem dX8_init_135 : decode cX8_init 135 = .ok (.putfield 58, 3) := by decide +kernel
theorem dX8_init_138 : decode cX8_init 138 = .ok (.aload_n 0, 1) := by decide +kernel
theorem dX8_init_139 : decode cX8_init 139 = .ok (.bipush 8, 2) := by decide +kernel
theorem dX8_init_141 : decode cX8_init 141 = .ok (.newarray .int, 2) := by decide +kernel
theorem dX8_init_143 : decode cX8_init 143 = .ok (.putfield 61, 3) := by decide +kernel
theorem dX8_init_146 : decode cX8_init 146 = .ok (.aload_n 0, 1) := by decide +kernel
theorem dX8_init_147 : decode cX8_init 147 = .ok (.bipush 8, 2) := by decide +kernel
theorem dX8_init_149 : decode cX8_init 149 = .ok (.newarray .int, 2) := by decide +kernel
theorem dX8_init_151 : decode cX8_init 151 = .ok (.putfield 64, 3) := by decide +kernel
theorem dX8_init_154 : decode cX8_init 154 = .ok (.aload_n 0, 1) := by decide +kernel
theorem dX8_init_155 : decode cX8_init 155 = .ok (.bipush 24, 2) := by decide +kernel
theorem dX8_init_157 : decode cX8_init 157 = .ok (.newarray .int, 2) := by decide +kernel
theorem dX8_init_159 : decode cX8_init 159 = .ok (.putfield 67, 3) := by decide +kernel
theorem dX8_init_162 : decode cX8_init 162 = .ok (.aload_n 0, 1) := by decide +kernel
theorem dX8_init_163 : decode cX8_init 163 = .ok (.bipush 24, 2) := by decide +kernel
theorem dX8_init_165 : decode cX8_init 165 = .ok (.newarray .int, 2) := by decide +kernel
theorem dX8_init_167 : decode cX8_init 167 = .ok (.putfield 70, 3) := by decide +kernel
theorem dX8_init_170 : decode cX8_init 170 = .ok (.return_, 1) := by decide +kernel
theorem dX8_status_0 : decode cX8_status 0 = .ok (.aload_n 0, 1) := by decide +kernel
theorem dX8_status_1 : decode cX8_status 1 = .ok (.getfield 73, 3) := by decide +kernel
theorem dX8_status_4 : decode cX8_status 4 = .ok (.ireturn, 1) := by decide +kernel
theorem dX8_top_0 : decode cX8_top 0 = .ok (.aload_n 0, 1) := by decide +kernel
theorem dX8_top_1 : decode cX8_top 1 = .ok (.getfield 76, 3) := by decide +kernel
theorem dX8_top_4 : decode cX8_top 4 = .ok (.lreturn, 1) := by decide +kernel
theorem dX8_bottom_0 : decode cX8_bottom 0 = .ok (.aload_n 0, 1) := by decide +kernel
theorem dX8_bottom_1 : decode cX8_bottom 1 = .ok (.getfield 7, 3) := by decide +kernel
theorem dX8_bottom_4 : decode cX8_bottom 4 = .ok (.lreturn, 1) := by decide +kernel
theorem dX8_is_0 : decode cX8_is 0 = .ok (.aload_n 0, 1) := by decide +kernel
theorem dX8_is_1 : decode cX8_is 1 = .ok (.iload_n 1, 1) := by decide +kernel
theorem dX8_is_2 : decode cX8_is 2 = .ok (.putfield 73, 3) := by decide +kernel
theorem dX8_is_5 : decode cX8_is 5 = .ok (.iload_n 1, 1) := by decide +kernel
theorem dX8_is_6 : decode cX8_is 6 = .ok (.ifCond .ne 7, 3) := by decide +kernel
theorem dX8_is_9 : decode cX8_is 9 = .ok (.iconst 1, 1) := by decide +kernel
theorem dX8_is_10 : decode cX8_is 10 = .ok (.goto 4, 3) := by decide +kernel
theorem dX8_is_13 : decode cX8_is 13 = .ok (.iconst 0, 1) := by decide +kernel
theorem dX8_is_14 : decode cX8_is 14 = .ok (.ireturn, 1) := by decide +kernel
theorem dX8_refuse_0 : decode cX8_refuse 0 = .ok (.aload_n 0, 1) := by decide +kernel
theorem dX8_refuse_1 : decode cX8_refuse 1 = .ok (.iload_n 1, 1) := by decide +kernel
theorem dX8_refuse_2 : decode cX8_refuse 2 = .ok (.putfield 73, 3) := by decide +kernel
theorem dX8_refuse_5 : decode cX8_refuse 5 = .ok (.iconst (-1), 1) := by decide +kernel
theorem dX8_refuse_6 : decode cX8_refuse 6 = .ok (.ireturn, 1) := by decide +kernel
theorem dX8_isTray_0 : decode cX8_isTray 0 = .ok (.iload_n 0, 1) := by decide +kernel
theorem dX8_isTray_1 : decode cX8_isTray 1 = .ok (.ifCond .lt 12, 3) := by decide +kernel
theorem dX8_isTray_4 : decode cX8_isTray 4 = .ok (.iload_n 0, 1) := by decide +kernel
theorem dX8_isTray_5 : decode cX8_isTray 5 = .ok (.iconst 4, 1) := by decide +kernel
theorem dX8_isTray_6 : decode cX8_isTray 6 = .ok (.if_icmp .ge 7, 3) := by decide +kernel
theorem dX8_isTray_9 : decode cX8_isTray 9 = .ok (.iconst 1, 1) := by decide +kernel
theorem dX8_isTray_10 : decode cX8_isTray 10 = .ok (.goto 4, 3) := by decide +kernel
theorem dX8_isTray_13 : decode cX8_isTray 13 = .ok (.iconst 0, 1) := by decide +kernel
theorem dX8_isTray_14 : decode cX8_isTray 14 = .ok (.ireturn, 1) := by decide +kernel
theorem dX8_cut_0 : decode cX8_cut 0 = .ok (.iload_n 2, 1) := by decide +kernel
theorem dX8_cut_1 : decode cX8_cut 1 = .ok (.ifCond .ne 10, 3) := by decide +kernel
theorem dX8_cut_4 : decode cX8_cut 4 = .ok (.lload_n 0, 1) := by decide +kernel
theorem dX8_cut_5 : decode cX8_cut 5 = .ok (.l2i, 1) := by decide +kernel
theorem dX8_cut_6 : decode cX8_cut 6 = .ok (.i2b, 1) := by decide +kernel
theorem dX8_cut_7 : decode cX8_cut 7 = .ok (.i2l, 1) := by decide +kernel
theorem dX8_cut_8 : decode cX8_cut 8 = .ok (.goto 27, 3) := by decide +kernel
theorem dX8_cut_11 : decode cX8_cut 11 = .ok (.iload_n 2, 1) := by decide +kernel
theorem dX8_cut_12 : decode cX8_cut 12 = .ok (.iconst 1, 1) := by decide +kernel
theorem dX8_cut_13 : decode cX8_cut 13 = .ok (.if_icmp .ne 10, 3) := by decide +kernel
theorem dX8_cut_16 : decode cX8_cut 16 = .ok (.lload_n 0, 1) := by decide +kernel
theorem dX8_cut_17 : decode cX8_cut 17 = .ok (.l2i, 1) := by decide +kernel
theorem dX8_cut_18 : decode cX8_cut 18 = .ok (.i2s, 1) := by decide +kernel
theorem dX8_cut_19 : decode cX8_cut 19 = .ok (.i2l, 1) := by decide +kernel
theorem dX8_cut_20 : decode cX8_cut 20 = .ok (.goto 15, 3) := by decide +kernel
theorem dX8_cut_23 : decode cX8_cut 23 = .ok (.iload_n 2, 1) := by decide +kernel
theorem dX8_cut_24 : decode cX8_cut 24 = .ok (.iconst 2, 1) := by decide +kernel
theorem dX8_cut_25 : decode cX8_cut 25 = .ok (.if_icmp .ne 9, 3) := by decide +kernel
theorem dX8_cut_28 : decode cX8_cut 28 = .ok (.lload_n 0, 1) := by decide +kernel
theorem dX8_cut_29 : decode cX8_cut 29 = .ok (.l2i, 1) := by decide +kernel
theorem dX8_cut_30 : decode cX8_cut 30 = .ok (.i2l, 1) := by decide +kernel
theorem dX8_cut_31 : decode cX8_cut 31 = .ok (.goto 4, 3) := by decide +kernel
theorem dX8_cut_34 : decode cX8_cut 34 = .ok (.lload_n 0, 1) := by decide +kernel
theorem dX8_cut_35 : decode cX8_cut 35 = .ok (.lreturn, 1) := by decide +kernel
set_option maxRecDepth 20000 in
theorem ggX8_tray_X8_isTray : GoodIn wsX8_tray wsX8_isTray := goodIn_r _ [7] (by decide +kernel) (by decide +kernel)
set_option maxRecDepth 20000 in
theorem gX8_tray_X8_isTray : GoodIn wsX8_tray (va_wsS RX8 79 yX8_isTray wsX8_isTray) := goodIn_app (goodIn_of _ (by decide +kernel)) ggX8_tray_X8_isTray
set_option maxRecDepth 20000 in
theorem ggX8_tray_X8_is : GoodIn wsX8_tray wsX8_is := goodIn_r _ [11, 12, 13, 14, 15, 16, 17, 18, 19, 20, 21, 22, 23, 24, 25, 26, 27, 28, 29, 30, 31, 32, 33, 34, 35] (by decide +kernel) (by decide +kernel)
set_option maxRecDepth 20000 in
theorem gX8_tray_X8_is : GoodIn wsX8_tray (wsV RX8 83 RX8 yX8_is wsX8_is) := goodIn_app (goodIn_of _ (by decide +kernel)) ggX8_tray_X8_is
theorem dX8_tray_0 : decode cX8_tray 0 = .ok (.iload_n 1, 1) := by decide +kernel
theorem dX8_tray_1 : decode cX8_tray 1 = .ok (.invokestatic 79, 3) := by decide +kernel
theorem dX8_tray_4 : decode cX8_tray 4 = .ok (.ifCond .eq 22, 3) := by decide +kernel
theorem dX8_tray_7 : decode cX8_tray 7 = .ok (.iload_n 2, 1) := by decide +kernel
theorem dX8_tray_8 : decode cX8_tray 8 = .ok (.ifCond .lt 18, 3) := by decide +kernel
theorem dX8_tray_11 : decode cX8_tray 11 = .ok (.iload_n 2, 1) := by decide +kernel
