set_option maxRecDepth 20000 in
theorem gX7_book_X7_agree : GoodIn wsX7_book (wsV RX7 84 RX7 yX7_agree wsX7_agree) := goodIn_app (goodIn_of _ (by decide +kernel)) ggX7_book_X7_agree
theorem dX7_book_0 : decode cX7_book 0 = .ok (.aload_n 0, 1) := by decide +kernel
theorem dX7_book_1 : decode cX7_book 1 = .ok (.iload_n 1, 1) := by decide +kernel
theorem dX7_book_2 : decode cX7_book 2 = .ok (.iload_n 2, 1) := by decide +kernel
theorem dX7_book_3 : decode cX7_book 3 = .ok (.iload_n 3, 1) := by decide +kernel
theorem dX7_book_4 : decode cX7_book 4 = .ok (.iload 4, 2) := by decide +kernel
theorem dX7_book_6 : decode cX7_book 6 = .ok (.invokevirtual 136, 3) := by decide +kernel
theorem dX7_book_9 : decode cX7_book 9 = .ok (.istore 5, 2) := by decide +kernel
theorem dX7_book_11 : decode cX7_book 11 = .ok (.iload 5, 2) := by decide +kernel
theorem dX7_book_13 : decode cX7_book 13 = .ok (.ifCond .eq 10, 3) := by decide +kernel
theorem dX7_book_16 : decode cX7_book 16 = .ok (.aload_n 0, 1) := by decide +kernel
theorem dX7_book_17 : decode cX7_book 17 = .ok (.iload 5, 2) := by decide +kernel
theorem dX7_book_19 : decode cX7_book 19 = .ok (.invokevirtual 77, 3) := by decide +kernel
theorem dX7_book_22 : decode cX7_book 22 = .ok (.ireturn, 1) := by decide +kernel
theorem dX7_book_23 : decode cX7_book 23 = .ok (.iconst 0, 1) := by decide +kernel
theorem dX7_book_24 : decode cX7_book 24 = .ok (.istore 6, 2) := by decide +kernel
theorem dX7_book_26 : decode cX7_book 26 = .ok (.iload 6, 2) := by decide +kernel
theorem dX7_book_28 : decode cX7_book 28 = .ok (.iload 4, 2) := by decide +kernel
theorem dX7_book_30 : decode cX7_book 30 = .ok (.if_icmp .ge 32, 3) := by decide +kernel
theorem dX7_book_33 : decode cX7_book 33 = .ok (.aload_n 0, 1) := by decide +kernel
theorem dX7_book_34 : decode cX7_book 34 = .ok (.getfield 19, 3) := by decide +kernel
theorem dX7_book_37 : decode cX7_book 37 = .ok (.iload_n 1, 1) := by decide +kernel
theorem dX7_book_38 : decode cX7_book 38 = .ok (.iload_n 2, 1) := by decide +kernel
theorem dX7_book_39 : decode cX7_book 39 = .ok (.iload 6, 2) := by decide +kernel
theorem dX7_book_41 : decode cX7_book 41 = .ok (.iadd, 1) := by decide +kernel
theorem dX7_book_42 : decode cX7_book 42 = .ok (.aload_n 0, 1) := by decide +kernel
theorem dX7_book_43 : decode cX7_book 43 = .ok (.getfield 10, 3) := by decide +kernel
theorem dX7_book_46 : decode cX7_book 46 = .ok (.iload_n 3, 1) := by decide +kernel
theorem dX7_book_47 : decode cX7_book 47 = .ok (.iload 6, 2) := by decide +kernel
theorem dX7_book_49 : decode cX7_book 49 = .ok (.invokevirtual 100, 3) := by decide +kernel
theorem dX7_book_52 : decode cX7_book 52 = .ok (.l2i, 1) := by decide +kernel
theorem dX7_book_53 : decode cX7_book 53 = .ok (.invokevirtual 131, 3) := by decide +kernel
theorem dX7_book_56 : decode cX7_book 56 = .ok (.iinc 6 1, 3) := by decide +kernel
theorem dX7_book_59 : decode cX7_book 59 = .ok (.goto (-33), 3) := by decide +kernel
theorem dX7_book_62 : decode cX7_book 62 = .ok (.aload_n 0, 1) := by decide +kernel
theorem dX7_book_63 : decode cX7_book 63 = .ok (.invokevirtual 84, 3) := by decide +kernel
theorem dX7_book_66 : decode cX7_book 66 = .ok (.ireturn, 1) := by decide +kernel
set_option maxRecDepth 20000 in
theorem ggX7_told_X7_isEye : GoodIn wsX7_told wsX7_isEye := goodIn_r _ [6, 1, 42, 43, 44, 45, 46, 47, 48, 49, 50, 51, 52, 53, 54] (by decide +kernel) (by decide +kernel)
set_option maxRecDepth 20000 in
theorem gX7_told_X7_isEye : GoodIn wsX7_told (wsV RX7 122 RX7 yX7_isEye wsX7_isEye) := goodIn_app (goodIn_of _ (by decide +kernel)) ggX7_told_X7_isEye
set_option maxRecDepth 20000 in
theorem ggX7_told_X7_isDay : GoodIn wsX7_told wsX7_isDay := goodIn_r _ [9, 10, 11, 5, 12] (by decide +kernel) (by decide +kernel)
set_option maxRecDepth 20000 in
theorem gX7_told_X7_isDay : GoodIn wsX7_told (va_wsS RX7 125 yX7_isDay wsX7_isDay) := goodIn_app (goodIn_of _ (by decide +kernel)) ggX7_told_X7_isDay
set_option maxRecDepth 20000 in
theorem ggX7_told_X7_isWithin : GoodIn wsX7_told wsX7_isWithin := goodIn_r _ [12] (by decide +kernel) (by decide +kernel)
set_option maxRecDepth 20000 in
theorem gX7_told_X7_isWithin : GoodIn wsX7_told (va_wsS RX7 69 yX7_isWithin wsX7_isWithin) := goodIn_app (goodIn_of _ (by decide +kernel)) ggX7_told_X7_isWithin
set_option maxRecDepth 20000 in
theorem ggX7_told_X7_lack : GoodIn wsX7_told wsX7_lack := goodIn_r _ [16, 17, 42, 43, 44, 45, 46, 47, 48, 49] (by decide +kernel) (by decide +kernel)
set_option maxRecDepth 20000 in
theorem gX7_told_X7_lack : GoodIn wsX7_told (wsV RX7 96 RX7 yX7_lack wsX7_lack) := goodIn_app (goodIn_of _ (by decide +kernel)) ggX7_told_X7_lack
set_option maxRecDepth 20000 in
theorem ggX7_told_X5_has : GoodIn wsX7_told wsX5_has := goodIn_r _ [22, 23, 50, 51, 52, 53, 54] (by decide +kernel) (by decide +kernel)
set_option maxRecDepth 20000 in
theorem gX7_told_X5_has : GoodIn wsX7_told (wsV RX7 133 RX5 yX5_has wsX5_has) := goodIn_app (goodIn_of _ (by decide +kernel)) ggX7_told_X5_has
set_option maxRecDepth 20000 in
theorem ggX7_told_X5_groupsOf : GoodIn wsX7_told wsX5_groupsOf := goodIn_r _ [27, 23, 50, 51, 52, 53, 54] (by decide +kernel) (by decide +kernel)
set_option maxRecDepth 20000 in
theorem gX7_told_X5_groupsOf : GoodIn wsX7_told (wsV RX7 140 RX5 yX5_groupsOf wsX5_groupsOf) := goodIn_app (goodIn_of _ (by decide +kernel)) ggX7_told_X5_groupsOf
set_option maxRecDepth 20000 in
theorem ggX7_told_X7_answer : GoodIn wsX7_told wsX7_answer := goodIn_r _ [31, 17, 42, 43, 44, 45, 46, 47, 48, 49] (by decide +kernel) (by decide +kernel)
set_option maxRecDepth 20000 in
theorem gX7_told_X7_answer : GoodIn wsX7_told (wsV RX7 119 RX7 yX7_answer wsX7_answer) := goodIn_app (goodIn_of _ (by decide +kernel)) ggX7_told_X7_answer
set_option maxRecDepth 20000 in
theorem ggX7_told_X5_spotsOf : GoodIn wsX7_told wsX5_spotsOf := goodIn_r _ [35, 23, 50, 51, 52, 53, 54] (by decide +kernel) (by decide +kernel)
set_option maxRecDepth 20000 in
theorem gX7_told_X5_spotsOf : GoodIn wsX7_told (wsV RX7 143 RX5 yX5_spotsOf wsX5_spotsOf) := goodIn_app (goodIn_of _ (by decide +kernel)) ggX7_told_X5_spotsOf
set_option maxRecDepth 20000 in
theorem ggX7_told_X5_numberOf : GoodIn wsX7_told wsX5_numberOf := goodIn_r _ [39, 40, 25, 26, 21, 27, 23, 41, 33, 34, 35, 50, 51, 52, 53, 54] (by decide +kernel) (by decide +kernel)
set_option maxRecDepth 20000 in
theorem gX7_told_X5_numberOf : GoodIn wsX7_told (wsV RX7 146 RX5 yX5_numberOf wsX5_numberOf) := goodIn_app (goodIn_of _ (by decide +kernel)) ggX7_told_X5_numberOf
theorem dX7_told_0 : decode cX7_told 0 = .ok (.aload_n 0, 1) := by decide +kernel
theorem dX7_told_1 : decode cX7_told 1 = .ok (.iload_n 1, 1) := by decide +kernel
theorem dX7_told_2 : decode cX7_told 2 = .ok (.invokevirtual 122, 3) := by decide +kernel
theorem dX7_told_5 : decode cX7_told 5 = .ok (.ifCond .eq 18, 3) := by decide +kernel
theorem dX7_told_8 : decode cX7_told 8 = .ok (.iload_n 2, 1) := by decide +kernel
theorem dX7_told_9 : decode cX7_told 9 = .ok (.invokestatic 125, 3) := by decide +kernel
theorem dX7_told_12 : decode cX7_told 12 = .ok (.ifCond .eq 11, 3) := by decide +kernel
theorem dX7_told_15 : decode cX7_told 15 = .ok (.iload_n 3, 1) := by decide +kernel
theorem dX7_told_16 : decode cX7_told 16 = .ok (.iconst 2, 1) := by decide +kernel
theorem dX7_told_17 : decode cX7_told 17 = .ok (.invokestatic 69, 3) := by decide +kernel
theorem dX7_told_20 : decode cX7_told 20 = .ok (.ifCond .ne 9, 3) := by decide +kernel
theorem dX7_told_23 : decode cX7_told 23 = .ok (.aload_n 0, 1) := by decide +kernel
theorem dX7_told_24 : decode cX7_told 24 = .ok (.iconst 1, 1) := by decide +kernel
theorem dX7_told_25 : decode cX7_told 25 = .ok (.invokevirtual 96, 3) := by decide +kernel
theorem dX7_told_28 : decode cX7_told 28 = .ok (.ireturn, 1) := by decide +kernel
theorem dX7_told_29 : decode cX7_told 29 = .ok (.aload_n 0, 1) := by decide +kernel
theorem dX7_told_30 : decode cX7_told 30 = .ok (.getfield 19, 3) := by decide +kernel
theorem dX7_told_33 : decode cX7_told 33 = .ok (.iload_n 1, 1) := by decide +kernel
theorem dX7_told_34 : decode cX7_told 34 = .ok (.iload_n 2, 1) := by decide +kernel
theorem dX7_told_35 : decode cX7_told 35 = .ok (.invokevirtual 133, 3) := by decide +kernel
theorem dX7_told_38 : decode cX7_told 38 = .ok (.ifCond .ne 9, 3) := by decide +kernel
theorem dX7_told_41 : decode cX7_told 41 = .ok (.aload_n 0, 1) := by decide +kernel
theorem dX7_told_42 : decode cX7_told 42 = .ok (.iconst 5, 1) := by decide +kernel
theorem dX7_told_43 : decode cX7_told 43 = .ok (.invokevirtual 96, 3) := by decide +kernel
theorem dX7_told_46 : decode cX7_told 46 = .ok (.ireturn, 1) := by decide +kernel
theorem dX7_told_47 : decode cX7_told 47 = .ok (.iload_n 3, 1) := by decide +kernel
theorem dX7_told_48 : decode cX7_told 48 = .ok (.ifCond .ne 17, 3) := by decide +kernel
theorem dX7_told_51 : decode cX7_told 51 = .ok (.aload_n 0, 1) := by decide +kernel
theorem dX7_told_52 : decode cX7_told 52 = .ok (.aload_n 0, 1) := by decide +kernel
theorem dX7_told_53 : decode cX7_told 53 = .ok (.getfield 19, 3) := by decide +kernel
theorem dX7_told_56 : decode cX7_told 56 = .ok (.iload_n 1, 1) := by decide +kernel
theorem dX7_told_57 : decode cX7_told 57 = .ok (.iload_n 2, 1) := by decide +kernel
theorem dX7_told_58 : decode cX7_told 58 = .ok (.invokevirtual 140, 3) := by decide +kernel
theorem dX7_told_61 : decode cX7_told 61 = .ok (.invokevirtual 119, 3) := by decide +kernel
theorem dX7_told_64 : decode cX7_told 64 = .ok (.ireturn, 1) := by decide +kernel
theorem dX7_told_65 : decode cX7_told 65 = .ok (.aload_n 0, 1) := by decide +kernel
theorem dX7_told_66 : decode cX7_told 66 = .ok (.iload_n 3, 1) := by decide +kernel
theorem dX7_told_67 : decode cX7_told 67 = .ok (.iconst 1, 1) := by decide +kernel
theorem dX7_told_68 : decode cX7_told 68 = .ok (.if_icmp .ne 15, 3) := by decide +kernel
theorem dX7_told_71 : decode cX7_told 71 = .ok (.aload_n 0, 1) := by decide +kernel
theorem dX7_told_72 : decode cX7_told 72 = .ok (.getfield 19, 3) := by decide +kernel
theorem dX7_told_75 : decode cX7_told 75 = .ok (.iload_n 1, 1) := by decide +kernel
theorem dX7_told_76 : decode cX7_told 76 = .ok (.iload_n 2, 1) := by decide +kernel
theorem dX7_told_77 : decode cX7_told 77 = .ok (.invokevirtual 143, 3) := by decide +kernel
theorem dX7_told_80 : decode cX7_told 80 = .ok (.goto 12, 3) := by decide +kernel
theorem dX7_told_83 : decode cX7_told 83 = .ok (.aload_n 0, 1) := by decide +kernel
theorem dX7_told_84 : decode cX7_told 84 = .ok (.getfield 19, 3) := by decide +kernel
theorem dX7_told_87 : decode cX7_told 87 = .ok (.iload_n 1, 1) := by decide +kernel
theorem dX7_told_88 : decode cX7_told 88 = .ok (.iload_n 2, 1) := by decide +kernel
theorem dX7_told_89 : decode cX7_told 89 = .ok (.invokevirtual 146, 3) := by decide +kernel
theorem dX7_told_92 : decode cX7_told 92 = .ok (.invokevirtual 119, 3) := by decide +kernel
theorem dX7_told_95 : decode cX7_told 95 = .ok (.ireturn, 1) := by decide +kernel
set_option maxRecDepth 20000 in
theorem ggX7_days_X7_isEye : GoodIn wsX7_days wsX7_isEye := goodIn_r _ [6, 1, 26, 27, 28, 29, 30, 31, 32, 33, 34, 35, 36, 37, 38] (by decide +kernel) (by decide +kernel)
set_option maxRecDepth 20000 in
theorem gX7_days_X7_isEye : GoodIn wsX7_days (wsV RX7 122 RX7 yX7_isEye wsX7_isEye) := goodIn_app (goodIn_of _ (by decide +kernel)) ggX7_days_X7_isEye
set_option maxRecDepth 20000 in
theorem ggX7_days_X7_lack : GoodIn wsX7_days wsX7_lack := goodIn_r _ [10, 11, 26, 27, 28, 29, 30, 31, 32, 33] (by decide +kernel) (by decide +kernel)
set_option maxRecDepth 20000 in
theorem gX7_days_X7_lack : GoodIn wsX7_days (wsV RX7 96 RX7 yX7_lack wsX7_lack) := goodIn_app (goodIn_of _ (by decide +kernel)) ggX7_days_X7_lack
set_option maxRecDepth 20000 in
theorem ggX7_days_X5_countDays : GoodIn wsX7_days wsX5_countDays := goodIn_r _ [16, 17, 18, 19, 15, 20, 21, 34, 35, 36, 37, 38] (by decide +kernel) (by decide +kernel)
set_option maxRecDepth 20000 in
theorem gX7_days_X5_countDays : GoodIn wsX7_days (wsV RX7 149 RX5 yX5_countDays wsX5_countDays) := goodIn_app (goodIn_of _ (by decide +kernel)) ggX7_days_X5_countDays
set_option maxRecDepth 20000 in
theorem ggX7_days_X7_answer : GoodIn wsX7_days wsX7_answer := goodIn_r _ [25, 11, 26, 27, 28, 29, 30, 31, 32, 33] (by decide +kernel) (by decide +kernel)
set_option maxRecDepth 20000 in
theorem gX7_days_X7_answer : GoodIn wsX7_days (wsV RX7 119 RX7 yX7_answer wsX7_answer) := goodIn_app (goodIn_of _ (by decide +kernel)) ggX7_days_X7_answer
theorem dX7_days_0 : decode cX7_days 0 = .ok (.aload_n 0, 1) := by decide +kernel
theorem dX7_days_1 : decode cX7_days 1 = .ok (.iload_n 1, 1) := by decide +kernel
theorem dX7_days_2 : decode cX7_days 2 = .ok (.invokevirtual 122, 3) := by decide +kernel
theorem dX7_days_5 : decode cX7_days 5 = .ok (.ifCond .ne 9, 3) := by decide +kernel
theorem dX7_days_8 : decode cX7_days 8 = .ok (.aload_n 0, 1) := by decide +kernel
theorem dX7_days_9 : decode cX7_days 9 = .ok (.iconst 1, 1) := by decide +kernel
theorem dX7_days_10 : decode cX7_days 10 = .ok (.invokevirtual 96, 3) := by decide +kernel
theorem dX7_days_13 : decode cX7_days 13 = .ok (.ireturn, 1) := by decide +kernel
theorem dX7_days_14 : decode cX7_days 14 = .ok (.aload_n 0, 1) := by decide +kernel
theorem dX7_days_15 : decode cX7_days 15 = .ok (.aload_n 0, 1) := by decide +kernel
theorem dX7_days_16 : decode cX7_days 16 = .ok (.getfield 19, 3) := by decide +kernel
theorem dX7_days_19 : decode cX7_days 19 = .ok (.iload_n 1, 1) := by decide +kernel
theorem dX7_days_20 : decode cX7_days 20 = .ok (.iconst 0, 1) := by decide +kernel
theorem dX7_days_21 : decode cX7_days 21 = .ok (.sipush 239, 3) := by decide +kernel
theorem dX7_days_24 : decode cX7_days 24 = .ok (.invokevirtual 149, 3) := by decide +kernel
theorem dX7_days_27 : decode cX7_days 27 = .ok (.invokevirtual 119, 3) := by decide +kernel
theorem dX7_days_30 : decode cX7_days 30 = .ok (.ireturn, 1) := by decide +kernel
set_option maxRecDepth 20000 in
theorem ggX7_rules_X7_refuse : GoodIn wsX7_rules wsX7_refuse := goodIn_r _ [7, 8, 13, 14, 15, 16, 17, 18, 19, 20] (by decide +kernel) (by decide +kernel)
set_option maxRecDepth 20000 in
theorem gX7_rules_X7_refuse : GoodIn wsX7_rules (wsV RX7 77 RX7 yX7_refuse wsX7_refuse) := goodIn_app (goodIn_of _ (by decide +kernel)) ggX7_rules_X7_refuse
set_option maxRecDepth 20000 in
theorem ggX7_rules_X7_agree : GoodIn wsX7_rules wsX7_agree := goodIn_r _ [12, 8, 13, 14, 15, 16, 17, 18, 19, 20] (by decide +kernel) (by decide +kernel)
set_option maxRecDepth 20000 in
theorem gX7_rules_X7_agree : GoodIn wsX7_rules (wsV RX7 84 RX7 yX7_agree wsX7_agree) := goodIn_app (goodIn_of _ (by decide +kernel)) ggX7_rules_X7_agree
theorem dX7_rules_0 : decode cX7_rules 0 = .ok (.iload_n 1, 1) := by decide +kernel
theorem dX7_rules_1 : decode cX7_rules 1 = .ok (.iconst 1, 1) := by decide +kernel
theorem dX7_rules_2 : decode cX7_rules 2 = .ok (.if_icmp .lt 20, 3) := by decide +kernel
theorem dX7_rules_5 : decode cX7_rules 5 = .ok (.iload_n 1, 1) := by decide +kernel
theorem dX7_rules_6 : decode cX7_rules 6 = .ok (.bipush 100, 2) := by decide +kernel
theorem dX7_rules_8 : decode cX7_rules 8 = .ok (.if_icmp .gt 14, 3) := by decide +kernel
theorem dX7_rules_11 : decode cX7_rules 11 = .ok (.iload_n 2, 1) := by decide +kernel
theorem dX7_rules_12 : decode cX7_rules 12 = .ok (.iconst 1, 1) := by decide +kernel
theorem dX7_rules_13 : decode cX7_rules 13 = .ok (.if_icmp .lt 9, 3) := by decide +kernel
theorem dX7_rules_16 : decode cX7_rules 16 = .ok (.iload_n 2, 1) := by decide +kernel
theorem dX7_rules_17 : decode cX7_rules 17 = .ok (.bipush 10, 2) := by decide +kernel
theorem dX7_rules_19 : decode cX7_rules 19 = .ok (.if_icmp .le 9, 3) := by decide +kernel
theorem dX7_rules_22 : decode cX7_rules 22 = .ok (.aload_n 0, 1) := by decide +kernel
theorem dX7_rules_23 : decode cX7_rules 23 = .ok (.iconst 1, 1) := by decide +kernel
theorem dX7_rules_24 : decode cX7_rules 24 = .ok (.invokevirtual 77, 3) := by decide +kernel
theorem dX7_rules_27 : decode cX7_rules 27 = .ok (.ireturn, 1) := by decide +kernel
theorem dX7_rules_28 : decode cX7_rules 28 = .ok (.aload_n 0, 1) := by decide +kernel
theorem dX7_rules_29 : decode cX7_rules 29 = .ok (.getfield 19, 3) := by decide +kernel
theorem dX7_rules_32 : decode cX7_rules 32 = .ok (.iload_n 1, 1) := by decide +kernel
theorem dX7_rules_33 : decode cX7_rules 33 = .ok (.putfield 153, 3) := by decide +kernel
theorem dX7_rules_36 : decode cX7_rules 36 = .ok (.aload_n 0, 1) := by decide +kernel
theorem dX7_rules_37 : decode cX7_rules 37 = .ok (.getfield 47, 3) := by decide +kernel
theorem dX7_rules_40 : decode cX7_rules 40 = .ok (.iload_n 2, 1) := by decide +kernel
theorem dX7_rules_41 : decode cX7_rules 41 = .ok (.putfield 156, 3) := by decide +kernel
theorem dX7_rules_44 : decode cX7_rules 44 = .ok (.aload_n 0, 1) := by decide +kernel
theorem dX7_rules_45 : decode cX7_rules 45 = .ok (.invokevirtual 84, 3) := by decide +kernel
theorem dX7_rules_48 : decode cX7_rules 48 = .ok (.ireturn, 1) := by decide +kernel
set_option maxRecDepth 20000 in
theorem ggX7_both_X7_arePair : GoodIn wsX7_both wsX7_arePair := goodIn_r _ [6, 7, 8, 9, 5, 10, 1, 26, 27, 28, 29, 30, 31, 32, 33, 34, 35, 36, 37, 38] (by decide +kernel) (by decide +kernel)
set_option maxRecDepth 20000 in
theorem gX7_both_X7_arePair : GoodIn wsX7_both (wsV RX7 159 RX7 yX7_arePair wsX7_arePair) := goodIn_app (goodIn_of _ (by decide +kernel)) ggX7_both_X7_arePair
set_option maxRecDepth 20000 in
theorem ggX7_both_X7_lack : GoodIn wsX7_both wsX7_lack := goodIn_r _ [14, 15, 26, 27, 28, 29, 30, 31, 32, 33] (by decide +kernel) (by decide +kernel)
set_option maxRecDepth 20000 in
theorem gX7_both_X7_lack : GoodIn wsX7_both (wsV RX7 96 RX7 yX7_lack wsX7_lack) := goodIn_app (goodIn_of _ (by decide +kernel)) ggX7_both_X7_lack
set_option maxRecDepth 20000 in
theorem ggX7_both_X5_countBoth : GoodIn wsX7_both wsX5_countBoth := goodIn_r _ [20, 21, 34, 35, 36, 37, 38] (by decide +kernel) (by decide +kernel)
set_option maxRecDepth 20000 in
theorem gX7_both_X5_countBoth : GoodIn wsX7_both (wsV RX7 162 RX5 yX5_countBoth wsX5_countBoth) := goodIn_app (goodIn_of _ (by decide +kernel)) ggX7_both_X5_countBoth
set_option maxRecDepth 20000 in
theorem ggX7_both_X7_answer : GoodIn wsX7_both wsX7_answer := goodIn_r _ [25, 15, 26, 27, 28, 29, 30, 31, 32, 33] (by decide +kernel) (by decide +kernel)
set_option maxRecDepth 20000 in
theorem gX7_both_X7_answer : GoodIn wsX7_both (wsV RX7 119 RX7 yX7_answer wsX7_answer) := goodIn_app (goodIn_of _ (by decide +kernel)) ggX7_both_X7_answer
theorem dX7_both_0 : decode cX7_both 0 = .ok (.aload_n 0, 1) := by decide +kernel
theorem dX7_both_1 : decode cX7_both 1 = .ok (.iload_n 1, 1) := by decide +kernel
theorem dX7_both_2 : decode cX7_both 2 = .ok (.iload_n 2, 1) := by decide +kernel
theorem dX7_both_3 : decode cX7_both 3 = .ok (.invokevirtual 159, 3) := by decide +kernel
theorem dX7_both_6 : decode cX7_both 6 = .ok (.ifCond .ne 9, 3) := by decide +kernel
theorem dX7_both_9 : decode cX7_both 9 = .ok (.aload_n 0, 1) := by decide +kernel
theorem dX7_both_10 : decode cX7_both 10 = .ok (.iconst 1, 1) := by decide +kernel
theorem dX7_both_11 : decode cX7_both 11 = .ok (.invokevirtual 96, 3) := by decide +kernel
theorem dX7_both_14 : decode cX7_both 14 = .ok (.ireturn, 1) := by decide +kernel
theorem dX7_both_15 : decode cX7_both 15 = .ok (.aload_n 0, 1) := by decide +kernel
theorem dX7_both_16 : decode cX7_both 16 = .ok (.aload_n 0, 1) := by decide +kernel
theorem dX7_both_17 : decode cX7_both 17 = .ok (.getfield 19, 3) := by decide +kernel
theorem dX7_both_20 : decode cX7_both 20 = .ok (.iload_n 1, 1) := by decide +kernel
theorem dX7_both_21 : decode cX7_both 21 = .ok (.iload_n 2, 1) := by decide +kernel
theorem dX7_both_22 : decode cX7_both 22 = .ok (.invokevirtual 162, 3) := by decide +kernel
theorem dX7_both_25 : decode cX7_both 25 = .ok (.invokevirtual 119, 3) := by decide +kernel
theorem dX7_both_28 : decode cX7_both 28 = .ok (.ireturn, 1) := by decide +kernel
set_option maxRecDepth 20000 in
theorem ggX7_factor_X7_arePair : GoodIn wsX7_factor wsX7_arePair := goodIn_r _ [6, 7, 8, 9, 5, 10, 1, 33, 34, 35, 36, 37, 38, 39, 40, 41, 42, 43, 44, 45] (by decide +kernel) (by decide +kernel)
set_option maxRecDepth 20000 in
theorem gX7_factor_X7_arePair : GoodIn wsX7_factor (wsV RX7 159 RX7 yX7_arePair wsX7_arePair) := goodIn_app (goodIn_of _ (by decide +kernel)) ggX7_factor_X7_arePair
set_option maxRecDepth 20000 in
theorem ggX7_factor_X7_lack : GoodIn wsX7_factor wsX7_lack := goodIn_r _ [14, 15, 33, 34, 35, 36, 37, 38, 39, 40] (by decide +kernel) (by decide +kernel)
set_option maxRecDepth 20000 in
theorem gX7_factor_X7_lack : GoodIn wsX7_factor (wsV RX7 96 RX7 yX7_lack wsX7_lack) := goodIn_app (goodIn_of _ (by decide +kernel)) ggX7_factor_X7_lack
set_option maxRecDepth 20000 in
theorem ggX7_factor_X5_factorOf : GoodIn wsX7_factor wsX5_factorOf := goodIn_r _ [20, 21, 22, 23, 24, 41, 42, 43, 44, 45] (by decide +kernel) (by decide +kernel)
set_option maxRecDepth 20000 in
theorem gX7_factor_X5_factorOf : GoodIn wsX7_factor (wsV RX7 165 RX5 yX5_factorOf wsX5_factorOf) := goodIn_app (goodIn_of _ (by decide +kernel)) ggX7_factor_X5_factorOf
set_option maxRecDepth 20000 in
theorem ggX7_factor_X7_answerOr : GoodIn wsX7_factor wsX7_answerOr := goodIn_r _ [28, 11, 12, 13, 5, 14, 15, 29, 30, 31, 32, 33, 34, 35, 36, 37, 38, 39, 40] (by decide +kernel) (by decide +kernel)
set_option maxRecDepth 20000 in
theorem gX7_factor_X7_answerOr : GoodIn wsX7_factor (wsV RX7 168 RX7 yX7_answerOr wsX7_answerOr) := goodIn_app (goodIn_of _ (by decide +kernel)) ggX7_factor_X7_answerOr
theorem dX7_factor_0 : decode cX7_factor 0 = .ok (.aload_n 0, 1) := by decide +kernel
theorem dX7_factor_1 : decode cX7_factor 1 = .ok (.iload_n 1, 1) := by decide +kernel
theorem dX7_factor_2 : decode cX7_factor 2 = .ok (.iload_n 2, 1) := by decide +kernel
theorem dX7_factor_3 : decode cX7_factor 3 = .ok (.invokevirtual 159, 3) := by decide +kernel
theorem dX7_factor_6 : decode cX7_factor 6 = .ok (.ifCond .ne 9, 3) := by decide +kernel
theorem dX7_factor_9 : decode cX7_factor 9 = .ok (.aload_n 0, 1) := by decide +kernel
theorem dX7_factor_10 : decode cX7_factor 10 = .ok (.iconst 1, 1) := by decide +kernel
theorem dX7_factor_11 : decode cX7_factor 11 = .ok (.invokevirtual 96, 3) := by decide +kernel
theorem dX7_factor_14 : decode cX7_factor 14 = .ok (.ireturn, 1) := by decide +kernel
theorem dX7_factor_15 : decode cX7_factor 15 = .ok (.aload_n 0, 1) := by decide +kernel
theorem dX7_factor_16 : decode cX7_factor 16 = .ok (.bipush 6, 2) := by decide +kernel
theorem dX7_factor_18 : decode cX7_factor 18 = .ok (.aload_n 0, 1) := by decide +kernel
theorem dX7_factor_19 : decode cX7_factor 19 = .ok (.getfield 19, 3) := by decide +kernel
theorem dX7_factor_22 : decode cX7_factor 22 = .ok (.iload_n 1, 1) := by decide +kernel
theorem dX7_factor_23 : decode cX7_factor 23 = .ok (.iload_n 2, 1) := by decide +kernel
theorem dX7_factor_24 : decode cX7_factor 24 = .ok (.invokevirtual 165, 3) := by decide +kernel
theorem dX7_factor_27 : decode cX7_factor 27 = .ok (.invokevirtual 168, 3) := by decide +kernel
theorem dX7_factor_30 : decode cX7_factor 30 = .ok (.ireturn, 1) := by decide +kernel
set_option maxRecDepth 20000 in
theorem ggX7_middle_X7_arePair : GoodIn wsX7_middle wsX7_arePair := goodIn_r _ [7, 8, 9, 10, 6, 11, 2, 74, 75, 76, 77, 78, 79, 80, 81, 85, 86, 87, 88, 89] (by decide +kernel) (by decide +kernel)
