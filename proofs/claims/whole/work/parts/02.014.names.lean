theorem dX8_days_30 : decode cX8_days 30 = .ok (.iload_n 2, 1) := by decide +kernel
theorem dX8_days_31 : decode cX8_days 31 = .ok (.aload_n 0, 1) := by decide +kernel
theorem dX8_days_32 : decode cX8_days 32 = .ok (.getfield 31, 3) := by decide +kernel
theorem dX8_days_35 : decode cX8_days 35 = .ok (.iload_n 1, 1) := by decide +kernel
theorem dX8_days_36 : decode cX8_days 36 = .ok (.iload_n 3, 1) := by decide +kernel
theorem dX8_days_37 : decode cX8_days 37 = .ok (.invokestatic 103, 3) := by decide +kernel
theorem dX8_days_40 : decode cX8_days 40 = .ok (.iaload, 1) := by decide +kernel
theorem dX8_days_41 : decode cX8_days 41 = .ok (.iconst (-1), 1) := by decide +kernel
theorem dX8_days_42 : decode cX8_days 42 = .ok (.if_icmp .ne 7, 3) := by decide +kernel
theorem dX8_days_45 : decode cX8_days 45 = .ok (.iconst 0, 1) := by decide +kernel
theorem dX8_days_46 : decode cX8_days 46 = .ok (.goto 4, 3) := by decide +kernel
theorem dX8_days_49 : decode cX8_days 49 = .ok (.iconst 1, 1) := by decide +kernel
theorem dX8_days_50 : decode cX8_days 50 = .ok (.iadd, 1) := by decide +kernel
theorem dX8_days_51 : decode cX8_days 51 = .ok (.istore_n 2, 1) := by decide +kernel
theorem dX8_days_52 : decode cX8_days 52 = .ok (.iinc 3 1, 3) := by decide +kernel
theorem dX8_days_55 : decode cX8_days 55 = .ok (.goto (-32), 3) := by decide +kernel
theorem dX8_days_58 : decode cX8_days 58 = .ok (.iload_n 2, 1) := by decide +kernel
theorem dX8_days_59 : decode cX8_days 59 = .ok (.ireturn, 1) := by decide +kernel
set_option maxRecDepth 20000 in
theorem ggX8_rules_X8_is : GoodIn wsX8_rules wsX8_is := goodIn_r _ [7, 8, 9, 10, 11, 12, 13, 14, 15, 16, 17, 18, 19, 20, 21, 22, 23, 24, 25, 26, 27, 28, 29, 30, 31] (by decide +kernel) (by decide +kernel)
set_option maxRecDepth 20000 in
theorem gX8_rules_X8_is : GoodIn wsX8_rules (wsV RX8 83 RX8 yX8_is wsX8_is) := goodIn_app (goodIn_of _ (by decide +kernel)) ggX8_rules_X8_is
theorem dX8_rules_0 : decode cX8_rules 0 = .ok (.iload_n 1, 1) := by decide +kernel
theorem dX8_rules_1 : decode cX8_rules 1 = .ok (.iconst 1, 1) := by decide +kernel
theorem dX8_rules_2 : decode cX8_rules 2 = .ok (.if_icmp .lt 20, 3) := by decide +kernel
theorem dX8_rules_5 : decode cX8_rules 5 = .ok (.iload_n 1, 1) := by decide +kernel
theorem dX8_rules_6 : decode cX8_rules 6 = .ok (.bipush 100, 2) := by decide +kernel
theorem dX8_rules_8 : decode cX8_rules 8 = .ok (.if_icmp .gt 14, 3) := by decide +kernel
theorem dX8_rules_11 : decode cX8_rules 11 = .ok (.iload_n 2, 1) := by decide +kernel
theorem dX8_rules_12 : decode cX8_rules 12 = .ok (.iconst 1, 1) := by decide +kernel
theorem dX8_rules_13 : decode cX8_rules 13 = .ok (.if_icmp .lt 9, 3) := by decide +kernel
theorem dX8_rules_16 : decode cX8_rules 16 = .ok (.iload_n 2, 1) := by decide +kernel
theorem dX8_rules_17 : decode cX8_rules 17 = .ok (.bipush 10, 2) := by decide +kernel
theorem dX8_rules_19 : decode cX8_rules 19 = .ok (.if_icmp .le 9, 3) := by decide +kernel
theorem dX8_rules_22 : decode cX8_rules 22 = .ok (.aload_n 0, 1) := by decide +kernel
theorem dX8_rules_23 : decode cX8_rules 23 = .ok (.iconst 1, 1) := by decide +kernel
theorem dX8_rules_24 : decode cX8_rules 24 = .ok (.invokevirtual 83, 3) := by decide +kernel
theorem dX8_rules_27 : decode cX8_rules 27 = .ok (.ireturn, 1) := by decide +kernel
theorem dX8_rules_28 : decode cX8_rules 28 = .ok (.aload_n 0, 1) := by decide +kernel
theorem dX8_rules_29 : decode cX8_rules 29 = .ok (.iload_n 1, 1) := by decide +kernel
theorem dX8_rules_30 : decode cX8_rules 30 = .ok (.putfield 24, 3) := by decide +kernel
theorem dX8_rules_33 : decode cX8_rules 33 = .ok (.aload_n 0, 1) := by decide +kernel
theorem dX8_rules_34 : decode cX8_rules 34 = .ok (.iload_n 2, 1) := by decide +kernel
theorem dX8_rules_35 : decode cX8_rules 35 = .ok (.putfield 28, 3) := by decide +kernel
theorem dX8_rules_38 : decode cX8_rules 38 = .ok (.aload_n 0, 1) := by decide +kernel
theorem dX8_rules_39 : decode cX8_rules 39 = .ok (.iconst 0, 1) := by decide +kernel
theorem dX8_rules_40 : decode cX8_rules 40 = .ok (.invokevirtual 83, 3) := by decide +kernel
theorem dX8_rules_43 : decode cX8_rules 43 = .ok (.ireturn, 1) := by decide +kernel
set_option maxRecDepth 20000 in
theorem ggX8_tells_X8_at : GoodIn wsX8_tells wsX8_at := goodIn_r _ [6] (by decide +kernel) (by decide +kernel)
set_option maxRecDepth 20000 in
theorem gX8_tells_X8_at : GoodIn wsX8_tells (va_wsS RX8 103 yX8_at wsX8_at) := goodIn_app (goodIn_of _ (by decide +kernel)) ggX8_tells_X8_at
theorem dX8_tells_0 : decode cX8_tells 0 = .ok (.iload_n 1, 1) := by decide +kernel
theorem dX8_tells_1 : decode cX8_tells 1 = .ok (.aload_n 0, 1) := by decide +kernel
theorem dX8_tells_2 : decode cX8_tells 2 = .ok (.getfield 37, 3) := by decide +kernel
theorem dX8_tells_5 : decode cX8_tells 5 = .ok (.if_icmp .eq 21, 3) := by decide +kernel
theorem dX8_tells_8 : decode cX8_tells 8 = .ok (.aload_n 0, 1) := by decide +kernel
theorem dX8_tells_9 : decode cX8_tells 9 = .ok (.getfield 31, 3) := by decide +kernel
theorem dX8_tells_12 : decode cX8_tells 12 = .ok (.iload_n 1, 1) := by decide +kernel
theorem dX8_tells_13 : decode cX8_tells 13 = .ok (.iload_n 2, 1) := by decide +kernel
theorem dX8_tells_14 : decode cX8_tells 14 = .ok (.invokestatic 103, 3) := by decide +kernel
theorem dX8_tells_17 : decode cX8_tells 17 = .ok (.iaload, 1) := by decide +kernel
theorem dX8_tells_18 : decode cX8_tells 18 = .ok (.iconst (-1), 1) := by decide +kernel
theorem dX8_tells_19 : decode cX8_tells 19 = .ok (.if_icmp .eq 7, 3) := by decide +kernel
theorem dX8_tells_22 : decode cX8_tells 22 = .ok (.iconst 1, 1) := by decide +kernel
theorem dX8_tells_23 : decode cX8_tells 23 = .ok (.goto 4, 3) := by decide +kernel
theorem dX8_tells_26 : decode cX8_tells 26 = .ok (.iconst 0, 1) := by decide +kernel
theorem dX8_tells_27 : decode cX8_tells 27 = .ok (.ireturn, 1) := by decide +kernel
set_option maxRecDepth 20000 in
theorem ggX8_areBoth_X8_tells : GoodIn wsX8_areBoth wsX8_tells := goodIn_r _ [5, 6, 7, 8, 9, 4, 10, 11, 12, 13, 14, 15, 16, 17, 18, 19, 20, 21, 22, 23, 24, 25, 26, 27, 28, 29, 30, 31, 32, 33] (by decide +kernel) (by decide +kernel)
set_option maxRecDepth 20000 in
theorem gX8_areBoth_X8_tells : GoodIn wsX8_areBoth (wsV RX8 125 RX8 yX8_tells wsX8_tells) := goodIn_app (goodIn_of _ (by decide +kernel)) ggX8_areBoth_X8_tells
theorem dX8_areBoth_0 : decode cX8_areBoth 0 = .ok (.aload_n 0, 1) := by decide +kernel
theorem dX8_areBoth_1 : decode cX8_areBoth 1 = .ok (.iload_n 1, 1) := by decide +kernel
theorem dX8_areBoth_2 : decode cX8_areBoth 2 = .ok (.iload_n 3, 1) := by decide +kernel
theorem dX8_areBoth_3 : decode cX8_areBoth 3 = .ok (.invokevirtual 125, 3) := by decide +kernel
theorem dX8_areBoth_6 : decode cX8_areBoth 6 = .ok (.ifCond .eq 16, 3) := by decide +kernel
theorem dX8_areBoth_9 : decode cX8_areBoth 9 = .ok (.aload_n 0, 1) := by decide +kernel
theorem dX8_areBoth_10 : decode cX8_areBoth 10 = .ok (.iload_n 2, 1) := by decide +kernel
theorem dX8_areBoth_11 : decode cX8_areBoth 11 = .ok (.iload_n 3, 1) := by decide +kernel
theorem dX8_areBoth_12 : decode cX8_areBoth 12 = .ok (.invokevirtual 125, 3) := by decide +kernel
theorem dX8_areBoth_15 : decode cX8_areBoth 15 = .ok (.ifCond .eq 7, 3) := by decide +kernel
theorem dX8_areBoth_18 : decode cX8_areBoth 18 = .ok (.iconst 1, 1) := by decide +kernel
theorem dX8_areBoth_19 : decode cX8_areBoth 19 = .ok (.goto 4, 3) := by decide +kernel
theorem dX8_areBoth_22 : decode cX8_areBoth 22 = .ok (.iconst 0, 1) := by decide +kernel
theorem dX8_areBoth_23 : decode cX8_areBoth 23 = .ok (.ireturn, 1) := by decide +kernel
set_option maxRecDepth 20000 in
theorem ggX8_bothOf_X8_areBoth : GoodIn wsX8_bothOf wsX8_areBoth := goodIn_r _ [5, 6, 7, 8, 4, 9, 10, 11, 12, 13, 14, 15, 16, 17, 18, 19, 20, 21, 22, 23, 24, 25, 26, 27, 28, 29, 30, 31, 32, 33, 34, 35, 36, 37] (by decide +kernel) (by decide +kernel)
set_option maxRecDepth 20000 in
theorem gX8_bothOf_X8_areBoth : GoodIn wsX8_bothOf (wsV RX8 129 RX8 yX8_areBoth wsX8_areBoth) := goodIn_app (goodIn_of _ (by decide +kernel)) ggX8_bothOf_X8_areBoth
theorem dX8_bothOf_0 : decode cX8_bothOf 0 = .ok (.iconst 0, 1) := by decide +kernel
theorem dX8_bothOf_1 : decode cX8_bothOf 1 = .ok (.istore_n 3, 1) := by decide +kernel
theorem dX8_bothOf_2 : decode cX8_bothOf 2 = .ok (.iconst 0, 1) := by decide +kernel
theorem dX8_bothOf_3 : decode cX8_bothOf 3 = .ok (.istore 4, 2) := by decide +kernel
theorem dX8_bothOf_5 : decode cX8_bothOf 5 = .ok (.iload 4, 2) := by decide +kernel
theorem dX8_bothOf_7 : decode cX8_bothOf 7 = .ok (.sipush 240, 3) := by decide +kernel
theorem dX8_bothOf_10 : decode cX8_bothOf 10 = .ok (.if_icmp .ge 28, 3) := by decide +kernel
theorem dX8_bothOf_13 : decode cX8_bothOf 13 = .ok (.iload_n 3, 1) := by decide +kernel
theorem dX8_bothOf_14 : decode cX8_bothOf 14 = .ok (.aload_n 0, 1) := by decide +kernel
theorem dX8_bothOf_15 : decode cX8_bothOf 15 = .ok (.iload_n 1, 1) := by decide +kernel
theorem dX8_bothOf_16 : decode cX8_bothOf 16 = .ok (.iload_n 2, 1) := by decide +kernel
theorem dX8_bothOf_17 : decode cX8_bothOf 17 = .ok (.iload 4, 2) := by decide +kernel
theorem dX8_bothOf_19 : decode cX8_bothOf 19 = .ok (.invokevirtual 129, 3) := by decide +kernel
theorem dX8_bothOf_22 : decode cX8_bothOf 22 = .ok (.ifCond .eq 7, 3) := by decide +kernel
theorem dX8_bothOf_25 : decode cX8_bothOf 25 = .ok (.iconst 1, 1) := by decide +kernel
theorem dX8_bothOf_26 : decode cX8_bothOf 26 = .ok (.goto 4, 3) := by decide +kernel
theorem dX8_bothOf_29 : decode cX8_bothOf 29 = .ok (.iconst 0, 1) := by decide +kernel
theorem dX8_bothOf_30 : decode cX8_bothOf 30 = .ok (.iadd, 1) := by decide +kernel
theorem dX8_bothOf_31 : decode cX8_bothOf 31 = .ok (.istore_n 3, 1) := by decide +kernel
theorem dX8_bothOf_32 : decode cX8_bothOf 32 = .ok (.iinc 4 1, 3) := by decide +kernel
theorem dX8_bothOf_35 : decode cX8_bothOf 35 = .ok (.goto (-30), 3) := by decide +kernel
theorem dX8_bothOf_38 : decode cX8_bothOf 38 = .ok (.iload_n 3, 1) := by decide +kernel
theorem dX8_bothOf_39 : decode cX8_bothOf 39 = .ok (.ireturn, 1) := by decide +kernel
set_option maxRecDepth 20000 in
theorem ggX8_areTwo_X8_isEye : GoodIn wsX8_areTwo wsX8_isEye := goodIn_r _ [5, 6, 7, 8, 9, 10, 11, 12, 13, 14, 15, 16, 17, 18, 19, 20, 21, 22, 23, 24, 25, 26, 27, 28, 29] (by decide +kernel) (by decide +kernel)
set_option maxRecDepth 20000 in
theorem gX8_areTwo_X8_isEye : GoodIn wsX8_areTwo (wsV RX8 110 RX8 yX8_isEye wsX8_isEye) := goodIn_app (goodIn_of _ (by decide +kernel)) ggX8_areTwo_X8_isEye
theorem dX8_areTwo_0 : decode cX8_areTwo 0 = .ok (.aload_n 0, 1) := by decide +kernel
theorem dX8_areTwo_1 : decode cX8_areTwo 1 = .ok (.iload_n 1, 1) := by decide +kernel
theorem dX8_areTwo_2 : decode cX8_areTwo 2 = .ok (.invokevirtual 110, 3) := by decide +kernel
theorem dX8_areTwo_5 : decode cX8_areTwo 5 = .ok (.ifCond .eq 20, 3) := by decide +kernel
theorem dX8_areTwo_8 : decode cX8_areTwo 8 = .ok (.aload_n 0, 1) := by decide +kernel
theorem dX8_areTwo_9 : decode cX8_areTwo 9 = .ok (.iload_n 2, 1) := by decide +kernel
theorem dX8_areTwo_10 : decode cX8_areTwo 10 = .ok (.invokevirtual 110, 3) := by decide +kernel
theorem dX8_areTwo_13 : decode cX8_areTwo 13 = .ok (.ifCond .eq 12, 3) := by decide +kernel
theorem dX8_areTwo_16 : decode cX8_areTwo 16 = .ok (.iload_n 1, 1) := by decide +kernel
theorem dX8_areTwo_17 : decode cX8_areTwo 17 = .ok (.iload_n 2, 1) := by decide +kernel
theorem dX8_areTwo_18 : decode cX8_areTwo 18 = .ok (.if_icmp .eq 7, 3) := by decide +kernel
theorem dX8_areTwo_21 : decode cX8_areTwo 21 = .ok (.iconst 1, 1) := by decide +kernel
theorem dX8_areTwo_22 : decode cX8_areTwo 22 = .ok (.goto 4, 3) := by decide +kernel
theorem dX8_areTwo_25 : decode cX8_areTwo 25 = .ok (.iconst 0, 1) := by decide +kernel
theorem dX8_areTwo_26 : decode cX8_areTwo 26 = .ok (.ireturn, 1) := by decide +kernel
set_option maxRecDepth 20000 in
theorem ggX8_both_X8_areTwo : GoodIn wsX8_both wsX8_areTwo := goodIn_r _ [6, 7, 8, 9, 5, 10, 11, 33, 34, 35, 36, 37, 38, 39, 40, 41, 42, 43, 44, 45, 46, 47, 48, 49, 50, 51, 52, 53, 54, 55] (by decide +kernel) (by decide +kernel)
set_option maxRecDepth 20000 in
theorem gX8_both_X8_areTwo : GoodIn wsX8_both (wsV RX8 133 RX8 yX8_areTwo wsX8_areTwo) := goodIn_app (goodIn_of _ (by decide +kernel)) ggX8_both_X8_areTwo
set_option maxRecDepth 20000 in
theorem ggX8_both_X8_refuse : GoodIn wsX8_both wsX8_refuse := goodIn_r _ [15, 1, 33, 34, 35, 36, 37, 38, 39, 40, 41, 42, 43, 44, 45, 46, 47, 48, 49, 50, 51, 52, 53, 54, 55] (by decide +kernel) (by decide +kernel)
set_option maxRecDepth 20000 in
theorem gX8_both_X8_refuse : GoodIn wsX8_both (wsV RX8 99 RX8 yX8_refuse wsX8_refuse) := goodIn_app (goodIn_of _ (by decide +kernel)) ggX8_both_X8_refuse
set_option maxRecDepth 20000 in
theorem ggX8_both_X8_bothOf : GoodIn wsX8_both wsX8_bothOf := goodIn_r _ [19, 20, 21, 22, 5, 23, 24, 25, 26, 27, 28, 29, 30, 31, 32, 33, 34, 35, 36, 37, 38, 39, 40, 41, 42, 43, 44, 45, 46, 47, 48, 49, 50, 51, 52, 53, 54, 55] (by decide +kernel) (by decide +kernel)
set_option maxRecDepth 20000 in
theorem gX8_both_X8_bothOf : GoodIn wsX8_both (wsV RX8 136 RX8 yX8_bothOf wsX8_bothOf) := goodIn_app (goodIn_of _ (by decide +kernel)) ggX8_both_X8_bothOf
theorem dX8_both_0 : decode cX8_both 0 = .ok (.aload_n 0, 1) := by decide +kernel
theorem dX8_both_1 : decode cX8_both 1 = .ok (.iload_n 1, 1) := by decide +kernel
theorem dX8_both_2 : decode cX8_both 2 = .ok (.iload_n 2, 1) := by decide +kernel
theorem dX8_both_3 : decode cX8_both 3 = .ok (.invokevirtual 133, 3) := by decide +kernel
theorem dX8_both_6 : decode cX8_both 6 = .ok (.ifCond .ne 9, 3) := by decide +kernel
theorem dX8_both_9 : decode cX8_both 9 = .ok (.aload_n 0, 1) := by decide +kernel
theorem dX8_both_10 : decode cX8_both 10 = .ok (.iconst 1, 1) := by decide +kernel
theorem dX8_both_11 : decode cX8_both 11 = .ok (.invokevirtual 99, 3) := by decide +kernel
theorem dX8_both_14 : decode cX8_both 14 = .ok (.ireturn, 1) := by decide +kernel
theorem dX8_both_15 : decode cX8_both 15 = .ok (.aload_n 0, 1) := by decide +kernel
theorem dX8_both_16 : decode cX8_both 16 = .ok (.iconst 0, 1) := by decide +kernel
theorem dX8_both_17 : decode cX8_both 17 = .ok (.putfield 73, 3) := by decide +kernel
theorem dX8_both_20 : decode cX8_both 20 = .ok (.aload_n 0, 1) := by decide +kernel
theorem dX8_both_21 : decode cX8_both 21 = .ok (.iload_n 1, 1) := by decide +kernel
theorem dX8_both_22 : decode cX8_both 22 = .ok (.iload_n 2, 1) := by decide +kernel
theorem dX8_both_23 : decode cX8_both 23 = .ok (.invokevirtual 136, 3) := by decide +kernel
theorem dX8_both_26 : decode cX8_both 26 = .ok (.ireturn, 1) := by decide +kernel
set_option maxRecDepth 20000 in
theorem ggX8_factorOf_X8_areBoth : GoodIn wsX8_factorOf wsX8_areBoth := goodIn_r _ [9, 10, 11, 12, 8, 13, 14, 15, 16, 17, 18, 24, 25, 26, 27, 28, 29, 30, 31, 32, 33, 34, 35, 36, 37, 38, 39, 40, 41, 42, 43, 44, 45, 46] (by decide +kernel) (by decide +kernel)
set_option maxRecDepth 20000 in
theorem gX8_factorOf_X8_areBoth : GoodIn wsX8_factorOf (wsV RX8 129 RX8 yX8_areBoth wsX8_areBoth) := goodIn_app (goodIn_of _ (by decide +kernel)) ggX8_factorOf_X8_areBoth
set_option maxRecDepth 20000 in
theorem ggX8_factorOf_X8_number : GoodIn wsX8_factorOf wsX8_number := goodIn_r _ [22, 15, 23, 16, 17, 8, 18, 24, 25, 26, 27, 28, 29, 30, 31, 32, 33, 34, 35, 36, 37, 38, 39, 40, 41, 42, 43, 44, 45, 46] (by decide +kernel) (by decide +kernel)
set_option maxRecDepth 20000 in
theorem gX8_factorOf_X8_number : GoodIn wsX8_factorOf (wsV RX8 122 RX8 yX8_number wsX8_number) := goodIn_app (goodIn_of _ (by decide +kernel)) ggX8_factorOf_X8_number
theorem dX8_factorOf_0 : decode cX8_factorOf 0 = .ok (.lconst 0, 1) := by decide +kernel
theorem dX8_factorOf_1 : decode cX8_factorOf 1 = .ok (.lstore_n 3, 1) := by decide +kernel
theorem dX8_factorOf_2 : decode cX8_factorOf 2 = .ok (.lconst 0, 1) := by decide +kernel
theorem dX8_factorOf_3 : decode cX8_factorOf 3 = .ok (.lstore 5, 2) := by decide +kernel
theorem dX8_factorOf_5 : decode cX8_factorOf 5 = .ok (.iconst 0, 1) := by decide +kernel
theorem dX8_factorOf_6 : decode cX8_factorOf 6 = .ok (.istore 7, 2) := by decide +kernel
theorem dX8_factorOf_8 : decode cX8_factorOf 8 = .ok (.iconst 0, 1) := by decide +kernel
theorem dX8_factorOf_9 : decode cX8_factorOf 9 = .ok (.istore 8, 2) := by decide +kernel
theorem dX8_factorOf_11 : decode cX8_factorOf 11 = .ok (.iload 8, 2) := by decide +kernel
theorem dX8_factorOf_13 : decode cX8_factorOf 13 = .ok (.sipush 240, 3) := by decide +kernel
theorem dX8_factorOf_16 : decode cX8_factorOf 16 = .ok (.if_icmp .ge 50, 3) := by decide +kernel
theorem dX8_factorOf_19 : decode cX8_factorOf 19 = .ok (.aload_n 0, 1) := by decide +kernel
theorem dX8_factorOf_20 : decode cX8_factorOf 20 = .ok (.iload_n 1, 1) := by decide +kernel
theorem dX8_factorOf_21 : decode cX8_factorOf 21 = .ok (.iload_n 2, 1) := by decide +kernel
theorem dX8_factorOf_22 : decode cX8_factorOf 22 = .ok (.iload 8, 2) := by decide +kernel
theorem dX8_factorOf_24 : decode cX8_factorOf 24 = .ok (.invokevirtual 129, 3) := by decide +kernel
theorem dX8_factorOf_27 : decode cX8_factorOf 27 = .ok (.ifCond .ne 6, 3) := by decide +kernel
theorem dX8_factorOf_30 : decode cX8_factorOf 30 = .ok (.goto 30, 3) := by decide +kernel
theorem dX8_factorOf_33 : decode cX8_factorOf 33 = .ok (.lload_n 3, 1) := by decide +kernel
theorem dX8_factorOf_34 : decode cX8_factorOf 34 = .ok (.aload_n 0, 1) := by decide +kernel
theorem dX8_factorOf_35 : decode cX8_factorOf 35 = .ok (.iload_n 1, 1) := by decide +kernel
theorem dX8_factorOf_36 : decode cX8_factorOf 36 = .ok (.iload 8, 2) := by decide +kernel
theorem dX8_factorOf_38 : decode cX8_factorOf 38 = .ok (.invokevirtual 122, 3) := by decide +kernel
theorem dX8_factorOf_41 : decode cX8_factorOf 41 = .ok (.i2l, 1) := by decide +kernel
theorem dX8_factorOf_42 : decode cX8_factorOf 42 = .ok (.ladd, 1) := by decide +kernel
theorem dX8_factorOf_43 : decode cX8_factorOf 43 = .ok (.lstore_n 3, 1) := by decide +kernel
theorem dX8_factorOf_44 : decode cX8_factorOf 44 = .ok (.lload 5, 2) := by decide +kernel
theorem dX8_factorOf_46 : decode cX8_factorOf 46 = .ok (.aload_n 0, 1) := by decide +kernel
theorem dX8_factorOf_47 : decode cX8_factorOf 47 = .ok (.iload_n 2, 1) := by decide +kernel
theorem dX8_factorOf_48 : decode cX8_factorOf 48 = .ok (.iload 8, 2) := by decide +kernel
theorem dX8_factorOf_50 : decode cX8_factorOf 50 = .ok (.invokevirtual 122, 3) := by decide +kernel
theorem dX8_factorOf_53 : decode cX8_factorOf 53 = .ok (.i2l, 1) := by decide +kernel
theorem dX8_factorOf_54 : decode cX8_factorOf 54 = .ok (.ladd, 1) := by decide +kernel
theorem dX8_factorOf_55 : decode cX8_factorOf 55 = .ok (.lstore 5, 2) := by decide +kernel
theorem dX8_factorOf_57 : decode cX8_factorOf 57 = .ok (.iinc 7 1, 3) := by decide +kernel
theorem dX8_factorOf_60 : decode cX8_factorOf 60 = .ok (.iinc 8 1, 3) := by decide +kernel
theorem dX8_factorOf_63 : decode cX8_factorOf 63 = .ok (.goto (-52), 3) := by decide +kernel
theorem dX8_factorOf_66 : decode cX8_factorOf 66 = .ok (.iload 7, 2) := by decide +kernel
theorem dX8_factorOf_68 : decode cX8_factorOf 68 = .ok (.aload_n 0, 1) := by decide +kernel
theorem dX8_factorOf_69 : decode cX8_factorOf 69 = .ok (.getfield 24, 3) := by decide +kernel
theorem dX8_factorOf_72 : decode cX8_factorOf 72 = .ok (.if_icmp .lt 16, 3) := by decide +kernel
theorem dX8_factorOf_75 : decode cX8_factorOf 75 = .ok (.lload_n 3, 1) := by decide +kernel
theorem dX8_factorOf_76 : decode cX8_factorOf 76 = .ok (.lconst 0, 1) := by decide +kernel
theorem dX8_factorOf_77 : decode cX8_factorOf 77 = .ok (.lcmp, 1) := by decide +kernel
theorem dX8_factorOf_78 : decode cX8_factorOf 78 = .ok (.ifCond .eq 10, 3) := by decide +kernel
theorem dX8_factorOf_81 : decode cX8_factorOf 81 = .ok (.lload 5, 2) := by decide +kernel
theorem dX8_factorOf_83 : decode cX8_factorOf 83 = .ok (.lconst 0, 1) := by decide +kernel
theorem dX8_factorOf_84 : decode cX8_factorOf 84 = .ok (.lcmp, 1) := by decide +kernel
theorem dX8_factorOf_85 : decode cX8_factorOf 85 = .ok (.ifCond .ne 5, 3) := by decide +kernel
theorem dX8_factorOf_88 : decode cX8_factorOf 88 = .ok (.iconst (-1), 1) := by decide +kernel
theorem dX8_factorOf_89 : decode cX8_factorOf 89 = .ok (.ireturn, 1) := by decide +kernel
theorem dX8_factorOf_90 : decode cX8_factorOf 90 = .ok (.lload 5, 2) := by decide +kernel
theorem dX8_factorOf_92 : decode cX8_factorOf 92 = .ok (.ldc2_w 120, 3) := by decide +kernel
theorem dX8_factorOf_95 : decode cX8_factorOf 95 = .ok (.lmul, 1) := by decide +kernel
theorem dX8_factorOf_96 : decode cX8_factorOf 96 = .ok (.lload_n 3, 1) := by decide +kernel
theorem dX8_factorOf_97 : decode cX8_factorOf 97 = .ok (.ldiv, 1) := by decide +kernel
theorem dX8_factorOf_98 : decode cX8_factorOf 98 = .ok (.lstore 8, 2) := by decide +kernel
theorem dX8_factorOf_100 : decode cX8_factorOf 100 = .ok (.lload 8, 2) := by decide +kernel
theorem dX8_factorOf_102 : decode cX8_factorOf 102 = .ok (.ldc2_w 139, 3) := by decide +kernel
theorem dX8_factorOf_105 : decode cX8_factorOf 105 = .ok (.lcmp, 1) := by decide +kernel
theorem dX8_factorOf_106 : decode cX8_factorOf 106 = .ok (.ifCond .lt 12, 3) := by decide +kernel
theorem dX8_factorOf_109 : decode cX8_factorOf 109 = .ok (.lload 8, 2) := by decide +kernel
theorem dX8_factorOf_111 : decode cX8_factorOf 111 = .ok (.ldc2_w 141, 3) := by decide +kernel
theorem dX8_factorOf_114 : decode cX8_factorOf 114 = .ok (.lcmp, 1) := by decide +kernel
theorem dX8_factorOf_115 : decode cX8_factorOf 115 = .ok (.ifCond .le 7, 3) := by decide +kernel
theorem dX8_factorOf_118 : decode cX8_factorOf 118 = .ok (.iconst (-1), 1) := by decide +kernel
theorem dX8_factorOf_119 : decode cX8_factorOf 119 = .ok (.goto 6, 3) := by decide +kernel
theorem dX8_factorOf_122 : decode cX8_factorOf 122 = .ok (.lload 8, 2) := by decide +kernel
theorem dX8_factorOf_124 : decode cX8_factorOf 124 = .ok (.l2i, 1) := by decide +kernel
theorem dX8_factorOf_125 : decode cX8_factorOf 125 = .ok (.ireturn, 1) := by decide +kernel
set_option maxRecDepth 20000 in
theorem ggX8_factor_X8_areTwo : GoodIn wsX8_factor wsX8_areTwo := goodIn_r _ [6, 7, 8, 9, 5, 10, 11, 42, 43, 44, 45, 46, 47, 48, 49, 50, 51, 52, 53, 54, 55, 56, 57, 58, 59, 60, 61, 62, 63, 64] (by decide +kernel) (by decide +kernel)
set_option maxRecDepth 20000 in
theorem gX8_factor_X8_areTwo : GoodIn wsX8_factor (wsV RX8 133 RX8 yX8_areTwo wsX8_areTwo) := goodIn_app (goodIn_of _ (by decide +kernel)) ggX8_factor_X8_areTwo
set_option maxRecDepth 20000 in
theorem ggX8_factor_X8_refuse : GoodIn wsX8_factor wsX8_refuse := goodIn_r _ [15, 1, 42, 43, 44, 45, 46, 47, 48, 49, 50, 51, 52, 53, 54, 55, 56, 57, 58, 59, 60, 61, 62, 63, 64] (by decide +kernel) (by decide +kernel)
set_option maxRecDepth 20000 in
theorem gX8_factor_X8_refuse : GoodIn wsX8_factor (wsV RX8 99 RX8 yX8_refuse wsX8_refuse) := goodIn_app (goodIn_of _ (by decide +kernel)) ggX8_factor_X8_refuse
set_option maxRecDepth 20000 in
theorem ggX8_factor_X8_factorOf : GoodIn wsX8_factor wsX8_factorOf := goodIn_r _ [19, 20, 21, 22, 23, 24, 25, 26, 5, 27, 28, 29, 30, 31, 32, 33, 34, 35, 36, 37, 38, 39, 40, 41, 42, 43, 44, 45, 46, 47, 48, 49, 50, 51, 52, 53, 54, 55, 56, 57, 58, 59, 60, 61, 62, 63, 64] (by decide +kernel) (by decide +kernel)
set_option maxRecDepth 20000 in
theorem gX8_factor_X8_factorOf : GoodIn wsX8_factor (wsV RX8 143 RX8 yX8_factorOf wsX8_factorOf) := goodIn_app (goodIn_of _ (by decide +kernel)) ggX8_factor_X8_factorOf
theorem dX8_factor_0 : decode cX8_factor 0 = .ok (.aload_n 0, 1) := by decide +kernel
theorem dX8_factor_1 : decode cX8_factor 1 = .ok (.iload_n 1, 1) := by decide +kernel
theorem dX8_factor_2 : decode cX8_factor 2 = .ok (.iload_n 2, 1) := by decide +kernel
theorem dX8_factor_3 : decode cX8_factor 3 = .ok (.invokevirtual 133, 3) := by decide +kernel
theorem dX8_factor_6 : decode cX8_factor 6 = .ok (.ifCond .ne 9, 3) := by decide +kernel
theorem dX8_factor_9 : decode cX8_factor 9 = .ok (.aload_n 0, 1) := by decide +kernel
theorem dX8_factor_10 : decode cX8_factor 10 = .ok (.iconst 1, 1) := by decide +kernel
theorem dX8_factor_11 : decode cX8_factor 11 = .ok (.invokevirtual 99, 3) := by decide +kernel
theorem dX8_factor_14 : decode cX8_factor 14 = .ok (.ireturn, 1) := by decide +kernel
theorem dX8_factor_15 : decode cX8_factor 15 = .ok (.aload_n 0, 1) := by decide +kernel
theorem dX8_factor_16 : decode cX8_factor 16 = .ok (.iload_n 1, 1) := by decide +kernel
theorem dX8_factor_17 : decode cX8_factor 17 = .ok (.iload_n 2, 1) := by decide +kernel
theorem dX8_factor_18 : decode cX8_factor 18 = .ok (.invokevirtual 143, 3) := by decide +kernel
theorem dX8_factor_21 : decode cX8_factor 21 = .ok (.istore_n 3, 1) := by decide +kernel
theorem dX8_factor_22 : decode cX8_factor 22 = .ok (.iload_n 3, 1) := by decide +kernel
theorem dX8_factor_23 : decode cX8_factor 23 = .ok (.iconst (-1), 1) := by decide +kernel
theorem dX8_factor_24 : decode cX8_factor 24 = .ok (.if_icmp .ne 10, 3) := by decide +kernel
theorem dX8_factor_27 : decode cX8_factor 27 = .ok (.aload_n 0, 1) := by decide +kernel
theorem dX8_factor_28 : decode cX8_factor 28 = .ok (.bipush 6, 2) := by decide +kernel
theorem dX8_factor_30 : decode cX8_factor 30 = .ok (.invokevirtual 99, 3) := by decide +kernel
theorem dX8_factor_33 : decode cX8_factor 33 = .ok (.ireturn, 1) := by decide +kernel
theorem dX8_factor_34 : decode cX8_factor 34 = .ok (.aload_n 0, 1) := by decide +kernel
theorem dX8_factor_35 : decode cX8_factor 35 = .ok (.iconst 0, 1) := by decide +kernel
theorem dX8_factor_36 : decode cX8_factor 36 = .ok (.putfield 73, 3) := by decide +kernel
theorem dX8_factor_39 : decode cX8_factor 39 = .ok (.iload_n 3, 1) := by decide +kernel
theorem dX8_factor_40 : decode cX8_factor 40 = .ok (.ireturn, 1) := by decide +kernel
theorem dX8_fraction_0 : decode cX8_fraction 0 = .ok (.lload_n 1, 1) := by decide +kernel
theorem dX8_fraction_1 : decode cX8_fraction 1 = .ok (.lstore 5, 2) := by decide +kernel
theorem dX8_fraction_3 : decode cX8_fraction 3 = .ok (.lload_n 3, 1) := by decide +kernel
theorem dX8_fraction_4 : decode cX8_fraction 4 = .ok (.lstore 7, 2) := by decide +kernel
theorem dX8_fraction_6 : decode cX8_fraction 6 = .ok (.lload 7, 2) := by decide +kernel
theorem dX8_fraction_8 : decode cX8_fraction 8 = .ok (.lconst 0, 1) := by decide +kernel
theorem dX8_fraction_9 : decode cX8_fraction 9 = .ok (.lcmp, 1) := by decide +kernel
theorem dX8_fraction_10 : decode cX8_fraction 10 = .ok (.ifCond .eq 21, 3) := by decide +kernel
theorem dX8_fraction_13 : decode cX8_fraction 13 = .ok (.lload 5, 2) := by decide +kernel
theorem dX8_fraction_15 : decode cX8_fraction 15 = .ok (.lload 7, 2) := by decide +kernel
theorem dX8_fraction_17 : decode cX8_fraction 17 = .ok (.lrem, 1) := by decide +kernel
theorem dX8_fraction_18 : decode cX8_fraction 18 = .ok (.lstore 9, 2) := by decide +kernel
theorem dX8_fraction_20 : decode cX8_fraction 20 = .ok (.lload 7, 2) := by decide +kernel
theorem dX8_fraction_22 : decode cX8_fraction 22 = .ok (.lstore 5, 2) := by decide +kernel
theorem dX8_fraction_24 : decode cX8_fraction 24 = .ok (.lload 9, 2) := by decide +kernel
theorem dX8_fraction_26 : decode cX8_fraction 26 = .ok (.lstore 7, 2) := by decide +kernel
theorem dX8_fraction_28 : decode cX8_fraction 28 = .ok (.goto (-22), 3) := by decide +kernel
theorem dX8_fraction_31 : decode cX8_fraction 31 = .ok (.aload_n 0, 1) := by decide +kernel
theorem dX8_fraction_32 : decode cX8_fraction 32 = .ok (.lload_n 1, 1) := by decide +kernel
theorem dX8_fraction_33 : decode cX8_fraction 33 = .ok (.lload 5, 2) := by decide +kernel
theorem dX8_fraction_35 : decode cX8_fraction 35 = .ok (.ldiv, 1) := by decide +kernel
theorem dX8_fraction_36 : decode cX8_fraction 36 = .ok (.putfield 76, 3) := by decide +kernel
theorem dX8_fraction_39 : decode cX8_fraction 39 = .ok (.aload_n 0, 1) := by decide +kernel
theorem dX8_fraction_40 : decode cX8_fraction 40 = .ok (.lload_n 3, 1) := by decide +kernel
theorem dX8_fraction_41 : decode cX8_fraction 41 = .ok (.lload 5, 2) := by decide +kernel
theorem dX8_fraction_43 : decode cX8_fraction 43 = .ok (.ldiv, 1) := by decide +kernel
theorem dX8_fraction_44 : decode cX8_fraction 44 = .ok (.putfield 7, 3) := by decide +kernel
theorem dX8_fraction_47 : decode cX8_fraction 47 = .ok (.aload_n 0, 1) := by decide +kernel
theorem dX8_fraction_48 : decode cX8_fraction 48 = .ok (.iconst 0, 1) := by decide +kernel
theorem dX8_fraction_49 : decode cX8_fraction 49 = .ok (.putfield 73, 3) := by decide +kernel
theorem dX8_fraction_52 : decode cX8_fraction 52 = .ok (.lload_n 1, 1) := by decide +kernel
theorem dX8_fraction_53 : decode cX8_fraction 53 = .ok (.lconst 0, 1) := by decide +kernel
theorem dX8_fraction_54 : decode cX8_fraction 54 = .ok (.lcmp, 1) := by decide +kernel
theorem dX8_fraction_55 : decode cX8_fraction 55 = .ok (.ifCond .le 7, 3) := by decide +kernel
theorem dX8_fraction_58 : decode cX8_fraction 58 = .ok (.iconst 1, 1) := by decide +kernel
theorem dX8_fraction_59 : decode cX8_fraction 59 = .ok (.goto 4, 3) := by decide +kernel
theorem dX8_fraction_62 : decode cX8_fraction 62 = .ok (.iconst 0, 1) := by decide +kernel
theorem dX8_fraction_63 : decode cX8_fraction 63 = .ok (.ireturn, 1) := by decide +kernel
set_option maxRecDepth 20000 in
theorem ggX8_middle_X8_areTwo : GoodIn wsX8_middle wsX8_areTwo := goodIn_r _ [5, 6, 7, 8, 4, 9, 10, 40, 41, 42, 43, 44, 45, 46, 47, 48, 49, 50, 51, 52, 53, 54, 55, 56, 57, 58, 59, 60, 61, 62] (by decide +kernel) (by decide +kernel)
set_option maxRecDepth 20000 in
theorem gX8_middle_X8_areTwo : GoodIn wsX8_middle (wsV RX8 133 RX8 yX8_areTwo wsX8_areTwo) := goodIn_app (goodIn_of _ (by decide +kernel)) ggX8_middle_X8_areTwo
set_option maxRecDepth 20000 in
theorem ggX8_middle_X8_refuse : GoodIn wsX8_middle wsX8_refuse := goodIn_r _ [14, 15, 40, 41, 42, 43, 44, 45, 46, 47, 48, 49, 50, 51, 52, 53, 54, 55, 56, 57, 58, 59, 60, 61, 62] (by decide +kernel) (by decide +kernel)
set_option maxRecDepth 20000 in
theorem gX8_middle_X8_refuse : GoodIn wsX8_middle (wsV RX8 99 RX8 yX8_refuse wsX8_refuse) := goodIn_app (goodIn_of _ (by decide +kernel)) ggX8_middle_X8_refuse
set_option maxRecDepth 20000 in
theorem ggX8_middle_X8_areBoth : GoodIn wsX8_middle wsX8_areBoth := goodIn_r _ [19, 20, 21, 22, 4, 23, 24, 25, 26, 27, 28, 40, 41, 42, 43, 44, 45, 46, 47, 48, 49, 50, 51, 52, 53, 54, 55, 56, 57, 58, 59, 60, 61, 62] (by decide +kernel) (by decide +kernel)
set_option maxRecDepth 20000 in
theorem gX8_middle_X8_areBoth : GoodIn wsX8_middle (wsV RX8 129 RX8 yX8_areBoth wsX8_areBoth) := goodIn_app (goodIn_of _ (by decide +kernel)) ggX8_middle_X8_areBoth
set_option maxRecDepth 20000 in
theorem ggX8_middle_X8_number : GoodIn wsX8_middle wsX8_number := goodIn_r _ [32, 25, 33, 26, 27, 4, 28, 40, 41, 42, 43, 44, 45, 46, 47, 48, 49, 50, 51, 52, 53, 54, 55, 56, 57, 58, 59, 60, 61, 62] (by decide +kernel) (by decide +kernel)
set_option maxRecDepth 20000 in
theorem gX8_middle_X8_number : GoodIn wsX8_middle (wsV RX8 122 RX8 yX8_number wsX8_number) := goodIn_app (goodIn_of _ (by decide +kernel)) ggX8_middle_X8_number
set_option maxRecDepth 20000 in
theorem ggX8_middle_X8_fraction : GoodIn wsX8_middle wsX8_fraction := goodIn_r _ [37, 38, 39, 15, 40, 41, 42, 43, 44, 45, 46, 47, 48, 49, 50, 51, 52, 53, 54, 55, 56, 57, 58, 59, 60, 61, 62] (by decide +kernel) (by decide +kernel)
set_option maxRecDepth 20000 in
theorem gX8_middle_X8_fraction : GoodIn wsX8_middle (wsV RX8 146 RX8 yX8_fraction wsX8_fraction) := goodIn_app (goodIn_of _ (by decide +kernel)) ggX8_middle_X8_fraction
theorem dX8_middle_0 : decode cX8_middle 0 = .ok (.aload_n 0, 1) := by decide +kernel
theorem dX8_middle_1 : decode cX8_middle 1 = .ok (.iload_n 1, 1) := by decide +kernel
theorem dX8_middle_2 : decode cX8_middle 2 = .ok (.iload_n 2, 1) := by decide +kernel
theorem dX8_middle_3 : decode cX8_middle 3 = .ok (.invokevirtual 133, 3) := by decide +kernel
theorem dX8_middle_6 : decode cX8_middle 6 = .ok (.ifCond .ne 9, 3) := by decide +kernel
theorem dX8_middle_9 : decode cX8_middle 9 = .ok (.aload_n 0, 1) := by decide +kernel
theorem dX8_middle_10 : decode cX8_middle 10 = .ok (.iconst 1, 1) := by decide +kernel
theorem dX8_middle_11 : decode cX8_middle 11 = .ok (.invokevirtual 99, 3) := by decide +kernel
theorem dX8_middle_14 : decode cX8_middle 14 = .ok (.ireturn, 1) := by decide +kernel
theorem dX8_middle_15 : decode cX8_middle 15 = .ok (.iconst 0, 1) := by decide +kernel
theorem dX8_middle_16 : decode cX8_middle 16 = .ok (.istore_n 3, 1) := by decide +kernel
theorem dX8_middle_17 : decode cX8_middle 17 = .ok (.iconst 0, 1) := by decide +kernel
theorem dX8_middle_18 : decode cX8_middle 18 = .ok (.istore 4, 2) := by decide +kernel
