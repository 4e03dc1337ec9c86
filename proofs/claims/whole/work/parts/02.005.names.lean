theorem dX6_isMissing_10 : decode cX6_isMissing 10 = .ok (.iconst 1, 1) := by decide +kernel
theorem dX6_isMissing_11 : decode cX6_isMissing 11 = .ok (.goto 4, 3) := by decide +kernel
theorem dX6_isMissing_14 : decode cX6_isMissing 14 = .ok (.iconst 0, 1) := by decide +kernel
theorem dX6_isMissing_15 : decode cX6_isMissing 15 = .ok (.ireturn, 1) := by decide +kernel
theorem dX6_areAlike_0 : decode cX6_areAlike 0 = .ok (.aload_n 0, 1) := by decide +kernel
theorem dX6_areAlike_1 : decode cX6_areAlike 1 = .ok (.getfield 15, 3) := by decide +kernel
theorem dX6_areAlike_4 : decode cX6_areAlike 4 = .ok (.iload_n 1, 1) := by decide +kernel
theorem dX6_areAlike_5 : decode cX6_areAlike 5 = .ok (.iaload, 1) := by decide +kernel
theorem dX6_areAlike_6 : decode cX6_areAlike 6 = .ok (.aload_n 0, 1) := by decide +kernel
theorem dX6_areAlike_7 : decode cX6_areAlike 7 = .ok (.getfield 15, 3) := by decide +kernel
theorem dX6_areAlike_10 : decode cX6_areAlike 10 = .ok (.iload_n 2, 1) := by decide +kernel
theorem dX6_areAlike_11 : decode cX6_areAlike 11 = .ok (.iaload, 1) := by decide +kernel
theorem dX6_areAlike_12 : decode cX6_areAlike 12 = .ok (.if_icmp .ne 7, 3) := by decide +kernel
theorem dX6_areAlike_15 : decode cX6_areAlike 15 = .ok (.iconst 1, 1) := by decide +kernel
theorem dX6_areAlike_16 : decode cX6_areAlike 16 = .ok (.goto 4, 3) := by decide +kernel
theorem dX6_areAlike_19 : decode cX6_areAlike 19 = .ok (.iconst 0, 1) := by decide +kernel
theorem dX6_areAlike_20 : decode cX6_areAlike 20 = .ok (.ireturn, 1) := by decide +kernel
theorem dX6_holds_0 : decode cX6_holds 0 = .ok (.iload_n 2, 1) := by decide +kernel
theorem dX6_holds_1 : decode cX6_holds 1 = .ok (.i2l, 1) := by decide +kernel
theorem dX6_holds_2 : decode cX6_holds 2 = .ok (.iload_n 3, 1) := by decide +kernel
theorem dX6_holds_3 : decode cX6_holds 3 = .ok (.i2l, 1) := by decide +kernel
theorem dX6_holds_4 : decode cX6_holds 4 = .ok (.ladd, 1) := by decide +kernel
theorem dX6_holds_5 : decode cX6_holds 5 = .ok (.aload_n 0, 1) := by decide +kernel
theorem dX6_holds_6 : decode cX6_holds 6 = .ok (.getfield 19, 3) := by decide +kernel
theorem dX6_holds_9 : decode cX6_holds 9 = .ok (.iload_n 1, 1) := by decide +kernel
theorem dX6_holds_10 : decode cX6_holds 10 = .ok (.iaload, 1) := by decide +kernel
theorem dX6_holds_11 : decode cX6_holds 11 = .ok (.i2l, 1) := by decide +kernel
theorem dX6_holds_12 : decode cX6_holds 12 = .ok (.lcmp, 1) := by decide +kernel
theorem dX6_holds_13 : decode cX6_holds 13 = .ok (.ifCond .gt 7, 3) := by decide +kernel
theorem dX6_holds_16 : decode cX6_holds 16 = .ok (.iconst 1, 1) := by decide +kernel
theorem dX6_holds_17 : decode cX6_holds 17 = .ok (.goto 4, 3) := by decide +kernel
theorem dX6_holds_20 : decode cX6_holds 20 = .ok (.iconst 0, 1) := by decide +kernel
theorem dX6_holds_21 : decode cX6_holds 21 = .ok (.ireturn, 1) := by decide +kernel
set_option maxRecDepth 20000 in
theorem ggX6_whyNoPlace_X7_isWithin : GoodIn wsX6_whyNoPlace wsX7_isWithin := goodIn_r _ [4] (by decide +kernel) (by decide +kernel)
set_option maxRecDepth 20000 in
theorem gX6_whyNoPlace_X7_isWithin_n28 : GoodIn wsX6_whyNoPlace (wsX7_isWithin) := ggX6_whyNoPlace_X7_isWithin
set_option maxRecDepth 20000 in
theorem ggX6_whyNoPlace_X6_isMissing : GoodIn wsX6_whyNoPlace wsX6_isMissing := goodIn_r _ [9, 10, 11, 12, 13] (by decide +kernel) (by decide +kernel)
set_option maxRecDepth 20000 in
theorem gX6_whyNoPlace_X6_isMissing : GoodIn wsX6_whyNoPlace (wsV RX6 32 RX6 yX6_isMissing wsX6_isMissing) := goodIn_app (goodIn_of _ (by decide +kernel)) ggX6_whyNoPlace_X6_isMissing
theorem dX6_whyNoPlace_0 : decode cX6_whyNoPlace 0 = .ok (.iload_n 1, 1) := by decide +kernel
theorem dX6_whyNoPlace_1 : decode cX6_whyNoPlace 1 = .ok (.iconst 3, 1) := by decide +kernel
theorem dX6_whyNoPlace_2 : decode cX6_whyNoPlace 2 = .ok (.invokestatic 28, 3) := by decide +kernel
theorem dX6_whyNoPlace_5 : decode cX6_whyNoPlace 5 = .ok (.ifCond .ne 5, 3) := by decide +kernel
theorem dX6_whyNoPlace_8 : decode cX6_whyNoPlace 8 = .ok (.iconst 1, 1) := by decide +kernel
theorem dX6_whyNoPlace_9 : decode cX6_whyNoPlace 9 = .ok (.ireturn, 1) := by decide +kernel
theorem dX6_whyNoPlace_10 : decode cX6_whyNoPlace 10 = .ok (.aload_n 0, 1) := by decide +kernel
theorem dX6_whyNoPlace_11 : decode cX6_whyNoPlace 11 = .ok (.iload_n 1, 1) := by decide +kernel
theorem dX6_whyNoPlace_12 : decode cX6_whyNoPlace 12 = .ok (.invokevirtual 32, 3) := by decide +kernel
theorem dX6_whyNoPlace_15 : decode cX6_whyNoPlace 15 = .ok (.ifCond .eq 5, 3) := by decide +kernel
theorem dX6_whyNoPlace_18 : decode cX6_whyNoPlace 18 = .ok (.iconst 2, 1) := by decide +kernel
theorem dX6_whyNoPlace_19 : decode cX6_whyNoPlace 19 = .ok (.ireturn, 1) := by decide +kernel
theorem dX6_whyNoPlace_20 : decode cX6_whyNoPlace 20 = .ok (.iload_n 2, 1) := by decide +kernel
theorem dX6_whyNoPlace_21 : decode cX6_whyNoPlace 21 = .ok (.ifCond .lt 17, 3) := by decide +kernel
theorem dX6_whyNoPlace_24 : decode cX6_whyNoPlace 24 = .ok (.iload_n 2, 1) := by decide +kernel
theorem dX6_whyNoPlace_25 : decode cX6_whyNoPlace 25 = .ok (.aload_n 0, 1) := by decide +kernel
theorem dX6_whyNoPlace_26 : decode cX6_whyNoPlace 26 = .ok (.getfield 19, 3) := by decide +kernel
theorem dX6_whyNoPlace_29 : decode cX6_whyNoPlace 29 = .ok (.iload_n 1, 1) := by decide +kernel
theorem dX6_whyNoPlace_30 : decode cX6_whyNoPlace 30 = .ok (.iaload, 1) := by decide +kernel
theorem dX6_whyNoPlace_31 : decode cX6_whyNoPlace 31 = .ok (.if_icmp .ge 7, 3) := by decide +kernel
theorem dX6_whyNoPlace_34 : decode cX6_whyNoPlace 34 = .ok (.iconst 0, 1) := by decide +kernel
theorem dX6_whyNoPlace_35 : decode cX6_whyNoPlace 35 = .ok (.goto 4, 3) := by decide +kernel
theorem dX6_whyNoPlace_38 : decode cX6_whyNoPlace 38 = .ok (.iconst 3, 1) := by decide +kernel
theorem dX6_whyNoPlace_39 : decode cX6_whyNoPlace 39 = .ok (.ireturn, 1) := by decide +kernel
set_option maxRecDepth 20000 in
theorem ggX6_lay_J7_fill_bad5a : GoodIn wsX6_lay wsJ7_fill_bad5a := goodIn_r _ [7, 8, 9, 6, 10] (by decide +kernel) (by decide +kernel)
set_option maxRecDepth 20000 in
theorem gX6_lay_J7_fill_bad5a : GoodIn wsX6_lay (va_wsS RX6 36 yJ7_fill_bad5a wsJ7_fill_bad5a) := goodIn_app (goodIn_of _ (by decide +kernel)) ggX6_lay_J7_fill_bad5a
theorem dX6_lay_0 : decode cX6_lay 0 = .ok (.aload_n 0, 1) := by decide +kernel
theorem dX6_lay_1 : decode cX6_lay 1 = .ok (.getfield 15, 3) := by decide +kernel
theorem dX6_lay_4 : decode cX6_lay 4 = .ok (.iload_n 1, 1) := by decide +kernel
theorem dX6_lay_5 : decode cX6_lay 5 = .ok (.iload_n 2, 1) := by decide +kernel
theorem dX6_lay_6 : decode cX6_lay 6 = .ok (.iastore, 1) := by decide +kernel
theorem dX6_lay_7 : decode cX6_lay 7 = .ok (.aload_n 0, 1) := by decide +kernel
theorem dX6_lay_8 : decode cX6_lay 8 = .ok (.getfield 19, 3) := by decide +kernel
theorem dX6_lay_11 : decode cX6_lay 11 = .ok (.iload_n 1, 1) := by decide +kernel
theorem dX6_lay_12 : decode cX6_lay 12 = .ok (.iload_n 3, 1) := by decide +kernel
theorem dX6_lay_13 : decode cX6_lay 13 = .ok (.iastore, 1) := by decide +kernel
theorem dX6_lay_14 : decode cX6_lay 14 = .ok (.aload_n 0, 1) := by decide +kernel
theorem dX6_lay_15 : decode cX6_lay 15 = .ok (.getfield 9, 3) := by decide +kernel
theorem dX6_lay_18 : decode cX6_lay 18 = .ok (.iload_n 1, 1) := by decide +kernel
theorem dX6_lay_19 : decode cX6_lay 19 = .ok (.bipush 60, 2) := by decide +kernel
theorem dX6_lay_21 : decode cX6_lay 21 = .ok (.imul, 1) := by decide +kernel
theorem dX6_lay_22 : decode cX6_lay 22 = .ok (.iload_n 1, 1) := by decide +kernel
theorem dX6_lay_23 : decode cX6_lay 23 = .ok (.iconst 1, 1) := by decide +kernel
theorem dX6_lay_24 : decode cX6_lay 24 = .ok (.iadd, 1) := by decide +kernel
theorem dX6_lay_25 : decode cX6_lay 25 = .ok (.bipush 60, 2) := by decide +kernel
theorem dX6_lay_27 : decode cX6_lay 27 = .ok (.imul, 1) := by decide +kernel
theorem dX6_lay_28 : decode cX6_lay 28 = .ok (.lconst 0, 1) := by decide +kernel
theorem dX6_lay_29 : decode cX6_lay 29 = .ok (.invokestatic 36, 3) := by decide +kernel
theorem dX6_lay_32 : decode cX6_lay 32 = .ok (.return_, 1) := by decide +kernel
theorem dX6_numberAt_0 : decode cX6_numberAt 0 = .ok (.aload_n 0, 1) := by decide +kernel
theorem dX6_numberAt_1 : decode cX6_numberAt 1 = .ok (.getfield 9, 3) := by decide +kernel
theorem dX6_numberAt_4 : decode cX6_numberAt 4 = .ok (.iload_n 1, 1) := by decide +kernel
theorem dX6_numberAt_5 : decode cX6_numberAt 5 = .ok (.bipush 60, 2) := by decide +kernel
theorem dX6_numberAt_7 : decode cX6_numberAt 7 = .ok (.imul, 1) := by decide +kernel
theorem dX6_numberAt_8 : decode cX6_numberAt 8 = .ok (.iload_n 2, 1) := by decide +kernel
theorem dX6_numberAt_9 : decode cX6_numberAt 9 = .ok (.iadd, 1) := by decide +kernel
theorem dX6_numberAt_10 : decode cX6_numberAt 10 = .ok (.laload, 1) := by decide +kernel
theorem dX6_numberAt_11 : decode cX6_numberAt 11 = .ok (.lreturn, 1) := by decide +kernel
set_option maxRecDepth 20000 in
theorem ggX6_put_X6_cut : GoodIn wsX6_put wsX6_cut := goodIn_r _ [6] (by decide +kernel) (by decide +kernel)
set_option maxRecDepth 20000 in
theorem gX6_put_X6_cut : GoodIn wsX6_put (va_wsS RX6 39 yX6_cut wsX6_cut) := goodIn_app (goodIn_of _ (by decide +kernel)) ggX6_put_X6_cut
theorem dX6_put_0 : decode cX6_put 0 = .ok (.aload_n 0, 1) := by decide +kernel
theorem dX6_put_1 : decode cX6_put 1 = .ok (.getfield 9, 3) := by decide +kernel
theorem dX6_put_4 : decode cX6_put 4 = .ok (.iload_n 1, 1) := by decide +kernel
theorem dX6_put_5 : decode cX6_put 5 = .ok (.bipush 60, 2) := by decide +kernel
theorem dX6_put_7 : decode cX6_put 7 = .ok (.imul, 1) := by decide +kernel
theorem dX6_put_8 : decode cX6_put 8 = .ok (.iload_n 2, 1) := by decide +kernel
theorem dX6_put_9 : decode cX6_put 9 = .ok (.iadd, 1) := by decide +kernel
theorem dX6_put_10 : decode cX6_put 10 = .ok (.aload_n 0, 1) := by decide +kernel
theorem dX6_put_11 : decode cX6_put 11 = .ok (.getfield 15, 3) := by decide +kernel
theorem dX6_put_14 : decode cX6_put 14 = .ok (.iload_n 1, 1) := by decide +kernel
theorem dX6_put_15 : decode cX6_put 15 = .ok (.iaload, 1) := by decide +kernel
theorem dX6_put_16 : decode cX6_put 16 = .ok (.lload_n 3, 1) := by decide +kernel
theorem dX6_put_17 : decode cX6_put 17 = .ok (.invokestatic 39, 3) := by decide +kernel
theorem dX6_put_20 : decode cX6_put 20 = .ok (.lastore, 1) := by decide +kernel
theorem dX6_put_21 : decode cX6_put 21 = .ok (.return_, 1) := by decide +kernel
theorem dX6_carry_0 : decode cX6_carry 0 = .ok (.aload_n 0, 1) := by decide +kernel
theorem dX6_carry_1 : decode cX6_carry 1 = .ok (.getfield 9, 3) := by decide +kernel
theorem dX6_carry_4 : decode cX6_carry 4 = .ok (.iload_n 1, 1) := by decide +kernel
theorem dX6_carry_5 : decode cX6_carry 5 = .ok (.bipush 60, 2) := by decide +kernel
theorem dX6_carry_7 : decode cX6_carry 7 = .ok (.imul, 1) := by decide +kernel
theorem dX6_carry_8 : decode cX6_carry 8 = .ok (.iload_n 2, 1) := by decide +kernel
theorem dX6_carry_9 : decode cX6_carry 9 = .ok (.iadd, 1) := by decide +kernel
theorem dX6_carry_10 : decode cX6_carry 10 = .ok (.aload_n 0, 1) := by decide +kernel
theorem dX6_carry_11 : decode cX6_carry 11 = .ok (.getfield 9, 3) := by decide +kernel
theorem dX6_carry_14 : decode cX6_carry 14 = .ok (.iload_n 3, 1) := by decide +kernel
theorem dX6_carry_15 : decode cX6_carry 15 = .ok (.bipush 60, 2) := by decide +kernel
theorem dX6_carry_17 : decode cX6_carry 17 = .ok (.imul, 1) := by decide +kernel
theorem dX6_carry_18 : decode cX6_carry 18 = .ok (.iload 4, 2) := by decide +kernel
theorem dX6_carry_20 : decode cX6_carry 20 = .ok (.iadd, 1) := by decide +kernel
theorem dX6_carry_21 : decode cX6_carry 21 = .ok (.iload 5, 2) := by decide +kernel
theorem dX6_carry_23 : decode cX6_carry 23 = .ok (.invokestatic 43, 3) := by decide +kernel
theorem dX6_carry_26 : decode cX6_carry 26 = .ok (.return_, 1) := by decide +kernel
theorem dX6_cut_0 : decode cX6_cut 0 = .ok (.iload_n 0, 1) := by decide +kernel
theorem dX6_cut_1 : decode cX6_cut 1 = .ok (.tableswitch 41 0 2 #[27, 32, 37], 27) := by decide +kernel
theorem dX6_cut_28 : decode cX6_cut 28 = .ok (.lload_n 1, 1) := by decide +kernel
theorem dX6_cut_29 : decode cX6_cut 29 = .ok (.l2i, 1) := by decide +kernel
theorem dX6_cut_30 : decode cX6_cut 30 = .ok (.i2b, 1) := by decide +kernel
theorem dX6_cut_31 : decode cX6_cut 31 = .ok (.i2l, 1) := by decide +kernel
theorem dX6_cut_32 : decode cX6_cut 32 = .ok (.lreturn, 1) := by decide +kernel
theorem dX6_cut_33 : decode cX6_cut 33 = .ok (.lload_n 1, 1) := by decide +kernel
theorem dX6_cut_34 : decode cX6_cut 34 = .ok (.l2i, 1) := by decide +kernel
theorem dX6_cut_35 : decode cX6_cut 35 = .ok (.i2s, 1) := by decide +kernel
theorem dX6_cut_36 : decode cX6_cut 36 = .ok (.i2l, 1) := by decide +kernel
theorem dX6_cut_37 : decode cX6_cut 37 = .ok (.lreturn, 1) := by decide +kernel
theorem dX6_cut_38 : decode cX6_cut 38 = .ok (.lload_n 1, 1) := by decide +kernel
theorem dX6_cut_39 : decode cX6_cut 39 = .ok (.l2i, 1) := by decide +kernel
theorem dX6_cut_40 : decode cX6_cut 40 = .ok (.i2l, 1) := by decide +kernel
theorem dX6_cut_41 : decode cX6_cut 41 = .ok (.lreturn, 1) := by decide +kernel
theorem dX6_cut_42 : decode cX6_cut 42 = .ok (.lload_n 1, 1) := by decide +kernel
theorem dX6_cut_43 : decode cX6_cut 43 = .ok (.lreturn, 1) := by decide +kernel
set_option maxRecDepth 20000 in
theorem ggX7_init_X6_init : GoodIn wsX7_init wsX6_init := goodIn_r _ [35, 36, 2, 3, 37, 38, 39, 40, 41, 42, 43, 44, 45, 94, 95, 96] (by decide +kernel) (by decide +kernel)
set_option maxRecDepth 20000 in
theorem gX7_init_X6_init : GoodIn wsX7_init (wsX6_init) := ggX7_init_X6_init
set_option maxRecDepth 20000 in
theorem ggX7_init_X5_init : GoodIn wsX7_init wsX5_init := goodIn_r _ [48, 49, 2, 3, 39, 50, 51, 52, 53, 54, 55, 43, 44, 45, 105, 106, 107, 108, 109] (by decide +kernel) (by decide +kernel)
set_option maxRecDepth 20000 in
theorem gX7_init_X5_init : GoodIn wsX7_init (wsX5_init) := ggX7_init_X5_init
set_option maxRecDepth 20000 in
theorem ggX7_init_X2_init : GoodIn wsX7_init wsX2_init := goodIn_r _ [58, 59, 2, 3, 39, 60, 61, 62, 110, 111, 112] (by decide +kernel) (by decide +kernel)
set_option maxRecDepth 20000 in
theorem gX7_init_X2_init : GoodIn wsX7_init (wsX2_init) := ggX7_init_X2_init
set_option maxRecDepth 20000 in
theorem ggX7_init_X4_init : GoodIn wsX7_init wsX4_init := goodIn_r _ [65, 66, 2, 3, 39, 67, 68, 69, 70, 71, 72, 113, 114, 115, 116, 117, 118] (by decide +kernel) (by decide +kernel)
set_option maxRecDepth 20000 in
theorem gX7_init_X4_init : GoodIn wsX7_init (wsX4_init) := ggX7_init_X4_init
set_option maxRecDepth 20000 in
theorem ggX7_init_X0_init : GoodIn wsX7_init wsX0_init := goodIn_r _ [75, 76, 2, 3, 39, 77, 78, 79, 80, 119, 120, 121, 122] (by decide +kernel) (by decide +kernel)
set_option maxRecDepth 20000 in
theorem gX7_init_X0_init : GoodIn wsX7_init (wsX0_init) := ggX7_init_X0_init
set_option maxRecDepth 20000 in
theorem ggX7_init_X3_init : GoodIn wsX7_init wsX3_init := goodIn_r _ [83, 84, 2, 3, 39, 85, 86, 87, 123, 124, 125] (by decide +kernel) (by decide +kernel)
set_option maxRecDepth 20000 in
theorem gX7_init_X3_init : GoodIn wsX7_init (wsX3_init) := ggX7_init_X3_init
set_option maxRecDepth 20000 in
theorem ggX7_init_X1_init : GoodIn wsX7_init wsX1_init := goodIn_r _ [90, 91, 2, 3, 92, 93, 126, 127] (by decide +kernel) (by decide +kernel)
set_option maxRecDepth 20000 in
theorem gX7_init_X1_init : GoodIn wsX7_init (wsX1_init) := ggX7_init_X1_init
theorem dX7_init_0 : decode cX7_init 0 = .ok (.aload_n 0, 1) := by decide +kernel
theorem dX7_init_1 : decode cX7_init 1 = .ok (.invokespecial 1, 3) := by decide +kernel
theorem dX7_init_4 : decode cX7_init 4 = .ok (.aload_n 0, 1) := by decide +kernel
theorem dX7_init_5 : decode cX7_init 5 = .ok (.new 7, 3) := by decide +kernel
theorem dX7_init_8 : decode cX7_init 8 = .ok (.dup, 1) := by decide +kernel
theorem dX7_init_9 : decode cX7_init 9 = .ok (.invokespecial 9, 3) := by decide +kernel
theorem dX7_init_12 : decode cX7_init 12 = .ok (.putfield 10, 3) := by decide +kernel
theorem dX7_init_15 : decode cX7_init 15 = .ok (.aload_n 0, 1) := by decide +kernel
theorem dX7_init_16 : decode cX7_init 16 = .ok (.new 16, 3) := by decide +kernel
theorem dX7_init_19 : decode cX7_init 19 = .ok (.dup, 1) := by decide +kernel
theorem dX7_init_20 : decode cX7_init 20 = .ok (.invokespecial 18, 3) := by decide +kernel
theorem dX7_init_23 : decode cX7_init 23 = .ok (.putfield 19, 3) := by decide +kernel
theorem dX7_init_26 : decode cX7_init 26 = .ok (.aload_n 0, 1) := by decide +kernel
theorem dX7_init_27 : decode cX7_init 27 = .ok (.new 23, 3) := by decide +kernel
theorem dX7_init_30 : decode cX7_init 30 = .ok (.dup, 1) := by decide +kernel
theorem dX7_init_31 : decode cX7_init 31 = .ok (.invokespecial 25, 3) := by decide +kernel
theorem dX7_init_34 : decode cX7_init 34 = .ok (.putfield 26, 3) := by decide +kernel
theorem dX7_init_37 : decode cX7_init 37 = .ok (.aload_n 0, 1) := by decide +kernel
theorem dX7_init_38 : decode cX7_init 38 = .ok (.new 30, 3) := by decide +kernel
theorem dX7_init_41 : decode cX7_init 41 = .ok (.dup, 1) := by decide +kernel
theorem dX7_init_42 : decode cX7_init 42 = .ok (.invokespecial 32, 3) := by decide +kernel
theorem dX7_init_45 : decode cX7_init 45 = .ok (.putfield 33, 3) := by decide +kernel
theorem dX7_init_48 : decode cX7_init 48 = .ok (.aload_n 0, 1) := by decide +kernel
theorem dX7_init_49 : decode cX7_init 49 = .ok (.new 37, 3) := by decide +kernel
theorem dX7_init_52 : decode cX7_init 52 = .ok (.dup, 1) := by decide +kernel
theorem dX7_init_53 : decode cX7_init 53 = .ok (.invokespecial 39, 3) := by decide +kernel
theorem dX7_init_56 : decode cX7_init 56 = .ok (.putfield 40, 3) := by decide +kernel
theorem dX7_init_59 : decode cX7_init 59 = .ok (.aload_n 0, 1) := by decide +kernel
theorem dX7_init_60 : decode cX7_init 60 = .ok (.new 44, 3) := by decide +kernel
theorem dX7_init_63 : decode cX7_init 63 = .ok (.dup, 1) := by decide +kernel
theorem dX7_init_64 : decode cX7_init 64 = .ok (.invokespecial 46, 3) := by decide +kernel
theorem dX7_init_67 : decode cX7_init 67 = .ok (.putfield 47, 3) := by decide +kernel
theorem dX7_init_70 : decode cX7_init 70 = .ok (.aload_n 0, 1) := by decide +kernel
theorem dX7_init_71 : decode cX7_init 71 = .ok (.new 51, 3) := by decide +kernel
theorem dX7_init_74 : decode cX7_init 74 = .ok (.dup, 1) := by decide +kernel
theorem dX7_init_75 : decode cX7_init 75 = .ok (.invokespecial 53, 3) := by decide +kernel
theorem dX7_init_78 : decode cX7_init 78 = .ok (.putfield 54, 3) := by decide +kernel
theorem dX7_init_81 : decode cX7_init 81 = .ok (.aload_n 0, 1) := by decide +kernel
theorem dX7_init_82 : decode cX7_init 82 = .ok (.iconst 0, 1) := by decide +kernel
theorem dX7_init_83 : decode cX7_init 83 = .ok (.putfield 58, 3) := by decide +kernel
theorem dX7_init_86 : decode cX7_init 86 = .ok (.return_, 1) := by decide +kernel
theorem dX7_status_0 : decode cX7_status 0 = .ok (.aload_n 0, 1) := by decide +kernel
theorem dX7_status_1 : decode cX7_status 1 = .ok (.getfield 58, 3) := by decide +kernel
theorem dX7_status_4 : decode cX7_status 4 = .ok (.ireturn, 1) := by decide +kernel
theorem dX7_top_0 : decode cX7_top 0 = .ok (.aload_n 0, 1) := by decide +kernel
theorem dX7_top_1 : decode cX7_top 1 = .ok (.getfield 54, 3) := by decide +kernel
theorem dX7_top_4 : decode cX7_top 4 = .ok (.getfield 62, 3) := by decide +kernel
theorem dX7_top_7 : decode cX7_top 7 = .ok (.lreturn, 1) := by decide +kernel
theorem dX7_bottom_0 : decode cX7_bottom 0 = .ok (.aload_n 0, 1) := by decide +kernel
theorem dX7_bottom_1 : decode cX7_bottom 1 = .ok (.getfield 54, 3) := by decide +kernel
theorem dX7_bottom_4 : decode cX7_bottom 4 = .ok (.getfield 66, 3) := by decide +kernel
theorem dX7_bottom_7 : decode cX7_bottom 7 = .ok (.lreturn, 1) := by decide +kernel
set_option maxRecDepth 20000 in
theorem ggX7_tray_X7_isWithin : GoodIn wsX7_tray wsX7_isWithin := goodIn_r _ [5] (by decide +kernel) (by decide +kernel)
set_option maxRecDepth 20000 in
theorem gX7_tray_X7_isWithin : GoodIn wsX7_tray (va_wsS RX7 69 yX7_isWithin wsX7_isWithin) := goodIn_app (goodIn_of _ (by decide +kernel)) ggX7_tray_X7_isWithin
set_option maxRecDepth 20000 in
theorem ggX7_tray_X6_isSort : GoodIn wsX7_tray wsX6_isSort := goodIn_r _ [9] (by decide +kernel) (by decide +kernel)
set_option maxRecDepth 20000 in
theorem gX7_tray_X6_isSort : GoodIn wsX7_tray (va_wsS RX7 73 yX6_isSort wsX6_isSort) := goodIn_app (goodIn_of _ (by decide +kernel)) ggX7_tray_X6_isSort
set_option maxRecDepth 20000 in
theorem ggX7_tray_X7_refuse : GoodIn wsX7_tray wsX7_refuse := goodIn_r _ [13, 14, 33, 34, 35, 36, 37, 38, 39, 40] (by decide +kernel) (by decide +kernel)
set_option maxRecDepth 20000 in
theorem gX7_tray_X7_refuse : GoodIn wsX7_tray (wsV RX7 77 RX7 yX7_refuse wsX7_refuse) := goodIn_app (goodIn_of _ (by decide +kernel)) ggX7_tray_X7_refuse
set_option maxRecDepth 20000 in
theorem ggX7_tray_X6_lay : GoodIn wsX7_tray wsX6_lay := goodIn_r _ [18, 19, 20, 21, 22, 23, 24, 25, 26, 27, 28, 41, 42, 43] (by decide +kernel) (by decide +kernel)
set_option maxRecDepth 20000 in
theorem gX7_tray_X6_lay : GoodIn wsX7_tray (wsV RX7 80 RX6 yX6_lay wsX6_lay) := goodIn_app (goodIn_of _ (by decide +kernel)) ggX7_tray_X6_lay
set_option maxRecDepth 20000 in
theorem ggX7_tray_X7_agree : GoodIn wsX7_tray wsX7_agree := goodIn_r _ [32, 14, 33, 34, 35, 36, 37, 38, 39, 40] (by decide +kernel) (by decide +kernel)
set_option maxRecDepth 20000 in
theorem gX7_tray_X7_agree : GoodIn wsX7_tray (wsV RX7 84 RX7 yX7_agree wsX7_agree) := goodIn_app (goodIn_of _ (by decide +kernel)) ggX7_tray_X7_agree
theorem dX7_tray_0 : decode cX7_tray 0 = .ok (.iload_n 1, 1) := by decide +kernel
theorem dX7_tray_1 : decode cX7_tray 1 = .ok (.iconst 3, 1) := by decide +kernel
theorem dX7_tray_2 : decode cX7_tray 2 = .ok (.invokestatic 69, 3) := by decide +kernel
theorem dX7_tray_5 : decode cX7_tray 5 = .ok (.ifCond .eq 19, 3) := by decide +kernel
theorem dX7_tray_8 : decode cX7_tray 8 = .ok (.iload_n 2, 1) := by decide +kernel
theorem dX7_tray_9 : decode cX7_tray 9 = .ok (.invokestatic 73, 3) := by decide +kernel
theorem dX7_tray_12 : decode cX7_tray 12 = .ok (.ifCond .eq 12, 3) := by decide +kernel
theorem dX7_tray_15 : decode cX7_tray 15 = .ok (.iload_n 3, 1) := by decide +kernel
theorem dX7_tray_16 : decode cX7_tray 16 = .ok (.bipush 60, 2) := by decide +kernel
theorem dX7_tray_18 : decode cX7_tray 18 = .ok (.invokestatic 69, 3) := by decide +kernel
theorem dX7_tray_21 : decode cX7_tray 21 = .ok (.ifCond .ne 9, 3) := by decide +kernel
theorem dX7_tray_24 : decode cX7_tray 24 = .ok (.aload_n 0, 1) := by decide +kernel
theorem dX7_tray_25 : decode cX7_tray 25 = .ok (.iconst 1, 1) := by decide +kernel
theorem dX7_tray_26 : decode cX7_tray 26 = .ok (.invokevirtual 77, 3) := by decide +kernel
theorem dX7_tray_29 : decode cX7_tray 29 = .ok (.ireturn, 1) := by decide +kernel
theorem dX7_tray_30 : decode cX7_tray 30 = .ok (.aload_n 0, 1) := by decide +kernel
theorem dX7_tray_31 : decode cX7_tray 31 = .ok (.getfield 10, 3) := by decide +kernel
theorem dX7_tray_34 : decode cX7_tray 34 = .ok (.iload_n 1, 1) := by decide +kernel
theorem dX7_tray_35 : decode cX7_tray 35 = .ok (.iload_n 2, 1) := by decide +kernel
theorem dX7_tray_36 : decode cX7_tray 36 = .ok (.iload_n 3, 1) := by decide +kernel
theorem dX7_tray_37 : decode cX7_tray 37 = .ok (.invokevirtual 80, 3) := by decide +kernel
theorem dX7_tray_40 : decode cX7_tray 40 = .ok (.aload_n 0, 1) := by decide +kernel
theorem dX7_tray_41 : decode cX7_tray 41 = .ok (.invokevirtual 84, 3) := by decide +kernel
theorem dX7_tray_44 : decode cX7_tray 44 = .ok (.ireturn, 1) := by decide +kernel
set_option maxRecDepth 20000 in
theorem ggX7_write_X6_whyNoPlace : GoodIn wsX7_write wsX6_whyNoPlace := goodIn_r _ [6, 7, 8, 9, 10, 11, 12, 13, 5, 14, 15, 41, 42, 43] (by decide +kernel) (by decide +kernel)
set_option maxRecDepth 20000 in
theorem gX7_write_X6_whyNoPlace : GoodIn wsX7_write (wsV RX7 88 RX6 yX6_whyNoPlace wsX6_whyNoPlace) := goodIn_app (goodIn_of _ (by decide +kernel)) ggX7_write_X6_whyNoPlace
set_option maxRecDepth 20000 in
theorem ggX7_write_X7_refuse : GoodIn wsX7_write wsX7_refuse := goodIn_r _ [19, 20, 33, 34, 35, 36, 37, 38, 39, 40] (by decide +kernel) (by decide +kernel)
set_option maxRecDepth 20000 in
theorem gX7_write_X7_refuse : GoodIn wsX7_write (wsV RX7 77 RX7 yX7_refuse wsX7_refuse) := goodIn_app (goodIn_of _ (by decide +kernel)) ggX7_write_X7_refuse
set_option maxRecDepth 20000 in
theorem ggX7_write_X6_put : GoodIn wsX7_write wsX6_put := goodIn_r _ [24, 25, 15, 26, 27, 5, 28, 41, 42, 43] (by decide +kernel) (by decide +kernel)
set_option maxRecDepth 20000 in
theorem gX7_write_X6_put : GoodIn wsX7_write (wsV RX7 92 RX6 yX6_put wsX6_put) := goodIn_app (goodIn_of _ (by decide +kernel)) ggX7_write_X6_put
set_option maxRecDepth 20000 in
theorem ggX7_write_X7_agree : GoodIn wsX7_write wsX7_agree := goodIn_r _ [32, 20, 33, 34, 35, 36, 37, 38, 39, 40] (by decide +kernel) (by decide +kernel)
set_option maxRecDepth 20000 in
theorem gX7_write_X7_agree : GoodIn wsX7_write (wsV RX7 84 RX7 yX7_agree wsX7_agree) := goodIn_app (goodIn_of _ (by decide +kernel)) ggX7_write_X7_agree
theorem dX7_write_0 : decode cX7_write 0 = .ok (.aload_n 0, 1) := by decide +kernel
theorem dX7_write_1 : decode cX7_write 1 = .ok (.getfield 10, 3) := by decide +kernel
theorem dX7_write_4 : decode cX7_write 4 = .ok (.iload_n 1, 1) := by decide +kernel
theorem dX7_write_5 : decode cX7_write 5 = .ok (.iload_n 2, 1) := by decide +kernel
theorem dX7_write_6 : decode cX7_write 6 = .ok (.invokevirtual 88, 3) := by decide +kernel
theorem dX7_write_9 : decode cX7_write 9 = .ok (.istore 5, 2) := by decide +kernel
theorem dX7_write_11 : decode cX7_write 11 = .ok (.iload 5, 2) := by decide +kernel
theorem dX7_write_13 : decode cX7_write 13 = .ok (.ifCond .eq 10, 3) := by decide +kernel
theorem dX7_write_16 : decode cX7_write 16 = .ok (.aload_n 0, 1) := by decide +kernel
theorem dX7_write_17 : decode cX7_write 17 = .ok (.iload 5, 2) := by decide +kernel
theorem dX7_write_19 : decode cX7_write 19 = .ok (.invokevirtual 77, 3) := by decide +kernel
theorem dX7_write_22 : decode cX7_write 22 = .ok (.ireturn, 1) := by decide +kernel
theorem dX7_write_23 : decode cX7_write 23 = .ok (.aload_n 0, 1) := by decide +kernel
theorem dX7_write_24 : decode cX7_write 24 = .ok (.getfield 10, 3) := by decide +kernel
theorem dX7_write_27 : decode cX7_write 27 = .ok (.iload_n 1, 1) := by decide +kernel
theorem dX7_write_28 : decode cX7_write 28 = .ok (.iload_n 2, 1) := by decide +kernel
theorem dX7_write_29 : decode cX7_write 29 = .ok (.lload_n 3, 1) := by decide +kernel
theorem dX7_write_30 : decode cX7_write 30 = .ok (.invokevirtual 92, 3) := by decide +kernel
theorem dX7_write_33 : decode cX7_write 33 = .ok (.aload_n 0, 1) := by decide +kernel
theorem dX7_write_34 : decode cX7_write 34 = .ok (.invokevirtual 84, 3) := by decide +kernel
theorem dX7_write_37 : decode cX7_write 37 = .ok (.ireturn, 1) := by decide +kernel
