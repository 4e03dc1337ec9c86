theorem dX5_canBeTold_6 : decode cX5_canBeTold 6 = .ok (.ifCond .eq 22, 3) := by decide +kernel
theorem dX5_canBeTold_9 : decode cX5_canBeTold 9 = .ok (.iload_n 1, 1) := by decide +kernel
theorem dX5_canBeTold_10 : decode cX5_canBeTold 10 = .ok (.sipush 200, 3) := by decide +kernel
theorem dX5_canBeTold_13 : decode cX5_canBeTold 13 = .ok (.invokestatic 34, 3) := by decide +kernel
theorem dX5_canBeTold_16 : decode cX5_canBeTold 16 = .ok (.ifCond .eq 12, 3) := by decide +kernel
theorem dX5_canBeTold_19 : decode cX5_canBeTold 19 = .ok (.iload_n 1, 1) := by decide +kernel
theorem dX5_canBeTold_20 : decode cX5_canBeTold 20 = .ok (.iload_n 0, 1) := by decide +kernel
theorem dX5_canBeTold_21 : decode cX5_canBeTold 21 = .ok (.if_icmp .lt 7, 3) := by decide +kernel
theorem dX5_canBeTold_24 : decode cX5_canBeTold 24 = .ok (.iconst 1, 1) := by decide +kernel
theorem dX5_canBeTold_25 : decode cX5_canBeTold 25 = .ok (.goto 4, 3) := by decide +kernel
theorem dX5_canBeTold_28 : decode cX5_canBeTold 28 = .ok (.iconst 0, 1) := by decide +kernel
theorem dX5_canBeTold_29 : decode cX5_canBeTold 29 = .ok (.ireturn, 1) := by decide +kernel
set_option maxRecDepth 20000 in
theorem ggX5_isCode_X5_canBeTold : GoodIn wsX5_isCode wsX5_canBeTold := goodIn_r _ [6, 7, 8, 9] (by decide +kernel) (by decide +kernel)
set_option maxRecDepth 20000 in
theorem gX5_isCode_X5_canBeTold : GoodIn wsX5_isCode (va_wsS RX5 42 yX5_canBeTold wsX5_canBeTold) := goodIn_app (goodIn_of _ (by decide +kernel)) ggX5_isCode_X5_canBeTold
theorem dX5_isCode_0 : decode cX5_isCode 0 = .ok (.lload_n 0, 1) := by decide +kernel
theorem dX5_isCode_1 : decode cX5_isCode 1 = .ok (.ldc2_w 38, 3) := by decide +kernel
theorem dX5_isCode_4 : decode cX5_isCode 4 = .ok (.lcmp, 1) := by decide +kernel
theorem dX5_isCode_5 : decode cX5_isCode 5 = .ok (.ifCond .ne 5, 3) := by decide +kernel
theorem dX5_isCode_8 : decode cX5_isCode 8 = .ok (.iconst 1, 1) := by decide +kernel
theorem dX5_isCode_9 : decode cX5_isCode 9 = .ok (.ireturn, 1) := by decide +kernel
theorem dX5_isCode_10 : decode cX5_isCode 10 = .ok (.lload_n 0, 1) := by decide +kernel
theorem dX5_isCode_11 : decode cX5_isCode 11 = .ok (.lconst 0, 1) := by decide +kernel
theorem dX5_isCode_12 : decode cX5_isCode 12 = .ok (.lcmp, 1) := by decide +kernel
theorem dX5_isCode_13 : decode cX5_isCode 13 = .ok (.ifCond .lt 11, 3) := by decide +kernel
theorem dX5_isCode_16 : decode cX5_isCode 16 = .ok (.lload_n 0, 1) := by decide +kernel
theorem dX5_isCode_17 : decode cX5_isCode 17 = .ok (.ldc2_w 40, 3) := by decide +kernel
theorem dX5_isCode_20 : decode cX5_isCode 20 = .ok (.lcmp, 1) := by decide +kernel
theorem dX5_isCode_21 : decode cX5_isCode 21 = .ok (.ifCond .le 5, 3) := by decide +kernel
theorem dX5_isCode_24 : decode cX5_isCode 24 = .ok (.iconst 0, 1) := by decide +kernel
theorem dX5_isCode_25 : decode cX5_isCode 25 = .ok (.ireturn, 1) := by decide +kernel
theorem dX5_isCode_26 : decode cX5_isCode 26 = .ok (.lload_n 0, 1) := by decide +kernel
theorem dX5_isCode_27 : decode cX5_isCode 27 = .ok (.l2i, 1) := by decide +kernel
theorem dX5_isCode_28 : decode cX5_isCode 28 = .ok (.istore_n 2, 1) := by decide +kernel
theorem dX5_isCode_29 : decode cX5_isCode 29 = .ok (.iload_n 2, 1) := by decide +kernel
theorem dX5_isCode_30 : decode cX5_isCode 30 = .ok (.sipush 1000, 3) := by decide +kernel
theorem dX5_isCode_33 : decode cX5_isCode 33 = .ok (.idiv, 1) := by decide +kernel
theorem dX5_isCode_34 : decode cX5_isCode 34 = .ok (.iload_n 2, 1) := by decide +kernel
theorem dX5_isCode_35 : decode cX5_isCode 35 = .ok (.sipush 1000, 3) := by decide +kernel
theorem dX5_isCode_38 : decode cX5_isCode 38 = .ok (.irem, 1) := by decide +kernel
theorem dX5_isCode_39 : decode cX5_isCode 39 = .ok (.invokestatic 42, 3) := by decide +kernel
theorem dX5_isCode_42 : decode cX5_isCode 42 = .ok (.ireturn, 1) := by decide +kernel
theorem dX5_addEye_0 : decode cX5_addEye 0 = .ok (.aload_n 0, 1) := by decide +kernel
theorem dX5_addEye_1 : decode cX5_addEye 1 = .ok (.dup, 1) := by decide +kernel
theorem dX5_addEye_2 : decode cX5_addEye 2 = .ok (.getfield 27, 3) := by decide +kernel
theorem dX5_addEye_5 : decode cX5_addEye 5 = .ok (.iconst 1, 1) := by decide +kernel
theorem dX5_addEye_6 : decode cX5_addEye 6 = .ok (.iadd, 1) := by decide +kernel
theorem dX5_addEye_7 : decode cX5_addEye 7 = .ok (.putfield 27, 3) := by decide +kernel
theorem dX5_addEye_10 : decode cX5_addEye 10 = .ok (.aload_n 0, 1) := by decide +kernel
theorem dX5_addEye_11 : decode cX5_addEye 11 = .ok (.getfield 27, 3) := by decide +kernel
theorem dX5_addEye_14 : decode cX5_addEye 14 = .ok (.iconst 1, 1) := by decide +kernel
theorem dX5_addEye_15 : decode cX5_addEye 15 = .ok (.isub, 1) := by decide +kernel
theorem dX5_addEye_16 : decode cX5_addEye 16 = .ok (.ireturn, 1) := by decide +kernel
theorem dX5_has_0 : decode cX5_has 0 = .ok (.aload_n 0, 1) := by decide +kernel
theorem dX5_has_1 : decode cX5_has 1 = .ok (.getfield 9, 3) := by decide +kernel
theorem dX5_has_4 : decode cX5_has 4 = .ok (.iload_n 1, 1) := by decide +kernel
theorem dX5_has_5 : decode cX5_has 5 = .ok (.sipush 240, 3) := by decide +kernel
theorem dX5_has_8 : decode cX5_has 8 = .ok (.imul, 1) := by decide +kernel
theorem dX5_has_9 : decode cX5_has 9 = .ok (.iload_n 2, 1) := by decide +kernel
theorem dX5_has_10 : decode cX5_has 10 = .ok (.iadd, 1) := by decide +kernel
theorem dX5_has_11 : decode cX5_has 11 = .ok (.iaload, 1) := by decide +kernel
theorem dX5_has_12 : decode cX5_has 12 = .ok (.iconst (-1), 1) := by decide +kernel
theorem dX5_has_13 : decode cX5_has 13 = .ok (.if_icmp .eq 7, 3) := by decide +kernel
theorem dX5_has_16 : decode cX5_has 16 = .ok (.iconst 1, 1) := by decide +kernel
theorem dX5_has_17 : decode cX5_has 17 = .ok (.goto 4, 3) := by decide +kernel
theorem dX5_has_20 : decode cX5_has 20 = .ok (.iconst 0, 1) := by decide +kernel
theorem dX5_has_21 : decode cX5_has 21 = .ok (.ireturn, 1) := by decide +kernel
set_option maxRecDepth 20000 in
theorem ggX5_haveBoth_X5_has : GoodIn wsX5_haveBoth wsX5_has := goodIn_r _ [5, 6, 7, 8, 9, 10, 11] (by decide +kernel) (by decide +kernel)
set_option maxRecDepth 20000 in
theorem gX5_haveBoth_X5_has : GoodIn wsX5_haveBoth (wsV RX5 45 RX5 yX5_has wsX5_has) := goodIn_app (goodIn_of _ (by decide +kernel)) ggX5_haveBoth_X5_has
theorem dX5_haveBoth_0 : decode cX5_haveBoth 0 = .ok (.aload_n 0, 1) := by decide +kernel
theorem dX5_haveBoth_1 : decode cX5_haveBoth 1 = .ok (.iload_n 1, 1) := by decide +kernel
theorem dX5_haveBoth_2 : decode cX5_haveBoth 2 = .ok (.iload_n 3, 1) := by decide +kernel
theorem dX5_haveBoth_3 : decode cX5_haveBoth 3 = .ok (.invokevirtual 45, 3) := by decide +kernel
theorem dX5_haveBoth_6 : decode cX5_haveBoth 6 = .ok (.ifCond .eq 16, 3) := by decide +kernel
theorem dX5_haveBoth_9 : decode cX5_haveBoth 9 = .ok (.aload_n 0, 1) := by decide +kernel
theorem dX5_haveBoth_10 : decode cX5_haveBoth 10 = .ok (.iload_n 2, 1) := by decide +kernel
theorem dX5_haveBoth_11 : decode cX5_haveBoth 11 = .ok (.iload_n 3, 1) := by decide +kernel
theorem dX5_haveBoth_12 : decode cX5_haveBoth 12 = .ok (.invokevirtual 45, 3) := by decide +kernel
theorem dX5_haveBoth_15 : decode cX5_haveBoth 15 = .ok (.ifCond .eq 7, 3) := by decide +kernel
theorem dX5_haveBoth_18 : decode cX5_haveBoth 18 = .ok (.iconst 1, 1) := by decide +kernel
theorem dX5_haveBoth_19 : decode cX5_haveBoth 19 = .ok (.goto 4, 3) := by decide +kernel
theorem dX5_haveBoth_22 : decode cX5_haveBoth 22 = .ok (.iconst 0, 1) := by decide +kernel
theorem dX5_haveBoth_23 : decode cX5_haveBoth 23 = .ok (.ireturn, 1) := by decide +kernel
theorem dX5_groupsOf_0 : decode cX5_groupsOf 0 = .ok (.aload_n 0, 1) := by decide +kernel
theorem dX5_groupsOf_1 : decode cX5_groupsOf 1 = .ok (.getfield 9, 3) := by decide +kernel
theorem dX5_groupsOf_4 : decode cX5_groupsOf 4 = .ok (.iload_n 1, 1) := by decide +kernel
theorem dX5_groupsOf_5 : decode cX5_groupsOf 5 = .ok (.sipush 240, 3) := by decide +kernel
theorem dX5_groupsOf_8 : decode cX5_groupsOf 8 = .ok (.imul, 1) := by decide +kernel
theorem dX5_groupsOf_9 : decode cX5_groupsOf 9 = .ok (.iload_n 2, 1) := by decide +kernel
theorem dX5_groupsOf_10 : decode cX5_groupsOf 10 = .ok (.iadd, 1) := by decide +kernel
theorem dX5_groupsOf_11 : decode cX5_groupsOf 11 = .ok (.iaload, 1) := by decide +kernel
theorem dX5_groupsOf_12 : decode cX5_groupsOf 12 = .ok (.sipush 1000, 3) := by decide +kernel
theorem dX5_groupsOf_15 : decode cX5_groupsOf 15 = .ok (.idiv, 1) := by decide +kernel
theorem dX5_groupsOf_16 : decode cX5_groupsOf 16 = .ok (.ireturn, 1) := by decide +kernel
theorem dX5_spotsOf_0 : decode cX5_spotsOf 0 = .ok (.aload_n 0, 1) := by decide +kernel
theorem dX5_spotsOf_1 : decode cX5_spotsOf 1 = .ok (.getfield 9, 3) := by decide +kernel
theorem dX5_spotsOf_4 : decode cX5_spotsOf 4 = .ok (.iload_n 1, 1) := by decide +kernel
theorem dX5_spotsOf_5 : decode cX5_spotsOf 5 = .ok (.sipush 240, 3) := by decide +kernel
theorem dX5_spotsOf_8 : decode cX5_spotsOf 8 = .ok (.imul, 1) := by decide +kernel
theorem dX5_spotsOf_9 : decode cX5_spotsOf 9 = .ok (.iload_n 2, 1) := by decide +kernel
theorem dX5_spotsOf_10 : decode cX5_spotsOf 10 = .ok (.iadd, 1) := by decide +kernel
theorem dX5_spotsOf_11 : decode cX5_spotsOf 11 = .ok (.iaload, 1) := by decide +kernel
theorem dX5_spotsOf_12 : decode cX5_spotsOf 12 = .ok (.sipush 1000, 3) := by decide +kernel
theorem dX5_spotsOf_15 : decode cX5_spotsOf 15 = .ok (.irem, 1) := by decide +kernel
theorem dX5_spotsOf_16 : decode cX5_spotsOf 16 = .ok (.ireturn, 1) := by decide +kernel
set_option maxRecDepth 20000 in
theorem ggX5_numberOf_X5_groupsOf : GoodIn wsX5_numberOf wsX5_groupsOf := goodIn_r _ [5, 6, 11, 12, 13, 14, 15] (by decide +kernel) (by decide +kernel)
set_option maxRecDepth 20000 in
theorem gX5_numberOf_X5_groupsOf : GoodIn wsX5_numberOf (wsV RX5 48 RX5 yX5_groupsOf wsX5_groupsOf) := goodIn_app (goodIn_of _ (by decide +kernel)) ggX5_numberOf_X5_groupsOf
set_option maxRecDepth 20000 in
theorem ggX5_numberOf_X5_spotsOf : GoodIn wsX5_numberOf wsX5_spotsOf := goodIn_r _ [10, 6, 11, 12, 13, 14, 15] (by decide +kernel) (by decide +kernel)
set_option maxRecDepth 20000 in
theorem gX5_numberOf_X5_spotsOf : GoodIn wsX5_numberOf (wsV RX5 52 RX5 yX5_spotsOf wsX5_spotsOf) := goodIn_app (goodIn_of _ (by decide +kernel)) ggX5_numberOf_X5_spotsOf
theorem dX5_numberOf_0 : decode cX5_numberOf 0 = .ok (.bipush 10, 2) := by decide +kernel
theorem dX5_numberOf_2 : decode cX5_numberOf 2 = .ok (.aload_n 0, 1) := by decide +kernel
theorem dX5_numberOf_3 : decode cX5_numberOf 3 = .ok (.iload_n 1, 1) := by decide +kernel
theorem dX5_numberOf_4 : decode cX5_numberOf 4 = .ok (.iload_n 2, 1) := by decide +kernel
theorem dX5_numberOf_5 : decode cX5_numberOf 5 = .ok (.invokevirtual 48, 3) := by decide +kernel
theorem dX5_numberOf_8 : decode cX5_numberOf 8 = .ok (.imul, 1) := by decide +kernel
theorem dX5_numberOf_9 : decode cX5_numberOf 9 = .ok (.aload_n 0, 1) := by decide +kernel
theorem dX5_numberOf_10 : decode cX5_numberOf 10 = .ok (.iload_n 1, 1) := by decide +kernel
theorem dX5_numberOf_11 : decode cX5_numberOf 11 = .ok (.iload_n 2, 1) := by decide +kernel
theorem dX5_numberOf_12 : decode cX5_numberOf 12 = .ok (.invokevirtual 52, 3) := by decide +kernel
theorem dX5_numberOf_15 : decode cX5_numberOf 15 = .ok (.iadd, 1) := by decide +kernel
theorem dX5_numberOf_16 : decode cX5_numberOf 16 = .ok (.ireturn, 1) := by decide +kernel
set_option maxRecDepth 20000 in
theorem ggX5_put_X5_countIn : GoodIn wsX5_put wsX5_countIn := goodIn_r _ [6, 7, 8, 9, 10, 11, 12, 5, 13, 1, 14, 15, 16, 17, 18, 19, 20, 21, 22, 23, 24, 25, 26, 27, 28, 29, 30] (by decide +kernel) (by decide +kernel)
set_option maxRecDepth 20000 in
theorem gX5_put_X5_countIn : GoodIn wsX5_put (wsV RX5 55 RX5 yX5_countIn wsX5_countIn) := goodIn_app (goodIn_of _ (by decide +kernel)) ggX5_put_X5_countIn
theorem dX5_put_0 : decode cX5_put 0 = .ok (.aload_n 0, 1) := by decide +kernel
theorem dX5_put_1 : decode cX5_put 1 = .ok (.iload_n 1, 1) := by decide +kernel
theorem dX5_put_2 : decode cX5_put 2 = .ok (.iload_n 2, 1) := by decide +kernel
theorem dX5_put_3 : decode cX5_put 3 = .ok (.iconst (-1), 1) := by decide +kernel
theorem dX5_put_4 : decode cX5_put 4 = .ok (.invokevirtual 55, 3) := by decide +kernel
theorem dX5_put_7 : decode cX5_put 7 = .ok (.aload_n 0, 1) := by decide +kernel
theorem dX5_put_8 : decode cX5_put 8 = .ok (.getfield 9, 3) := by decide +kernel
theorem dX5_put_11 : decode cX5_put 11 = .ok (.iload_n 1, 1) := by decide +kernel
theorem dX5_put_12 : decode cX5_put 12 = .ok (.sipush 240, 3) := by decide +kernel
theorem dX5_put_15 : decode cX5_put 15 = .ok (.imul, 1) := by decide +kernel
theorem dX5_put_16 : decode cX5_put 16 = .ok (.iload_n 2, 1) := by decide +kernel
theorem dX5_put_17 : decode cX5_put 17 = .ok (.iadd, 1) := by decide +kernel
theorem dX5_put_18 : decode cX5_put 18 = .ok (.iload_n 3, 1) := by decide +kernel
theorem dX5_put_19 : decode cX5_put 19 = .ok (.iastore, 1) := by decide +kernel
theorem dX5_put_20 : decode cX5_put 20 = .ok (.aload_n 0, 1) := by decide +kernel
theorem dX5_put_21 : decode cX5_put 21 = .ok (.iload_n 1, 1) := by decide +kernel
theorem dX5_put_22 : decode cX5_put 22 = .ok (.iload_n 2, 1) := by decide +kernel
theorem dX5_put_23 : decode cX5_put 23 = .ok (.iconst 1, 1) := by decide +kernel
theorem dX5_put_24 : decode cX5_put 24 = .ok (.invokevirtual 55, 3) := by decide +kernel
theorem dX5_put_27 : decode cX5_put 27 = .ok (.return_, 1) := by decide +kernel
set_option maxRecDepth 20000 in
theorem ggX5_countIn_X5_has : GoodIn wsX5_countIn wsX5_has := goodIn_r _ [8, 9, 22, 23, 24, 25, 26] (by decide +kernel) (by decide +kernel)
set_option maxRecDepth 20000 in
theorem gX5_countIn_X5_has : GoodIn wsX5_countIn (wsV RX5 45 RX5 yX5_has wsX5_has) := goodIn_app (goodIn_of _ (by decide +kernel)) ggX5_countIn_X5_has
set_option maxRecDepth 20000 in
theorem ggX5_countIn_X5_numberOf : GoodIn wsX5_countIn wsX5_numberOf := goodIn_r _ [13, 14, 15, 16, 7, 17, 9, 18, 19, 20, 21, 22, 23, 24, 25, 26] (by decide +kernel) (by decide +kernel)
set_option maxRecDepth 20000 in
theorem gX5_countIn_X5_numberOf : GoodIn wsX5_countIn (wsV RX5 59 RX5 yX5_numberOf wsX5_numberOf) := goodIn_app (goodIn_of _ (by decide +kernel)) ggX5_countIn_X5_numberOf
theorem dX5_countIn_0 : decode cX5_countIn 0 = .ok (.aload_n 0, 1) := by decide +kernel
theorem dX5_countIn_1 : decode cX5_countIn 1 = .ok (.iload_n 1, 1) := by decide +kernel
theorem dX5_countIn_2 : decode cX5_countIn 2 = .ok (.iload_n 2, 1) := by decide +kernel
theorem dX5_countIn_3 : decode cX5_countIn 3 = .ok (.invokevirtual 45, 3) := by decide +kernel
theorem dX5_countIn_6 : decode cX5_countIn 6 = .ok (.ifCond .ne 4, 3) := by decide +kernel
theorem dX5_countIn_9 : decode cX5_countIn 9 = .ok (.return_, 1) := by decide +kernel
theorem dX5_countIn_10 : decode cX5_countIn 10 = .ok (.iconst 0, 1) := by decide +kernel
theorem dX5_countIn_11 : decode cX5_countIn 11 = .ok (.istore 4, 2) := by decide +kernel
theorem dX5_countIn_13 : decode cX5_countIn 13 = .ok (.iload 4, 2) := by decide +kernel
theorem dX5_countIn_15 : decode cX5_countIn 15 = .ok (.aload_n 0, 1) := by decide +kernel
theorem dX5_countIn_16 : decode cX5_countIn 16 = .ok (.getfield 27, 3) := by decide +kernel
theorem dX5_countIn_19 : decode cX5_countIn 19 = .ok (.if_icmp .ge 102, 3) := by decide +kernel
theorem dX5_countIn_22 : decode cX5_countIn 22 = .ok (.iload 4, 2) := by decide +kernel
theorem dX5_countIn_24 : decode cX5_countIn 24 = .ok (.iload_n 1, 1) := by decide +kernel
theorem dX5_countIn_25 : decode cX5_countIn 25 = .ok (.if_icmp .eq 90, 3) := by decide +kernel
theorem dX5_countIn_28 : decode cX5_countIn 28 = .ok (.aload_n 0, 1) := by decide +kernel
theorem dX5_countIn_29 : decode cX5_countIn 29 = .ok (.iload 4, 2) := by decide +kernel
theorem dX5_countIn_31 : decode cX5_countIn 31 = .ok (.iload_n 2, 1) := by decide +kernel
theorem dX5_countIn_32 : decode cX5_countIn 32 = .ok (.invokevirtual 45, 3) := by decide +kernel
theorem dX5_countIn_35 : decode cX5_countIn 35 = .ok (.ifCond .eq 80, 3) := by decide +kernel
theorem dX5_countIn_38 : decode cX5_countIn 38 = .ok (.iload_n 1, 1) := by decide +kernel
theorem dX5_countIn_39 : decode cX5_countIn 39 = .ok (.bipush 8, 2) := by decide +kernel
theorem dX5_countIn_41 : decode cX5_countIn 41 = .ok (.imul, 1) := by decide +kernel
theorem dX5_countIn_42 : decode cX5_countIn 42 = .ok (.iload 4, 2) := by decide +kernel
theorem dX5_countIn_44 : decode cX5_countIn 44 = .ok (.iadd, 1) := by decide +kernel
theorem dX5_countIn_45 : decode cX5_countIn 45 = .ok (.istore 5, 2) := by decide +kernel
theorem dX5_countIn_47 : decode cX5_countIn 47 = .ok (.iload 4, 2) := by decide +kernel
theorem dX5_countIn_49 : decode cX5_countIn 49 = .ok (.bipush 8, 2) := by decide +kernel
theorem dX5_countIn_51 : decode cX5_countIn 51 = .ok (.imul, 1) := by decide +kernel
theorem dX5_countIn_52 : decode cX5_countIn 52 = .ok (.iload_n 1, 1) := by decide +kernel
theorem dX5_countIn_53 : decode cX5_countIn 53 = .ok (.iadd, 1) := by decide +kernel
theorem dX5_countIn_54 : decode cX5_countIn 54 = .ok (.istore 6, 2) := by decide +kernel
theorem dX5_countIn_56 : decode cX5_countIn 56 = .ok (.aload_n 0, 1) := by decide +kernel
theorem dX5_countIn_57 : decode cX5_countIn 57 = .ok (.getfield 15, 3) := by decide +kernel
theorem dX5_countIn_60 : decode cX5_countIn 60 = .ok (.iload 5, 2) := by decide +kernel
theorem dX5_countIn_62 : decode cX5_countIn 62 = .ok (.dup2, 1) := by decide +kernel
theorem dX5_countIn_63 : decode cX5_countIn 63 = .ok (.iaload, 1) := by decide +kernel
theorem dX5_countIn_64 : decode cX5_countIn 64 = .ok (.iload_n 3, 1) := by decide +kernel
theorem dX5_countIn_65 : decode cX5_countIn 65 = .ok (.iadd, 1) := by decide +kernel
theorem dX5_countIn_66 : decode cX5_countIn 66 = .ok (.iastore, 1) := by decide +kernel
theorem dX5_countIn_67 : decode cX5_countIn 67 = .ok (.aload_n 0, 1) := by decide +kernel
theorem dX5_countIn_68 : decode cX5_countIn 68 = .ok (.getfield 15, 3) := by decide +kernel
theorem dX5_countIn_71 : decode cX5_countIn 71 = .ok (.iload 6, 2) := by decide +kernel
theorem dX5_countIn_73 : decode cX5_countIn 73 = .ok (.dup2, 1) := by decide +kernel
theorem dX5_countIn_74 : decode cX5_countIn 74 = .ok (.iaload, 1) := by decide +kernel
theorem dX5_countIn_75 : decode cX5_countIn 75 = .ok (.iload_n 3, 1) := by decide +kernel
theorem dX5_countIn_76 : decode cX5_countIn 76 = .ok (.iadd, 1) := by decide +kernel
theorem dX5_countIn_77 : decode cX5_countIn 77 = .ok (.iastore, 1) := by decide +kernel
theorem dX5_countIn_78 : decode cX5_countIn 78 = .ok (.aload_n 0, 1) := by decide +kernel
theorem dX5_countIn_79 : decode cX5_countIn 79 = .ok (.getfield 18, 3) := by decide +kernel
theorem dX5_countIn_82 : decode cX5_countIn 82 = .ok (.iload 5, 2) := by decide +kernel
theorem dX5_countIn_84 : decode cX5_countIn 84 = .ok (.dup2, 1) := by decide +kernel
theorem dX5_countIn_85 : decode cX5_countIn 85 = .ok (.iaload, 1) := by decide +kernel
theorem dX5_countIn_86 : decode cX5_countIn 86 = .ok (.iload_n 3, 1) := by decide +kernel
theorem dX5_countIn_87 : decode cX5_countIn 87 = .ok (.aload_n 0, 1) := by decide +kernel
theorem dX5_countIn_88 : decode cX5_countIn 88 = .ok (.iload_n 1, 1) := by decide +kernel
theorem dX5_countIn_89 : decode cX5_countIn 89 = .ok (.iload_n 2, 1) := by decide +kernel
theorem dX5_countIn_90 : decode cX5_countIn 90 = .ok (.invokevirtual 59, 3) := by decide +kernel
theorem dX5_countIn_93 : decode cX5_countIn 93 = .ok (.imul, 1) := by decide +kernel
theorem dX5_countIn_94 : decode cX5_countIn 94 = .ok (.iadd, 1) := by decide +kernel
theorem dX5_countIn_95 : decode cX5_countIn 95 = .ok (.iastore, 1) := by decide +kernel
theorem dX5_countIn_96 : decode cX5_countIn 96 = .ok (.aload_n 0, 1) := by decide +kernel
theorem dX5_countIn_97 : decode cX5_countIn 97 = .ok (.getfield 18, 3) := by decide +kernel
theorem dX5_countIn_100 : decode cX5_countIn 100 = .ok (.iload 6, 2) := by decide +kernel
theorem dX5_countIn_102 : decode cX5_countIn 102 = .ok (.dup2, 1) := by decide +kernel
theorem dX5_countIn_103 : decode cX5_countIn 103 = .ok (.iaload, 1) := by decide +kernel
theorem dX5_countIn_104 : decode cX5_countIn 104 = .ok (.iload_n 3, 1) := by decide +kernel
theorem dX5_countIn_105 : decode cX5_countIn 105 = .ok (.aload_n 0, 1) := by decide +kernel
theorem dX5_countIn_106 : decode cX5_countIn 106 = .ok (.iload 4, 2) := by decide +kernel
theorem dX5_countIn_108 : decode cX5_countIn 108 = .ok (.iload_n 2, 1) := by decide +kernel
theorem dX5_countIn_109 : decode cX5_countIn 109 = .ok (.invokevirtual 59, 3) := by decide +kernel
theorem dX5_countIn_112 : decode cX5_countIn 112 = .ok (.imul, 1) := by decide +kernel
theorem dX5_countIn_113 : decode cX5_countIn 113 = .ok (.iadd, 1) := by decide +kernel
theorem dX5_countIn_114 : decode cX5_countIn 114 = .ok (.iastore, 1) := by decide +kernel
theorem dX5_countIn_115 : decode cX5_countIn 115 = .ok (.iinc 4 1, 3) := by decide +kernel
theorem dX5_countIn_118 : decode cX5_countIn 118 = .ok (.goto (-105), 3) := by decide +kernel
theorem dX5_countIn_121 : decode cX5_countIn 121 = .ok (.return_, 1) := by decide +kernel
set_option maxRecDepth 20000 in
theorem ggX5_countDays_X5_has : GoodIn wsX5_countDays wsX5_has := goodIn_r _ [5, 6, 7, 8, 9, 10, 11] (by decide +kernel) (by decide +kernel)
set_option maxRecDepth 20000 in
theorem gX5_countDays_X5_has : GoodIn wsX5_countDays (wsV RX5 45 RX5 yX5_has wsX5_has) := goodIn_app (goodIn_of _ (by decide +kernel)) ggX5_countDays_X5_has
theorem dX5_countDays_0 : decode cX5_countDays 0 = .ok (.iconst 0, 1) := by decide +kernel
theorem dX5_countDays_1 : decode cX5_countDays 1 = .ok (.istore 4, 2) := by decide +kernel
theorem dX5_countDays_3 : decode cX5_countDays 3 = .ok (.iload_n 2, 1) := by decide +kernel
theorem dX5_countDays_4 : decode cX5_countDays 4 = .ok (.istore 5, 2) := by decide +kernel
theorem dX5_countDays_6 : decode cX5_countDays 6 = .ok (.iload 5, 2) := by decide +kernel
theorem dX5_countDays_8 : decode cX5_countDays 8 = .ok (.iload_n 3, 1) := by decide +kernel
theorem dX5_countDays_9 : decode cX5_countDays 9 = .ok (.if_icmp .gt 22, 3) := by decide +kernel
theorem dX5_countDays_12 : decode cX5_countDays 12 = .ok (.aload_n 0, 1) := by decide +kernel
theorem dX5_countDays_13 : decode cX5_countDays 13 = .ok (.iload_n 1, 1) := by decide +kernel
theorem dX5_countDays_14 : decode cX5_countDays 14 = .ok (.iload 5, 2) := by decide +kernel
theorem dX5_countDays_16 : decode cX5_countDays 16 = .ok (.invokevirtual 45, 3) := by decide +kernel
theorem dX5_countDays_19 : decode cX5_countDays 19 = .ok (.ifCond .eq 6, 3) := by decide +kernel
theorem dX5_countDays_22 : decode cX5_countDays 22 = .ok (.iinc 4 1, 3) := by decide +kernel
theorem dX5_countDays_25 : decode cX5_countDays 25 = .ok (.iinc 5 1, 3) := by decide +kernel
theorem dX5_countDays_28 : decode cX5_countDays 28 = .ok (.goto (-22), 3) := by decide +kernel
theorem dX5_countDays_31 : decode cX5_countDays 31 = .ok (.iload 4, 2) := by decide +kernel
theorem dX5_countDays_33 : decode cX5_countDays 33 = .ok (.ireturn, 1) := by decide +kernel
set_option maxRecDepth 20000 in
theorem ggX5_countActive_X5_has : GoodIn wsX5_countActive wsX5_has := goodIn_r _ [5, 6, 11, 12, 13, 14, 15] (by decide +kernel) (by decide +kernel)
set_option maxRecDepth 20000 in
theorem gX5_countActive_X5_has : GoodIn wsX5_countActive (wsV RX5 45 RX5 yX5_has wsX5_has) := goodIn_app (goodIn_of _ (by decide +kernel)) ggX5_countActive_X5_has
set_option maxRecDepth 20000 in
theorem ggX5_countActive_X5_groupsOf : GoodIn wsX5_countActive wsX5_groupsOf := goodIn_r _ [10, 6, 11, 12, 13, 14, 15] (by decide +kernel) (by decide +kernel)
set_option maxRecDepth 20000 in
theorem gX5_countActive_X5_groupsOf : GoodIn wsX5_countActive (wsV RX5 48 RX5 yX5_groupsOf wsX5_groupsOf) := goodIn_app (goodIn_of _ (by decide +kernel)) ggX5_countActive_X5_groupsOf
theorem dX5_countActive_0 : decode cX5_countActive 0 = .ok (.iconst 0, 1) := by decide +kernel
theorem dX5_countActive_1 : decode cX5_countActive 1 = .ok (.istore 4, 2) := by decide +kernel
theorem dX5_countActive_3 : decode cX5_countActive 3 = .ok (.iload_n 2, 1) := by decide +kernel
theorem dX5_countActive_4 : decode cX5_countActive 4 = .ok (.istore 5, 2) := by decide +kernel
theorem dX5_countActive_6 : decode cX5_countActive 6 = .ok (.iload 5, 2) := by decide +kernel
theorem dX5_countActive_8 : decode cX5_countActive 8 = .ok (.iload_n 3, 1) := by decide +kernel
theorem dX5_countActive_9 : decode cX5_countActive 9 = .ok (.if_icmp .gt 32, 3) := by decide +kernel
theorem dX5_countActive_12 : decode cX5_countActive 12 = .ok (.aload_n 0, 1) := by decide +kernel
theorem dX5_countActive_13 : decode cX5_countActive 13 = .ok (.iload_n 1, 1) := by decide +kernel
theorem dX5_countActive_14 : decode cX5_countActive 14 = .ok (.iload 5, 2) := by decide +kernel
theorem dX5_countActive_16 : decode cX5_countActive 16 = .ok (.invokevirtual 45, 3) := by decide +kernel
theorem dX5_countActive_19 : decode cX5_countActive 19 = .ok (.ifCond .eq 16, 3) := by decide +kernel
theorem dX5_countActive_22 : decode cX5_countActive 22 = .ok (.aload_n 0, 1) := by decide +kernel
theorem dX5_countActive_23 : decode cX5_countActive 23 = .ok (.iload_n 1, 1) := by decide +kernel
theorem dX5_countActive_24 : decode cX5_countActive 24 = .ok (.iload 5, 2) := by decide +kernel
theorem dX5_countActive_26 : decode cX5_countActive 26 = .ok (.invokevirtual 48, 3) := by decide +kernel
theorem dX5_countActive_29 : decode cX5_countActive 29 = .ok (.ifCond .le 6, 3) := by decide +kernel
theorem dX5_countActive_32 : decode cX5_countActive 32 = .ok (.iinc 4 1, 3) := by decide +kernel
theorem dX5_countActive_35 : decode cX5_countActive 35 = .ok (.iinc 5 1, 3) := by decide +kernel
theorem dX5_countActive_38 : decode cX5_countActive 38 = .ok (.goto (-32), 3) := by decide +kernel
theorem dX5_countActive_41 : decode cX5_countActive 41 = .ok (.iload 4, 2) := by decide +kernel
theorem dX5_countActive_43 : decode cX5_countActive 43 = .ok (.ireturn, 1) := by decide +kernel
theorem dX5_countBoth_0 : decode cX5_countBoth 0 = .ok (.aload_n 0, 1) := by decide +kernel
theorem dX5_countBoth_1 : decode cX5_countBoth 1 = .ok (.getfield 15, 3) := by decide +kernel
theorem dX5_countBoth_4 : decode cX5_countBoth 4 = .ok (.iload_n 1, 1) := by decide +kernel
theorem dX5_countBoth_5 : decode cX5_countBoth 5 = .ok (.bipush 8, 2) := by decide +kernel
theorem dX5_countBoth_7 : decode cX5_countBoth 7 = .ok (.imul, 1) := by decide +kernel
theorem dX5_countBoth_8 : decode cX5_countBoth 8 = .ok (.iload_n 2, 1) := by decide +kernel
theorem dX5_countBoth_9 : decode cX5_countBoth 9 = .ok (.iadd, 1) := by decide +kernel
theorem dX5_countBoth_10 : decode cX5_countBoth 10 = .ok (.iaload, 1) := by decide +kernel
theorem dX5_countBoth_11 : decode cX5_countBoth 11 = .ok (.ireturn, 1) := by decide +kernel
set_option maxRecDepth 20000 in
theorem ggX5_countBothAbove_X5_haveBoth : GoodIn wsX5_countBothAbove wsX5_haveBoth := goodIn_r _ [5, 6, 7, 8, 4, 9, 10, 15, 16, 17, 18, 19] (by decide +kernel) (by decide +kernel)
set_option maxRecDepth 20000 in
theorem gX5_countBothAbove_X5_haveBoth : GoodIn wsX5_countBothAbove (wsV RX5 62 RX5 yX5_haveBoth wsX5_haveBoth) := goodIn_app (goodIn_of _ (by decide +kernel)) ggX5_countBothAbove_X5_haveBoth
set_option maxRecDepth 20000 in
theorem ggX5_countBothAbove_X5_groupsOf : GoodIn wsX5_countBothAbove wsX5_groupsOf := goodIn_r _ [14, 10, 15, 16, 17, 18, 19] (by decide +kernel) (by decide +kernel)
set_option maxRecDepth 20000 in
theorem gX5_countBothAbove_X5_groupsOf : GoodIn wsX5_countBothAbove (wsV RX5 48 RX5 yX5_groupsOf wsX5_groupsOf) := goodIn_app (goodIn_of _ (by decide +kernel)) ggX5_countBothAbove_X5_groupsOf
theorem dX5_countBothAbove_0 : decode cX5_countBothAbove 0 = .ok (.iconst 0, 1) := by decide +kernel
theorem dX5_countBothAbove_1 : decode cX5_countBothAbove 1 = .ok (.istore 4, 2) := by decide +kernel
theorem dX5_countBothAbove_3 : decode cX5_countBothAbove 3 = .ok (.iconst 0, 1) := by decide +kernel
theorem dX5_countBothAbove_4 : decode cX5_countBothAbove 4 = .ok (.istore 5, 2) := by decide +kernel
theorem dX5_countBothAbove_6 : decode cX5_countBothAbove 6 = .ok (.iload 5, 2) := by decide +kernel
theorem dX5_countBothAbove_8 : decode cX5_countBothAbove 8 = .ok (.sipush 240, 3) := by decide +kernel
theorem dX5_countBothAbove_11 : decode cX5_countBothAbove 11 = .ok (.if_icmp .ge 34, 3) := by decide +kernel
theorem dX5_countBothAbove_14 : decode cX5_countBothAbove 14 = .ok (.aload_n 0, 1) := by decide +kernel
theorem dX5_countBothAbove_15 : decode cX5_countBothAbove 15 = .ok (.iload_n 1, 1) := by decide +kernel
theorem dX5_countBothAbove_16 : decode cX5_countBothAbove 16 = .ok (.iload_n 2, 1) := by decide +kernel
theorem dX5_countBothAbove_17 : decode cX5_countBothAbove 17 = .ok (.iload 5, 2) := by decide +kernel
theorem dX5_countBothAbove_19 : decode cX5_countBothAbove 19 = .ok (.invokevirtual 62, 3) := by decide +kernel
theorem dX5_countBothAbove_22 : decode cX5_countBothAbove 22 = .ok (.ifCond .eq 17, 3) := by decide +kernel
theorem dX5_countBothAbove_25 : decode cX5_countBothAbove 25 = .ok (.aload_n 0, 1) := by decide +kernel
theorem dX5_countBothAbove_26 : decode cX5_countBothAbove 26 = .ok (.iload_n 1, 1) := by decide +kernel
theorem dX5_countBothAbove_27 : decode cX5_countBothAbove 27 = .ok (.iload 5, 2) := by decide +kernel
theorem dX5_countBothAbove_29 : decode cX5_countBothAbove 29 = .ok (.invokevirtual 48, 3) := by decide +kernel
theorem dX5_countBothAbove_32 : decode cX5_countBothAbove 32 = .ok (.iload_n 3, 1) := by decide +kernel
theorem dX5_countBothAbove_33 : decode cX5_countBothAbove 33 = .ok (.if_icmp .le 6, 3) := by decide +kernel
theorem dX5_countBothAbove_36 : decode cX5_countBothAbove 36 = .ok (.iinc 4 1, 3) := by decide +kernel
theorem dX5_countBothAbove_39 : decode cX5_countBothAbove 39 = .ok (.iinc 5 1, 3) := by decide +kernel
theorem dX5_countBothAbove_42 : decode cX5_countBothAbove 42 = .ok (.goto (-36), 3) := by decide +kernel
theorem dX5_countBothAbove_45 : decode cX5_countBothAbove 45 = .ok (.iload 4, 2) := by decide +kernel
theorem dX5_countBothAbove_47 : decode cX5_countBothAbove 47 = .ok (.ireturn, 1) := by decide +kernel
theorem dX5_factorOf_0 : decode cX5_factorOf 0 = .ok (.aload_n 0, 1) := by decide +kernel
theorem dX5_factorOf_1 : decode cX5_factorOf 1 = .ok (.getfield 18, 3) := by decide +kernel
theorem dX5_factorOf_4 : decode cX5_factorOf 4 = .ok (.iload_n 1, 1) := by decide +kernel
theorem dX5_factorOf_5 : decode cX5_factorOf 5 = .ok (.bipush 8, 2) := by decide +kernel
theorem dX5_factorOf_7 : decode cX5_factorOf 7 = .ok (.imul, 1) := by decide +kernel
theorem dX5_factorOf_8 : decode cX5_factorOf 8 = .ok (.iload_n 2, 1) := by decide +kernel
theorem dX5_factorOf_9 : decode cX5_factorOf 9 = .ok (.iadd, 1) := by decide +kernel
theorem dX5_factorOf_10 : decode cX5_factorOf 10 = .ok (.iaload, 1) := by decide +kernel
theorem dX5_factorOf_11 : decode cX5_factorOf 11 = .ok (.istore_n 3, 1) := by decide +kernel
theorem dX5_factorOf_12 : decode cX5_factorOf 12 = .ok (.aload_n 0, 1) := by decide +kernel
theorem dX5_factorOf_13 : decode cX5_factorOf 13 = .ok (.getfield 18, 3) := by decide +kernel
theorem dX5_factorOf_16 : decode cX5_factorOf 16 = .ok (.iload_n 2, 1) := by decide +kernel
theorem dX5_factorOf_17 : decode cX5_factorOf 17 = .ok (.bipush 8, 2) := by decide +kernel
theorem dX5_factorOf_19 : decode cX5_factorOf 19 = .ok (.imul, 1) := by decide +kernel
theorem dX5_factorOf_20 : decode cX5_factorOf 20 = .ok (.iload_n 1, 1) := by decide +kernel
theorem dX5_factorOf_21 : decode cX5_factorOf 21 = .ok (.iadd, 1) := by decide +kernel
theorem dX5_factorOf_22 : decode cX5_factorOf 22 = .ok (.iaload, 1) := by decide +kernel
theorem dX5_factorOf_23 : decode cX5_factorOf 23 = .ok (.istore 4, 2) := by decide +kernel
theorem dX5_factorOf_25 : decode cX5_factorOf 25 = .ok (.aload_n 0, 1) := by decide +kernel
theorem dX5_factorOf_26 : decode cX5_factorOf 26 = .ok (.getfield 15, 3) := by decide +kernel
theorem dX5_factorOf_29 : decode cX5_factorOf 29 = .ok (.iload_n 1, 1) := by decide +kernel
theorem dX5_factorOf_30 : decode cX5_factorOf 30 = .ok (.bipush 8, 2) := by decide +kernel
theorem dX5_factorOf_32 : decode cX5_factorOf 32 = .ok (.imul, 1) := by decide +kernel
theorem dX5_factorOf_33 : decode cX5_factorOf 33 = .ok (.iload_n 2, 1) := by decide +kernel
theorem dX5_factorOf_34 : decode cX5_factorOf 34 = .ok (.iadd, 1) := by decide +kernel
theorem dX5_factorOf_35 : decode cX5_factorOf 35 = .ok (.iaload, 1) := by decide +kernel
theorem dX5_factorOf_36 : decode cX5_factorOf 36 = .ok (.aload_n 0, 1) := by decide +kernel
theorem dX5_factorOf_37 : decode cX5_factorOf 37 = .ok (.getfield 31, 3) := by decide +kernel
theorem dX5_factorOf_40 : decode cX5_factorOf 40 = .ok (.if_icmp .lt 12, 3) := by decide +kernel
theorem dX5_factorOf_43 : decode cX5_factorOf 43 = .ok (.iload_n 3, 1) := by decide +kernel
theorem dX5_factorOf_44 : decode cX5_factorOf 44 = .ok (.ifCond .le 8, 3) := by decide +kernel
theorem dX5_factorOf_47 : decode cX5_factorOf 47 = .ok (.iload 4, 2) := by decide +kernel
theorem dX5_factorOf_49 : decode cX5_factorOf 49 = .ok (.ifCond .gt 5, 3) := by decide +kernel
theorem dX5_factorOf_52 : decode cX5_factorOf 52 = .ok (.iconst (-1), 1) := by decide +kernel
theorem dX5_factorOf_53 : decode cX5_factorOf 53 = .ok (.ireturn, 1) := by decide +kernel
theorem dX5_factorOf_54 : decode cX5_factorOf 54 = .ok (.iload 4, 2) := by decide +kernel
theorem dX5_factorOf_56 : decode cX5_factorOf 56 = .ok (.sipush 1000, 3) := by decide +kernel
theorem dX5_factorOf_59 : decode cX5_factorOf 59 = .ok (.imul, 1) := by decide +kernel
theorem dX5_factorOf_60 : decode cX5_factorOf 60 = .ok (.iload_n 3, 1) := by decide +kernel
theorem dX5_factorOf_61 : decode cX5_factorOf 61 = .ok (.idiv, 1) := by decide +kernel
theorem dX5_factorOf_62 : decode cX5_factorOf 62 = .ok (.istore 5, 2) := by decide +kernel
theorem dX5_factorOf_64 : decode cX5_factorOf 64 = .ok (.iload 5, 2) := by decide +kernel
theorem dX5_factorOf_66 : decode cX5_factorOf 66 = .ok (.bipush 10, 2) := by decide +kernel
theorem dX5_factorOf_68 : decode cX5_factorOf 68 = .ok (.if_icmp .lt 15, 3) := by decide +kernel
theorem dX5_factorOf_71 : decode cX5_factorOf 71 = .ok (.iload 5, 2) := by decide +kernel
theorem dX5_factorOf_73 : decode cX5_factorOf 73 = .ok (.ldc 66, 2) := by decide +kernel
theorem dX5_factorOf_75 : decode cX5_factorOf 75 = .ok (.if_icmp .gt 8, 3) := by decide +kernel
theorem dX5_factorOf_78 : decode cX5_factorOf 78 = .ok (.iload 5, 2) := by decide +kernel
theorem dX5_factorOf_80 : decode cX5_factorOf 80 = .ok (.goto 4, 3) := by decide +kernel
theorem dX5_factorOf_83 : decode cX5_factorOf 83 = .ok (.iconst (-1), 1) := by decide +kernel
theorem dX5_factorOf_84 : decode cX5_factorOf 84 = .ok (.ireturn, 1) := by decide +kernel
set_option maxRecDepth 20000 in
theorem ggX6_init_J7_fill_53178 : GoodIn wsX6_init wsJ7_fill_53178 := goodIn_r _ [12] (by decide +kernel) (by decide +kernel)
set_option maxRecDepth 20000 in
theorem gX6_init_J7_fill_53178 : GoodIn wsX6_init (va_wsS RX6 22 yJ7_fill_53178 wsJ7_fill_53178) := goodIn_app (goodIn_of _ (by decide +kernel)) ggX6_init_J7_fill_53178
theorem dX6_init_0 : decode cX6_init 0 = .ok (.aload_n 0, 1) := by decide +kernel
theorem dX6_init_1 : decode cX6_init 1 = .ok (.invokespecial 3, 3) := by decide +kernel
theorem dX6_init_4 : decode cX6_init 4 = .ok (.aload_n 0, 1) := by decide +kernel
theorem dX6_init_5 : decode cX6_init 5 = .ok (.sipush 240, 3) := by decide +kernel
theorem dX6_init_8 : decode cX6_init 8 = .ok (.newarray .long, 2) := by decide +kernel
theorem dX6_init_10 : decode cX6_init 10 = .ok (.putfield 9, 3) := by decide +kernel
theorem dX6_init_13 : decode cX6_init 13 = .ok (.aload_n 0, 1) := by decide +kernel
theorem dX6_init_14 : decode cX6_init 14 = .ok (.iconst 4, 1) := by decide +kernel
theorem dX6_init_15 : decode cX6_init 15 = .ok (.newarray .int, 2) := by decide +kernel
theorem dX6_init_17 : decode cX6_init 17 = .ok (.putfield 15, 3) := by decide +kernel
theorem dX6_init_20 : decode cX6_init 20 = .ok (.aload_n 0, 1) := by decide +kernel
theorem dX6_init_21 : decode cX6_init 21 = .ok (.iconst 4, 1) := by decide +kernel
theorem dX6_init_22 : decode cX6_init 22 = .ok (.newarray .int, 2) := by decide +kernel
theorem dX6_init_24 : decode cX6_init 24 = .ok (.putfield 19, 3) := by decide +kernel
theorem dX6_init_27 : decode cX6_init 27 = .ok (.aload_n 0, 1) := by decide +kernel
theorem dX6_init_28 : decode cX6_init 28 = .ok (.getfield 15, 3) := by decide +kernel
theorem dX6_init_31 : decode cX6_init 31 = .ok (.iconst (-1), 1) := by decide +kernel
theorem dX6_init_32 : decode cX6_init 32 = .ok (.invokestatic 22, 3) := by decide +kernel
theorem dX6_init_35 : decode cX6_init 35 = .ok (.return_, 1) := by decide +kernel
theorem dX6_isSort_0 : decode cX6_isSort 0 = .ok (.iload_n 0, 1) := by decide +kernel
theorem dX6_isSort_1 : decode cX6_isSort 1 = .ok (.ifCond .lt 12, 3) := by decide +kernel
theorem dX6_isSort_4 : decode cX6_isSort 4 = .ok (.iload_n 0, 1) := by decide +kernel
theorem dX6_isSort_5 : decode cX6_isSort 5 = .ok (.iconst 3, 1) := by decide +kernel
theorem dX6_isSort_6 : decode cX6_isSort 6 = .ok (.if_icmp .gt 7, 3) := by decide +kernel
theorem dX6_isSort_9 : decode cX6_isSort 9 = .ok (.iconst 1, 1) := by decide +kernel
theorem dX6_isSort_10 : decode cX6_isSort 10 = .ok (.goto 4, 3) := by decide +kernel
theorem dX6_isSort_13 : decode cX6_isSort 13 = .ok (.iconst 0, 1) := by decide +kernel
theorem dX6_isSort_14 : decode cX6_isSort 14 = .ok (.ireturn, 1) := by decide +kernel
theorem dX6_isMissing_0 : decode cX6_isMissing 0 = .ok (.aload_n 0, 1) := by decide +kernel
theorem dX6_isMissing_1 : decode cX6_isMissing 1 = .ok (.getfield 15, 3) := by decide +kernel
theorem dX6_isMissing_4 : decode cX6_isMissing 4 = .ok (.iload_n 1, 1) := by decide +kernel
theorem dX6_isMissing_5 : decode cX6_isMissing 5 = .ok (.iaload, 1) := by decide +kernel
theorem dX6_isMissing_6 : decode cX6_isMissing 6 = .ok (.iconst (-1), 1) := by decide +kernel
theorem dX6_isMissing_7 : decode cX6_isMissing 7 = .ok (.if_icmp .ne 7, 3) := by decide +kernel
