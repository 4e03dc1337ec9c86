theorem dX0_firstNext_30 : decode cX0_firstNext 30 = .ok (.aload_n 0, 1) := by decide +kernel
theorem dX0_firstNext_31 : decode cX0_firstNext 31 = .ok (.getfield 15, 3) := by decide +kernel
theorem dX0_firstNext_34 : decode cX0_firstNext 34 = .ok (.iload 4, 2) := by decide +kernel
theorem dX0_firstNext_36 : decode cX0_firstNext 36 = .ok (.iaload, 1) := by decide +kernel
theorem dX0_firstNext_37 : decode cX0_firstNext 37 = .ok (.iload_n 3, 1) := by decide +kernel
theorem dX0_firstNext_38 : decode cX0_firstNext 38 = .ok (.if_icmp .lt 28, 3) := by decide +kernel
theorem dX0_firstNext_41 : decode cX0_firstNext 41 = .ok (.aload_n 1, 1) := by decide +kernel
theorem dX0_firstNext_42 : decode cX0_firstNext 42 = .ok (.iload_n 2, 1) := by decide +kernel
theorem dX0_firstNext_43 : decode cX0_firstNext 43 = .ok (.iload 4, 2) := by decide +kernel
theorem dX0_firstNext_45 : decode cX0_firstNext 45 = .ok (.invokevirtual 48, 3) := by decide +kernel
theorem dX0_firstNext_48 : decode cX0_firstNext 48 = .ok (.iload_n 3, 1) := by decide +kernel
theorem dX0_firstNext_49 : decode cX0_firstNext 49 = .ok (.if_icmp .lt 17, 3) := by decide +kernel
theorem dX0_firstNext_52 : decode cX0_firstNext 52 = .ok (.aload_n 1, 1) := by decide +kernel
theorem dX0_firstNext_53 : decode cX0_firstNext 53 = .ok (.iload_n 2, 1) := by decide +kernel
theorem dX0_firstNext_54 : decode cX0_firstNext 54 = .ok (.iload 4, 2) := by decide +kernel
theorem dX0_firstNext_56 : decode cX0_firstNext 56 = .ok (.invokevirtual 44, 3) := by decide +kernel
theorem dX0_firstNext_59 : decode cX0_firstNext 59 = .ok (.iconst (-1), 1) := by decide +kernel
theorem dX0_firstNext_60 : decode cX0_firstNext 60 = .ok (.if_icmp .eq 6, 3) := by decide +kernel
theorem dX0_firstNext_63 : decode cX0_firstNext 63 = .ok (.iload 4, 2) := by decide +kernel
theorem dX0_firstNext_65 : decode cX0_firstNext 65 = .ok (.ireturn, 1) := by decide +kernel
theorem dX0_firstNext_66 : decode cX0_firstNext 66 = .ok (.iinc 4 1, 3) := by decide +kernel
theorem dX0_firstNext_69 : decode cX0_firstNext 69 = .ok (.goto (-66), 3) := by decide +kernel
theorem dX0_firstNext_72 : decode cX0_firstNext 72 = .ok (.iconst 0, 1) := by decide +kernel
theorem dX0_firstNext_73 : decode cX0_firstNext 73 = .ok (.ireturn, 1) := by decide +kernel
set_option maxRecDepth 20000 in
theorem ggX0_weigh_X0_walk : GoodIn wsX0_weigh wsX0_walk := goodIn_r _ [13, 3, 1, 14, 15, 16, 17, 12, 18, 19, 20, 21, 22, 23, 24, 25, 26, 27, 28, 29, 30, 31, 32, 33, 34, 35, 36, 37, 38, 39, 40] (by decide +kernel) (by decide +kernel)
set_option maxRecDepth 20000 in
theorem gX0_weigh_X0_walk : GoodIn wsX0_weigh (wsV RX0 63 RX0 yX0_walk wsX0_walk) := goodIn_app (goodIn_of _ (by decide +kernel)) ggX0_weigh_X0_walk
set_option maxRecDepth 20000 in
theorem ggX0_weigh_X5_factorOf : GoodIn wsX0_weigh wsX5_factorOf := goodIn_r _ [28, 29, 24, 30, 31, 36, 37, 38, 39, 40] (by decide +kernel) (by decide +kernel)
set_option maxRecDepth 20000 in
theorem gX0_weigh_X5_factorOf : GoodIn wsX0_weigh (wsV RX0 44 RX5 yX5_factorOf wsX5_factorOf) := goodIn_app (goodIn_of _ (by decide +kernel)) ggX0_weigh_X5_factorOf
theorem dX0_weigh_0 : decode cX0_weigh 0 = .ok (.aload_n 0, 1) := by decide +kernel
theorem dX0_weigh_1 : decode cX0_weigh 1 = .ok (.getfield 9, 3) := by decide +kernel
theorem dX0_weigh_4 : decode cX0_weigh 4 = .ok (.iload_n 2, 1) := by decide +kernel
theorem dX0_weigh_5 : decode cX0_weigh 5 = .ok (.iaload, 1) := by decide +kernel
theorem dX0_weigh_6 : decode cX0_weigh 6 = .ok (.iconst (-1), 1) := by decide +kernel
theorem dX0_weigh_7 : decode cX0_weigh 7 = .ok (.if_icmp .ne 5, 3) := by decide +kernel
theorem dX0_weigh_10 : decode cX0_weigh 10 = .ok (.iconst (-1), 1) := by decide +kernel
theorem dX0_weigh_11 : decode cX0_weigh 11 = .ok (.ireturn, 1) := by decide +kernel
theorem dX0_weigh_12 : decode cX0_weigh 12 = .ok (.aload_n 0, 1) := by decide +kernel
theorem dX0_weigh_13 : decode cX0_weigh 13 = .ok (.aload_n 1, 1) := by decide +kernel
theorem dX0_weigh_14 : decode cX0_weigh 14 = .ok (.iload_n 2, 1) := by decide +kernel
theorem dX0_weigh_15 : decode cX0_weigh 15 = .ok (.invokevirtual 63, 3) := by decide +kernel
theorem dX0_weigh_18 : decode cX0_weigh 18 = .ok (.ldc2_w 67, 3) := by decide +kernel
theorem dX0_weigh_21 : decode cX0_weigh 21 = .ok (.lstore_n 3, 1) := by decide +kernel
theorem dX0_weigh_22 : decode cX0_weigh 22 = .ok (.aload_n 0, 1) := by decide +kernel
theorem dX0_weigh_23 : decode cX0_weigh 23 = .ok (.getfield 9, 3) := by decide +kernel
theorem dX0_weigh_26 : decode cX0_weigh 26 = .ok (.iload_n 2, 1) := by decide +kernel
theorem dX0_weigh_27 : decode cX0_weigh 27 = .ok (.iaload, 1) := by decide +kernel
theorem dX0_weigh_28 : decode cX0_weigh 28 = .ok (.istore 5, 2) := by decide +kernel
theorem dX0_weigh_30 : decode cX0_weigh 30 = .ok (.iload 5, 2) := by decide +kernel
theorem dX0_weigh_32 : decode cX0_weigh 32 = .ok (.ifCond .le 45, 3) := by decide +kernel
theorem dX0_weigh_35 : decode cX0_weigh 35 = .ok (.lload_n 3, 1) := by decide +kernel
theorem dX0_weigh_36 : decode cX0_weigh 36 = .ok (.aload_n 1, 1) := by decide +kernel
theorem dX0_weigh_37 : decode cX0_weigh 37 = .ok (.aload_n 0, 1) := by decide +kernel
theorem dX0_weigh_38 : decode cX0_weigh 38 = .ok (.getfield 21, 3) := by decide +kernel
theorem dX0_weigh_41 : decode cX0_weigh 41 = .ok (.iload 5, 2) := by decide +kernel
theorem dX0_weigh_43 : decode cX0_weigh 43 = .ok (.iconst 1, 1) := by decide +kernel
theorem dX0_weigh_44 : decode cX0_weigh 44 = .ok (.isub, 1) := by decide +kernel
theorem dX0_weigh_45 : decode cX0_weigh 45 = .ok (.iaload, 1) := by decide +kernel
theorem dX0_weigh_46 : decode cX0_weigh 46 = .ok (.aload_n 0, 1) := by decide +kernel
theorem dX0_weigh_47 : decode cX0_weigh 47 = .ok (.getfield 21, 3) := by decide +kernel
theorem dX0_weigh_50 : decode cX0_weigh 50 = .ok (.iload 5, 2) := by decide +kernel
theorem dX0_weigh_52 : decode cX0_weigh 52 = .ok (.iaload, 1) := by decide +kernel
theorem dX0_weigh_53 : decode cX0_weigh 53 = .ok (.invokevirtual 44, 3) := by decide +kernel
theorem dX0_weigh_56 : decode cX0_weigh 56 = .ok (.i2l, 1) := by decide +kernel
theorem dX0_weigh_57 : decode cX0_weigh 57 = .ok (.lmul, 1) := by decide +kernel
theorem dX0_weigh_58 : decode cX0_weigh 58 = .ok (.ldc2_w 67, 3) := by decide +kernel
theorem dX0_weigh_61 : decode cX0_weigh 61 = .ok (.ldiv, 1) := by decide +kernel
theorem dX0_weigh_62 : decode cX0_weigh 62 = .ok (.lstore_n 3, 1) := by decide +kernel
theorem dX0_weigh_63 : decode cX0_weigh 63 = .ok (.lload_n 3, 1) := by decide +kernel
theorem dX0_weigh_64 : decode cX0_weigh 64 = .ok (.ldc2_w 69, 3) := by decide +kernel
theorem dX0_weigh_67 : decode cX0_weigh 67 = .ok (.invokestatic 71, 3) := by decide +kernel
theorem dX0_weigh_70 : decode cX0_weigh 70 = .ok (.lstore_n 3, 1) := by decide +kernel
theorem dX0_weigh_71 : decode cX0_weigh 71 = .ok (.iinc 5 (-1), 3) := by decide +kernel
theorem dX0_weigh_74 : decode cX0_weigh 74 = .ok (.goto (-44), 3) := by decide +kernel
theorem dX0_weigh_77 : decode cX0_weigh 77 = .ok (.lload_n 3, 1) := by decide +kernel
theorem dX0_weigh_78 : decode cX0_weigh 78 = .ok (.l2i, 1) := by decide +kernel
theorem dX0_weigh_79 : decode cX0_weigh 79 = .ok (.ireturn, 1) := by decide +kernel
theorem dX1_init_0 : decode cX1_init 0 = .ok (.aload_n 0, 1) := by decide +kernel
theorem dX1_init_1 : decode cX1_init 1 = .ok (.invokespecial 1, 3) := by decide +kernel
theorem dX1_init_4 : decode cX1_init 4 = .ok (.aload_n 0, 1) := by decide +kernel
theorem dX1_init_5 : decode cX1_init 5 = .ok (.lconst 0, 1) := by decide +kernel
theorem dX1_init_6 : decode cX1_init 6 = .ok (.putfield 7, 3) := by decide +kernel
theorem dX1_init_9 : decode cX1_init 9 = .ok (.aload_n 0, 1) := by decide +kernel
theorem dX1_init_10 : decode cX1_init 10 = .ok (.lconst 1, 1) := by decide +kernel
theorem dX1_init_11 : decode cX1_init 11 = .ok (.putfield 13, 3) := by decide +kernel
theorem dX1_init_14 : decode cX1_init 14 = .ok (.return_, 1) := by decide +kernel
set_option maxRecDepth 20000 in
theorem ggX1_put_X1_commonDivisor : GoodIn wsX1_put wsX1_commonDivisor := goodIn_r _ [6] (by decide +kernel) (by decide +kernel)
set_option maxRecDepth 20000 in
theorem gX1_put_X1_commonDivisor : GoodIn wsX1_put (va_wsS RX1 16 yX1_commonDivisor wsX1_commonDivisor) := goodIn_app (goodIn_of _ (by decide +kernel)) ggX1_put_X1_commonDivisor
theorem dX1_put_0 : decode cX1_put 0 = .ok (.iload_n 1, 1) := by decide +kernel
theorem dX1_put_1 : decode cX1_put 1 = .ok (.iload_n 2, 1) := by decide +kernel
theorem dX1_put_2 : decode cX1_put 2 = .ok (.invokestatic 16, 3) := by decide +kernel
theorem dX1_put_5 : decode cX1_put 5 = .ok (.istore_n 3, 1) := by decide +kernel
theorem dX1_put_6 : decode cX1_put 6 = .ok (.iload_n 3, 1) := by decide +kernel
theorem dX1_put_7 : decode cX1_put 7 = .ok (.ifCond .le 19, 3) := by decide +kernel
theorem dX1_put_10 : decode cX1_put 10 = .ok (.aload_n 0, 1) := by decide +kernel
theorem dX1_put_11 : decode cX1_put 11 = .ok (.iload_n 1, 1) := by decide +kernel
theorem dX1_put_12 : decode cX1_put 12 = .ok (.iload_n 3, 1) := by decide +kernel
theorem dX1_put_13 : decode cX1_put 13 = .ok (.idiv, 1) := by decide +kernel
theorem dX1_put_14 : decode cX1_put 14 = .ok (.i2l, 1) := by decide +kernel
theorem dX1_put_15 : decode cX1_put 15 = .ok (.putfield 7, 3) := by decide +kernel
theorem dX1_put_18 : decode cX1_put 18 = .ok (.aload_n 0, 1) := by decide +kernel
theorem dX1_put_19 : decode cX1_put 19 = .ok (.iload_n 2, 1) := by decide +kernel
theorem dX1_put_20 : decode cX1_put 20 = .ok (.iload_n 3, 1) := by decide +kernel
theorem dX1_put_21 : decode cX1_put 21 = .ok (.idiv, 1) := by decide +kernel
theorem dX1_put_22 : decode cX1_put 22 = .ok (.i2l, 1) := by decide +kernel
theorem dX1_put_23 : decode cX1_put 23 = .ok (.putfield 13, 3) := by decide +kernel
theorem dX1_put_26 : decode cX1_put 26 = .ok (.return_, 1) := by decide +kernel
theorem dX1_commonDivisor_0 : decode cX1_commonDivisor 0 = .ok (.iload_n 0, 1) := by decide +kernel
theorem dX1_commonDivisor_1 : decode cX1_commonDivisor 1 = .ok (.istore_n 2, 1) := by decide +kernel
theorem dX1_commonDivisor_2 : decode cX1_commonDivisor 2 = .ok (.iload_n 1, 1) := by decide +kernel
theorem dX1_commonDivisor_3 : decode cX1_commonDivisor 3 = .ok (.istore_n 3, 1) := by decide +kernel
theorem dX1_commonDivisor_4 : decode cX1_commonDivisor 4 = .ok (.iconst 0, 1) := by decide +kernel
theorem dX1_commonDivisor_5 : decode cX1_commonDivisor 5 = .ok (.istore 4, 2) := by decide +kernel
theorem dX1_commonDivisor_7 : decode cX1_commonDivisor 7 = .ok (.iload 4, 2) := by decide +kernel
theorem dX1_commonDivisor_9 : decode cX1_commonDivisor 9 = .ok (.bipush 64, 2) := by decide +kernel
theorem dX1_commonDivisor_11 : decode cX1_commonDivisor 11 = .ok (.if_icmp .ge 23, 3) := by decide +kernel
theorem dX1_commonDivisor_14 : decode cX1_commonDivisor 14 = .ok (.iload_n 3, 1) := by decide +kernel
theorem dX1_commonDivisor_15 : decode cX1_commonDivisor 15 = .ok (.ifCond .eq 19, 3) := by decide +kernel
theorem dX1_commonDivisor_18 : decode cX1_commonDivisor 18 = .ok (.iload_n 2, 1) := by decide +kernel
theorem dX1_commonDivisor_19 : decode cX1_commonDivisor 19 = .ok (.iload_n 3, 1) := by decide +kernel
theorem dX1_commonDivisor_20 : decode cX1_commonDivisor 20 = .ok (.irem, 1) := by decide +kernel
theorem dX1_commonDivisor_21 : decode cX1_commonDivisor 21 = .ok (.istore 5, 2) := by decide +kernel
theorem dX1_commonDivisor_23 : decode cX1_commonDivisor 23 = .ok (.iload_n 3, 1) := by decide +kernel
theorem dX1_commonDivisor_24 : decode cX1_commonDivisor 24 = .ok (.istore_n 2, 1) := by decide +kernel
theorem dX1_commonDivisor_25 : decode cX1_commonDivisor 25 = .ok (.iload 5, 2) := by decide +kernel
theorem dX1_commonDivisor_27 : decode cX1_commonDivisor 27 = .ok (.istore_n 3, 1) := by decide +kernel
theorem dX1_commonDivisor_28 : decode cX1_commonDivisor 28 = .ok (.iinc 4 1, 3) := by decide +kernel
theorem dX1_commonDivisor_31 : decode cX1_commonDivisor 31 = .ok (.goto (-24), 3) := by decide +kernel
theorem dX1_commonDivisor_34 : decode cX1_commonDivisor 34 = .ok (.iload_n 2, 1) := by decide +kernel
theorem dX1_commonDivisor_35 : decode cX1_commonDivisor 35 = .ok (.ireturn, 1) := by decide +kernel
theorem dX2_init_0 : decode cX2_init 0 = .ok (.aload_n 0, 1) := by decide +kernel
theorem dX2_init_1 : decode cX2_init 1 = .ok (.invokespecial 3, 3) := by decide +kernel
theorem dX2_init_4 : decode cX2_init 4 = .ok (.aload_n 0, 1) := by decide +kernel
theorem dX2_init_5 : decode cX2_init 5 = .ok (.sipush 240, 3) := by decide +kernel
theorem dX2_init_8 : decode cX2_init 8 = .ok (.newarray .int, 2) := by decide +kernel
theorem dX2_init_10 : decode cX2_init 10 = .ok (.putfield 9, 3) := by decide +kernel
theorem dX2_init_13 : decode cX2_init 13 = .ok (.aload_n 0, 1) := by decide +kernel
theorem dX2_init_14 : decode cX2_init 14 = .ok (.sipush 240, 3) := by decide +kernel
theorem dX2_init_17 : decode cX2_init 17 = .ok (.newarray .int, 2) := by decide +kernel
theorem dX2_init_19 : decode cX2_init 19 = .ok (.putfield 15, 3) := by decide +kernel
theorem dX2_init_22 : decode cX2_init 22 = .ok (.aload_n 0, 1) := by decide +kernel
theorem dX2_init_23 : decode cX2_init 23 = .ok (.iconst 0, 1) := by decide +kernel
theorem dX2_init_24 : decode cX2_init 24 = .ok (.putfield 18, 3) := by decide +kernel
theorem dX2_init_27 : decode cX2_init 27 = .ok (.return_, 1) := by decide +kernel
set_option maxRecDepth 20000 in
theorem ggX2_gather_X5_haveBoth : GoodIn wsX2_gather wsX5_haveBoth := goodIn_r _ [8, 9, 10, 11, 7, 12, 13, 29, 30, 31, 32, 33] (by decide +kernel) (by decide +kernel)
set_option maxRecDepth 20000 in
theorem gX2_gather_X5_haveBoth : GoodIn wsX2_gather (wsV RX2 22 RX5 yX5_haveBoth wsX5_haveBoth) := goodIn_app (goodIn_of _ (by decide +kernel)) ggX2_gather_X5_haveBoth
set_option maxRecDepth 20000 in
theorem ggX2_gather_X5_numberOf : GoodIn wsX2_gather wsX5_numberOf := goodIn_r _ [17, 18, 19, 20, 7, 21, 13, 22, 23, 24, 25, 29, 30, 31, 32, 33] (by decide +kernel) (by decide +kernel)
set_option maxRecDepth 20000 in
theorem gX2_gather_X5_numberOf : GoodIn wsX2_gather (wsV RX2 28 RX5 yX5_numberOf wsX5_numberOf) := goodIn_app (goodIn_of _ (by decide +kernel)) ggX2_gather_X5_numberOf
theorem dX2_gather_0 : decode cX2_gather 0 = .ok (.aload_n 0, 1) := by decide +kernel
theorem dX2_gather_1 : decode cX2_gather 1 = .ok (.iconst 0, 1) := by decide +kernel
theorem dX2_gather_2 : decode cX2_gather 2 = .ok (.putfield 18, 3) := by decide +kernel
theorem dX2_gather_5 : decode cX2_gather 5 = .ok (.iconst 0, 1) := by decide +kernel
theorem dX2_gather_6 : decode cX2_gather 6 = .ok (.istore 4, 2) := by decide +kernel
theorem dX2_gather_8 : decode cX2_gather 8 = .ok (.iload 4, 2) := by decide +kernel
theorem dX2_gather_10 : decode cX2_gather 10 = .ok (.sipush 240, 3) := by decide +kernel
theorem dX2_gather_13 : decode cX2_gather 13 = .ok (.if_icmp .ge 72, 3) := by decide +kernel
theorem dX2_gather_16 : decode cX2_gather 16 = .ok (.aload_n 1, 1) := by decide +kernel
theorem dX2_gather_17 : decode cX2_gather 17 = .ok (.iload_n 2, 1) := by decide +kernel
theorem dX2_gather_18 : decode cX2_gather 18 = .ok (.iload_n 3, 1) := by decide +kernel
theorem dX2_gather_19 : decode cX2_gather 19 = .ok (.iload 4, 2) := by decide +kernel
theorem dX2_gather_21 : decode cX2_gather 21 = .ok (.invokevirtual 22, 3) := by decide +kernel
theorem dX2_gather_24 : decode cX2_gather 24 = .ok (.ifCond .eq 55, 3) := by decide +kernel
theorem dX2_gather_27 : decode cX2_gather 27 = .ok (.aload_n 1, 1) := by decide +kernel
theorem dX2_gather_28 : decode cX2_gather 28 = .ok (.iload_n 2, 1) := by decide +kernel
theorem dX2_gather_29 : decode cX2_gather 29 = .ok (.iload 4, 2) := by decide +kernel
theorem dX2_gather_31 : decode cX2_gather 31 = .ok (.invokevirtual 28, 3) := by decide +kernel
theorem dX2_gather_34 : decode cX2_gather 34 = .ok (.ifCond .le 45, 3) := by decide +kernel
theorem dX2_gather_37 : decode cX2_gather 37 = .ok (.aload_n 0, 1) := by decide +kernel
theorem dX2_gather_38 : decode cX2_gather 38 = .ok (.getfield 9, 3) := by decide +kernel
theorem dX2_gather_41 : decode cX2_gather 41 = .ok (.aload_n 0, 1) := by decide +kernel
theorem dX2_gather_42 : decode cX2_gather 42 = .ok (.getfield 18, 3) := by decide +kernel
theorem dX2_gather_45 : decode cX2_gather 45 = .ok (.aload_n 1, 1) := by decide +kernel
theorem dX2_gather_46 : decode cX2_gather 46 = .ok (.iload_n 3, 1) := by decide +kernel
theorem dX2_gather_47 : decode cX2_gather 47 = .ok (.iload 4, 2) := by decide +kernel
theorem dX2_gather_49 : decode cX2_gather 49 = .ok (.invokevirtual 28, 3) := by decide +kernel
theorem dX2_gather_52 : decode cX2_gather 52 = .ok (.iastore, 1) := by decide +kernel
theorem dX2_gather_53 : decode cX2_gather 53 = .ok (.aload_n 0, 1) := by decide +kernel
theorem dX2_gather_54 : decode cX2_gather 54 = .ok (.getfield 15, 3) := by decide +kernel
theorem dX2_gather_57 : decode cX2_gather 57 = .ok (.aload_n 0, 1) := by decide +kernel
theorem dX2_gather_58 : decode cX2_gather 58 = .ok (.getfield 18, 3) := by decide +kernel
theorem dX2_gather_61 : decode cX2_gather 61 = .ok (.aload_n 1, 1) := by decide +kernel
theorem dX2_gather_62 : decode cX2_gather 62 = .ok (.iload_n 2, 1) := by decide +kernel
theorem dX2_gather_63 : decode cX2_gather 63 = .ok (.iload 4, 2) := by decide +kernel
theorem dX2_gather_65 : decode cX2_gather 65 = .ok (.invokevirtual 28, 3) := by decide +kernel
theorem dX2_gather_68 : decode cX2_gather 68 = .ok (.iastore, 1) := by decide +kernel
theorem dX2_gather_69 : decode cX2_gather 69 = .ok (.aload_n 0, 1) := by decide +kernel
theorem dX2_gather_70 : decode cX2_gather 70 = .ok (.dup, 1) := by decide +kernel
theorem dX2_gather_71 : decode cX2_gather 71 = .ok (.getfield 18, 3) := by decide +kernel
theorem dX2_gather_74 : decode cX2_gather 74 = .ok (.iconst 1, 1) := by decide +kernel
theorem dX2_gather_75 : decode cX2_gather 75 = .ok (.iadd, 1) := by decide +kernel
theorem dX2_gather_76 : decode cX2_gather 76 = .ok (.putfield 18, 3) := by decide +kernel
theorem dX2_gather_79 : decode cX2_gather 79 = .ok (.iinc 4 1, 3) := by decide +kernel
theorem dX2_gather_82 : decode cX2_gather 82 = .ok (.goto (-74), 3) := by decide +kernel
theorem dX2_gather_85 : decode cX2_gather 85 = .ok (.return_, 1) := by decide +kernel
set_option maxRecDepth 20000 in
theorem ggX2_order_X2_sink : GoodIn wsX2_order wsX2_sink := goodIn_r _ [6, 7, 8, 9, 10, 11] (by decide +kernel) (by decide +kernel)
set_option maxRecDepth 20000 in
theorem gX2_order_X2_sink : GoodIn wsX2_order (wsV RX2 32 RX2 yX2_sink wsX2_sink) := goodIn_app (goodIn_of _ (by decide +kernel)) ggX2_order_X2_sink
theorem dX2_order_0 : decode cX2_order 0 = .ok (.bipush 121, 2) := by decide +kernel
theorem dX2_order_2 : decode cX2_order 2 = .ok (.istore_n 1, 1) := by decide +kernel
theorem dX2_order_3 : decode cX2_order 3 = .ok (.iload_n 1, 1) := by decide +kernel
theorem dX2_order_4 : decode cX2_order 4 = .ok (.ifCond .le 32, 3) := by decide +kernel
theorem dX2_order_7 : decode cX2_order 7 = .ok (.iload_n 1, 1) := by decide +kernel
theorem dX2_order_8 : decode cX2_order 8 = .ok (.istore_n 2, 1) := by decide +kernel
theorem dX2_order_9 : decode cX2_order 9 = .ok (.iload_n 2, 1) := by decide +kernel
theorem dX2_order_10 : decode cX2_order 10 = .ok (.aload_n 0, 1) := by decide +kernel
theorem dX2_order_11 : decode cX2_order 11 = .ok (.getfield 18, 3) := by decide +kernel
theorem dX2_order_14 : decode cX2_order 14 = .ok (.if_icmp .ge 15, 3) := by decide +kernel
theorem dX2_order_17 : decode cX2_order 17 = .ok (.aload_n 0, 1) := by decide +kernel
theorem dX2_order_18 : decode cX2_order 18 = .ok (.iload_n 2, 1) := by decide +kernel
theorem dX2_order_19 : decode cX2_order 19 = .ok (.iload_n 1, 1) := by decide +kernel
theorem dX2_order_20 : decode cX2_order 20 = .ok (.invokevirtual 32, 3) := by decide +kernel
theorem dX2_order_23 : decode cX2_order 23 = .ok (.iinc 2 1, 3) := by decide +kernel
theorem dX2_order_26 : decode cX2_order 26 = .ok (.goto (-17), 3) := by decide +kernel
theorem dX2_order_29 : decode cX2_order 29 = .ok (.iload_n 1, 1) := by decide +kernel
theorem dX2_order_30 : decode cX2_order 30 = .ok (.iconst 3, 1) := by decide +kernel
theorem dX2_order_31 : decode cX2_order 31 = .ok (.idiv, 1) := by decide +kernel
theorem dX2_order_32 : decode cX2_order 32 = .ok (.istore_n 1, 1) := by decide +kernel
theorem dX2_order_33 : decode cX2_order 33 = .ok (.goto (-30), 3) := by decide +kernel
theorem dX2_order_36 : decode cX2_order 36 = .ok (.return_, 1) := by decide +kernel
theorem dX2_sink_0 : decode cX2_sink 0 = .ok (.aload_n 0, 1) := by decide +kernel
theorem dX2_sink_1 : decode cX2_sink 1 = .ok (.getfield 9, 3) := by decide +kernel
theorem dX2_sink_4 : decode cX2_sink 4 = .ok (.iload_n 1, 1) := by decide +kernel
theorem dX2_sink_5 : decode cX2_sink 5 = .ok (.iaload, 1) := by decide +kernel
theorem dX2_sink_6 : decode cX2_sink 6 = .ok (.istore_n 3, 1) := by decide +kernel
theorem dX2_sink_7 : decode cX2_sink 7 = .ok (.aload_n 0, 1) := by decide +kernel
theorem dX2_sink_8 : decode cX2_sink 8 = .ok (.getfield 15, 3) := by decide +kernel
theorem dX2_sink_11 : decode cX2_sink 11 = .ok (.iload_n 1, 1) := by decide +kernel
theorem dX2_sink_12 : decode cX2_sink 12 = .ok (.iaload, 1) := by decide +kernel
theorem dX2_sink_13 : decode cX2_sink 13 = .ok (.istore 4, 2) := by decide +kernel
theorem dX2_sink_15 : decode cX2_sink 15 = .ok (.iload_n 1, 1) := by decide +kernel
theorem dX2_sink_16 : decode cX2_sink 16 = .ok (.istore 5, 2) := by decide +kernel
theorem dX2_sink_18 : decode cX2_sink 18 = .ok (.iload 5, 2) := by decide +kernel
theorem dX2_sink_20 : decode cX2_sink 20 = .ok (.iload_n 2, 1) := by decide +kernel
theorem dX2_sink_21 : decode cX2_sink 21 = .ok (.if_icmp .lt 70, 3) := by decide +kernel
theorem dX2_sink_24 : decode cX2_sink 24 = .ok (.iload_n 3, 1) := by decide +kernel
theorem dX2_sink_25 : decode cX2_sink 25 = .ok (.aload_n 0, 1) := by decide +kernel
theorem dX2_sink_26 : decode cX2_sink 26 = .ok (.getfield 15, 3) := by decide +kernel
theorem dX2_sink_29 : decode cX2_sink 29 = .ok (.iload 5, 2) := by decide +kernel
theorem dX2_sink_31 : decode cX2_sink 31 = .ok (.iload_n 2, 1) := by decide +kernel
theorem dX2_sink_32 : decode cX2_sink 32 = .ok (.isub, 1) := by decide +kernel
theorem dX2_sink_33 : decode cX2_sink 33 = .ok (.iaload, 1) := by decide +kernel
theorem dX2_sink_34 : decode cX2_sink 34 = .ok (.imul, 1) := by decide +kernel
theorem dX2_sink_35 : decode cX2_sink 35 = .ok (.aload_n 0, 1) := by decide +kernel
theorem dX2_sink_36 : decode cX2_sink 36 = .ok (.getfield 9, 3) := by decide +kernel
theorem dX2_sink_39 : decode cX2_sink 39 = .ok (.iload 5, 2) := by decide +kernel
theorem dX2_sink_41 : decode cX2_sink 41 = .ok (.iload_n 2, 1) := by decide +kernel
theorem dX2_sink_42 : decode cX2_sink 42 = .ok (.isub, 1) := by decide +kernel
theorem dX2_sink_43 : decode cX2_sink 43 = .ok (.iaload, 1) := by decide +kernel
theorem dX2_sink_44 : decode cX2_sink 44 = .ok (.iload 4, 2) := by decide +kernel
theorem dX2_sink_46 : decode cX2_sink 46 = .ok (.imul, 1) := by decide +kernel
theorem dX2_sink_47 : decode cX2_sink 47 = .ok (.if_icmp .ge 44, 3) := by decide +kernel
theorem dX2_sink_50 : decode cX2_sink 50 = .ok (.aload_n 0, 1) := by decide +kernel
theorem dX2_sink_51 : decode cX2_sink 51 = .ok (.getfield 9, 3) := by decide +kernel
theorem dX2_sink_54 : decode cX2_sink 54 = .ok (.iload 5, 2) := by decide +kernel
theorem dX2_sink_56 : decode cX2_sink 56 = .ok (.aload_n 0, 1) := by decide +kernel
theorem dX2_sink_57 : decode cX2_sink 57 = .ok (.getfield 9, 3) := by decide +kernel
theorem dX2_sink_60 : decode cX2_sink 60 = .ok (.iload 5, 2) := by decide +kernel
theorem dX2_sink_62 : decode cX2_sink 62 = .ok (.iload_n 2, 1) := by decide +kernel
theorem dX2_sink_63 : decode cX2_sink 63 = .ok (.isub, 1) := by decide +kernel
theorem dX2_sink_64 : decode cX2_sink 64 = .ok (.iaload, 1) := by decide +kernel
theorem dX2_sink_65 : decode cX2_sink 65 = .ok (.iastore, 1) := by decide +kernel
theorem dX2_sink_66 : decode cX2_sink 66 = .ok (.aload_n 0, 1) := by decide +kernel
theorem dX2_sink_67 : decode cX2_sink 67 = .ok (.getfield 15, 3) := by decide +kernel
theorem dX2_sink_70 : decode cX2_sink 70 = .ok (.iload 5, 2) := by decide +kernel
theorem dX2_sink_72 : decode cX2_sink 72 = .ok (.aload_n 0, 1) := by decide +kernel
theorem dX2_sink_73 : decode cX2_sink 73 = .ok (.getfield 15, 3) := by decide +kernel
theorem dX2_sink_76 : decode cX2_sink 76 = .ok (.iload 5, 2) := by decide +kernel
theorem dX2_sink_78 : decode cX2_sink 78 = .ok (.iload_n 2, 1) := by decide +kernel
theorem dX2_sink_79 : decode cX2_sink 79 = .ok (.isub, 1) := by decide +kernel
theorem dX2_sink_80 : decode cX2_sink 80 = .ok (.iaload, 1) := by decide +kernel
theorem dX2_sink_81 : decode cX2_sink 81 = .ok (.iastore, 1) := by decide +kernel
theorem dX2_sink_82 : decode cX2_sink 82 = .ok (.iload 5, 2) := by decide +kernel
theorem dX2_sink_84 : decode cX2_sink 84 = .ok (.iload_n 2, 1) := by decide +kernel
theorem dX2_sink_85 : decode cX2_sink 85 = .ok (.isub, 1) := by decide +kernel
theorem dX2_sink_86 : decode cX2_sink 86 = .ok (.istore 5, 2) := by decide +kernel
theorem dX2_sink_88 : decode cX2_sink 88 = .ok (.goto (-70), 3) := by decide +kernel
theorem dX2_sink_91 : decode cX2_sink 91 = .ok (.aload_n 0, 1) := by decide +kernel
theorem dX2_sink_92 : decode cX2_sink 92 = .ok (.getfield 9, 3) := by decide +kernel
theorem dX2_sink_95 : decode cX2_sink 95 = .ok (.iload 5, 2) := by decide +kernel
theorem dX2_sink_97 : decode cX2_sink 97 = .ok (.iload_n 3, 1) := by decide +kernel
theorem dX2_sink_98 : decode cX2_sink 98 = .ok (.iastore, 1) := by decide +kernel
theorem dX2_sink_99 : decode cX2_sink 99 = .ok (.aload_n 0, 1) := by decide +kernel
theorem dX2_sink_100 : decode cX2_sink 100 = .ok (.getfield 15, 3) := by decide +kernel
theorem dX2_sink_103 : decode cX2_sink 103 = .ok (.iload 5, 2) := by decide +kernel
theorem dX2_sink_105 : decode cX2_sink 105 = .ok (.iload 4, 2) := by decide +kernel
theorem dX2_sink_107 : decode cX2_sink 107 = .ok (.iastore, 1) := by decide +kernel
theorem dX2_sink_108 : decode cX2_sink 108 = .ok (.return_, 1) := by decide +kernel
theorem dX3_init_0 : decode cX3_init 0 = .ok (.aload_n 0, 1) := by decide +kernel
theorem dX3_init_1 : decode cX3_init 1 = .ok (.invokespecial 3, 3) := by decide +kernel
theorem dX3_init_4 : decode cX3_init 4 = .ok (.aload_n 0, 1) := by decide +kernel
theorem dX3_init_5 : decode cX3_init 5 = .ok (.bipush 24, 2) := by decide +kernel
theorem dX3_init_7 : decode cX3_init 7 = .ok (.newarray .int, 2) := by decide +kernel
theorem dX3_init_9 : decode cX3_init 9 = .ok (.putfield 9, 3) := by decide +kernel
theorem dX3_init_12 : decode cX3_init 12 = .ok (.aload_n 0, 1) := by decide +kernel
theorem dX3_init_13 : decode cX3_init 13 = .ok (.bipush 24, 2) := by decide +kernel
theorem dX3_init_15 : decode cX3_init 15 = .ok (.newarray .int, 2) := by decide +kernel
theorem dX3_init_17 : decode cX3_init 17 = .ok (.putfield 15, 3) := by decide +kernel
theorem dX3_init_20 : decode cX3_init 20 = .ok (.aload_n 0, 1) := by decide +kernel
theorem dX3_init_21 : decode cX3_init 21 = .ok (.iconst 3, 1) := by decide +kernel
theorem dX3_init_22 : decode cX3_init 22 = .ok (.putfield 18, 3) := by decide +kernel
theorem dX3_init_25 : decode cX3_init 25 = .ok (.return_, 1) := by decide +kernel
theorem dX3_isSmoothWidth_0 : decode cX3_isSmoothWidth 0 = .ok (.iload_n 0, 1) := by decide +kernel
theorem dX3_isSmoothWidth_1 : decode cX3_isSmoothWidth 1 = .ok (.iconst 1, 1) := by decide +kernel
theorem dX3_isSmoothWidth_2 : decode cX3_isSmoothWidth 2 = .ok (.if_icmp .lt 20, 3) := by decide +kernel
theorem dX3_isSmoothWidth_5 : decode cX3_isSmoothWidth 5 = .ok (.iload_n 0, 1) := by decide +kernel
theorem dX3_isSmoothWidth_6 : decode cX3_isSmoothWidth 6 = .ok (.bipush 7, 2) := by decide +kernel
theorem dX3_isSmoothWidth_8 : decode cX3_isSmoothWidth 8 = .ok (.if_icmp .gt 14, 3) := by decide +kernel
theorem dX3_isSmoothWidth_11 : decode cX3_isSmoothWidth 11 = .ok (.iload_n 0, 1) := by decide +kernel
theorem dX3_isSmoothWidth_12 : decode cX3_isSmoothWidth 12 = .ok (.iconst 2, 1) := by decide +kernel
theorem dX3_isSmoothWidth_13 : decode cX3_isSmoothWidth 13 = .ok (.irem, 1) := by decide +kernel
theorem dX3_isSmoothWidth_14 : decode cX3_isSmoothWidth 14 = .ok (.iconst 1, 1) := by decide +kernel
theorem dX3_isSmoothWidth_15 : decode cX3_isSmoothWidth 15 = .ok (.if_icmp .ne 7, 3) := by decide +kernel
theorem dX3_isSmoothWidth_18 : decode cX3_isSmoothWidth 18 = .ok (.iconst 1, 1) := by decide +kernel
theorem dX3_isSmoothWidth_19 : decode cX3_isSmoothWidth 19 = .ok (.goto 4, 3) := by decide +kernel
theorem dX3_isSmoothWidth_22 : decode cX3_isSmoothWidth 22 = .ok (.iconst 0, 1) := by decide +kernel
theorem dX3_isSmoothWidth_23 : decode cX3_isSmoothWidth 23 = .ok (.ireturn, 1) := by decide +kernel
set_option maxRecDepth 20000 in
theorem ggX3_valueOfDay_X5_has : GoodIn wsX3_valueOfDay wsX5_has := goodIn_r _ [5, 6, 19, 20, 21, 22, 23] (by decide +kernel) (by decide +kernel)
set_option maxRecDepth 20000 in
theorem gX3_valueOfDay_X5_has : GoodIn wsX3_valueOfDay (wsV RX3 32 RX5 yX5_has wsX5_has) := goodIn_app (goodIn_of _ (by decide +kernel)) ggX3_valueOfDay_X5_has
set_option maxRecDepth 20000 in
theorem ggX3_valueOfDay_X5_numberOf : GoodIn wsX3_valueOfDay wsX5_numberOf := goodIn_r _ [10, 11, 12, 13, 4, 14, 6, 15, 16, 17, 18, 19, 20, 21, 22, 23] (by decide +kernel) (by decide +kernel)
set_option maxRecDepth 20000 in
theorem gX3_valueOfDay_X5_numberOf : GoodIn wsX3_valueOfDay (wsV RX3 36 RX5 yX5_numberOf wsX5_numberOf) := goodIn_app (goodIn_of _ (by decide +kernel)) ggX3_valueOfDay_X5_numberOf
theorem dX3_valueOfDay_0 : decode cX3_valueOfDay 0 = .ok (.lconst 0, 1) := by decide +kernel
theorem dX3_valueOfDay_1 : decode cX3_valueOfDay 1 = .ok (.lstore 4, 2) := by decide +kernel
theorem dX3_valueOfDay_3 : decode cX3_valueOfDay 3 = .ok (.iconst 0, 1) := by decide +kernel
theorem dX3_valueOfDay_4 : decode cX3_valueOfDay 4 = .ok (.istore 6, 2) := by decide +kernel
theorem dX3_valueOfDay_6 : decode cX3_valueOfDay 6 = .ok (.iconst 0, 1) := by decide +kernel
theorem dX3_valueOfDay_7 : decode cX3_valueOfDay 7 = .ok (.istore 7, 2) := by decide +kernel
theorem dX3_valueOfDay_9 : decode cX3_valueOfDay 9 = .ok (.iload 7, 2) := by decide +kernel
theorem dX3_valueOfDay_11 : decode cX3_valueOfDay 11 = .ok (.aload_n 1, 1) := by decide +kernel
theorem dX3_valueOfDay_12 : decode cX3_valueOfDay 12 = .ok (.getfield 22, 3) := by decide +kernel
theorem dX3_valueOfDay_15 : decode cX3_valueOfDay 15 = .ok (.if_icmp .ge 55, 3) := by decide +kernel
theorem dX3_valueOfDay_18 : decode cX3_valueOfDay 18 = .ok (.aload_n 2, 1) := by decide +kernel
theorem dX3_valueOfDay_19 : decode cX3_valueOfDay 19 = .ok (.getfield 27, 3) := by decide +kernel
theorem dX3_valueOfDay_22 : decode cX3_valueOfDay 22 = .ok (.iload 7, 2) := by decide +kernel
theorem dX3_valueOfDay_24 : decode cX3_valueOfDay 24 = .ok (.iaload, 1) := by decide +kernel
theorem dX3_valueOfDay_25 : decode cX3_valueOfDay 25 = .ok (.iconst (-1), 1) := by decide +kernel
theorem dX3_valueOfDay_26 : decode cX3_valueOfDay 26 = .ok (.if_icmp .eq 38, 3) := by decide +kernel
theorem dX3_valueOfDay_29 : decode cX3_valueOfDay 29 = .ok (.aload_n 1, 1) := by decide +kernel
theorem dX3_valueOfDay_30 : decode cX3_valueOfDay 30 = .ok (.iload 7, 2) := by decide +kernel
theorem dX3_valueOfDay_32 : decode cX3_valueOfDay 32 = .ok (.iload_n 3, 1) := by decide +kernel
theorem dX3_valueOfDay_33 : decode cX3_valueOfDay 33 = .ok (.invokevirtual 32, 3) := by decide +kernel
theorem dX3_valueOfDay_36 : decode cX3_valueOfDay 36 = .ok (.ifCond .eq 28, 3) := by decide +kernel
theorem dX3_valueOfDay_39 : decode cX3_valueOfDay 39 = .ok (.lload 4, 2) := by decide +kernel
theorem dX3_valueOfDay_41 : decode cX3_valueOfDay 41 = .ok (.aload_n 1, 1) := by decide +kernel
theorem dX3_valueOfDay_42 : decode cX3_valueOfDay 42 = .ok (.iload 7, 2) := by decide +kernel
theorem dX3_valueOfDay_44 : decode cX3_valueOfDay 44 = .ok (.iload_n 3, 1) := by decide +kernel
theorem dX3_valueOfDay_45 : decode cX3_valueOfDay 45 = .ok (.invokevirtual 36, 3) := by decide +kernel
theorem dX3_valueOfDay_48 : decode cX3_valueOfDay 48 = .ok (.i2l, 1) := by decide +kernel
theorem dX3_valueOfDay_49 : decode cX3_valueOfDay 49 = .ok (.aload_n 2, 1) := by decide +kernel
theorem dX3_valueOfDay_50 : decode cX3_valueOfDay 50 = .ok (.getfield 27, 3) := by decide +kernel
theorem dX3_valueOfDay_53 : decode cX3_valueOfDay 53 = .ok (.iload 7, 2) := by decide +kernel
theorem dX3_valueOfDay_55 : decode cX3_valueOfDay 55 = .ok (.iaload, 1) := by decide +kernel
theorem dX3_valueOfDay_56 : decode cX3_valueOfDay 56 = .ok (.i2l, 1) := by decide +kernel
theorem dX3_valueOfDay_57 : decode cX3_valueOfDay 57 = .ok (.lmul, 1) := by decide +kernel
theorem dX3_valueOfDay_58 : decode cX3_valueOfDay 58 = .ok (.ladd, 1) := by decide +kernel
theorem dX3_valueOfDay_59 : decode cX3_valueOfDay 59 = .ok (.lstore 4, 2) := by decide +kernel
theorem dX3_valueOfDay_61 : decode cX3_valueOfDay 61 = .ok (.iinc 6 1, 3) := by decide +kernel
theorem dX3_valueOfDay_64 : decode cX3_valueOfDay 64 = .ok (.iinc 7 1, 3) := by decide +kernel
theorem dX3_valueOfDay_67 : decode cX3_valueOfDay 67 = .ok (.goto (-58), 3) := by decide +kernel
theorem dX3_valueOfDay_70 : decode cX3_valueOfDay 70 = .ok (.iload 6, 2) := by decide +kernel
theorem dX3_valueOfDay_72 : decode cX3_valueOfDay 72 = .ok (.ifCond .ne 7, 3) := by decide +kernel
theorem dX3_valueOfDay_75 : decode cX3_valueOfDay 75 = .ok (.iconst (-1), 1) := by decide +kernel
theorem dX3_valueOfDay_76 : decode cX3_valueOfDay 76 = .ok (.goto 10, 3) := by decide +kernel
theorem dX3_valueOfDay_79 : decode cX3_valueOfDay 79 = .ok (.lload 4, 2) := by decide +kernel
theorem dX3_valueOfDay_81 : decode cX3_valueOfDay 81 = .ok (.iload 6, 2) := by decide +kernel
theorem dX3_valueOfDay_83 : decode cX3_valueOfDay 83 = .ok (.i2l, 1) := by decide +kernel
theorem dX3_valueOfDay_84 : decode cX3_valueOfDay 84 = .ok (.ldiv, 1) := by decide +kernel
theorem dX3_valueOfDay_85 : decode cX3_valueOfDay 85 = .ok (.l2i, 1) := by decide +kernel
theorem dX3_valueOfDay_86 : decode cX3_valueOfDay 86 = .ok (.ireturn, 1) := by decide +kernel
set_option maxRecDepth 20000 in
theorem ggX3_valueOfMonth_X3_valueOfDay : GoodIn wsX3_valueOfMonth wsX3_valueOfDay := goodIn_r _ [6, 7, 8, 9, 10, 11, 12, 13, 14, 15, 16, 17, 18, 19, 20, 21, 22, 23, 24, 28, 29, 30, 31, 32, 33, 34, 35, 36] (by decide +kernel) (by decide +kernel)
set_option maxRecDepth 20000 in
theorem gX3_valueOfMonth_X3_valueOfDay : GoodIn wsX3_valueOfMonth (wsV RX3 40 RX3 yX3_valueOfDay wsX3_valueOfDay) := goodIn_app (goodIn_of _ (by decide +kernel)) ggX3_valueOfMonth_X3_valueOfDay
theorem dX3_valueOfMonth_0 : decode cX3_valueOfMonth 0 = .ok (.lconst 0, 1) := by decide +kernel
theorem dX3_valueOfMonth_1 : decode cX3_valueOfMonth 1 = .ok (.lstore 4, 2) := by decide +kernel
theorem dX3_valueOfMonth_3 : decode cX3_valueOfMonth 3 = .ok (.iconst 0, 1) := by decide +kernel
theorem dX3_valueOfMonth_4 : decode cX3_valueOfMonth 4 = .ok (.istore 6, 2) := by decide +kernel
theorem dX3_valueOfMonth_6 : decode cX3_valueOfMonth 6 = .ok (.iconst 0, 1) := by decide +kernel
theorem dX3_valueOfMonth_7 : decode cX3_valueOfMonth 7 = .ok (.istore 7, 2) := by decide +kernel
theorem dX3_valueOfMonth_9 : decode cX3_valueOfMonth 9 = .ok (.iload 7, 2) := by decide +kernel
theorem dX3_valueOfMonth_11 : decode cX3_valueOfMonth 11 = .ok (.bipush 10, 2) := by decide +kernel
theorem dX3_valueOfMonth_13 : decode cX3_valueOfMonth 13 = .ok (.if_icmp .ge 41, 3) := by decide +kernel
theorem dX3_valueOfMonth_16 : decode cX3_valueOfMonth 16 = .ok (.aload_n 0, 1) := by decide +kernel
theorem dX3_valueOfMonth_17 : decode cX3_valueOfMonth 17 = .ok (.aload_n 1, 1) := by decide +kernel
theorem dX3_valueOfMonth_18 : decode cX3_valueOfMonth 18 = .ok (.aload_n 2, 1) := by decide +kernel
theorem dX3_valueOfMonth_19 : decode cX3_valueOfMonth 19 = .ok (.iload_n 3, 1) := by decide +kernel
theorem dX3_valueOfMonth_20 : decode cX3_valueOfMonth 20 = .ok (.bipush 10, 2) := by decide +kernel
theorem dX3_valueOfMonth_22 : decode cX3_valueOfMonth 22 = .ok (.imul, 1) := by decide +kernel
theorem dX3_valueOfMonth_23 : decode cX3_valueOfMonth 23 = .ok (.iload 7, 2) := by decide +kernel
theorem dX3_valueOfMonth_25 : decode cX3_valueOfMonth 25 = .ok (.iadd, 1) := by decide +kernel
theorem dX3_valueOfMonth_26 : decode cX3_valueOfMonth 26 = .ok (.invokevirtual 40, 3) := by decide +kernel
theorem dX3_valueOfMonth_29 : decode cX3_valueOfMonth 29 = .ok (.istore 8, 2) := by decide +kernel
theorem dX3_valueOfMonth_31 : decode cX3_valueOfMonth 31 = .ok (.iload 8, 2) := by decide +kernel
theorem dX3_valueOfMonth_33 : decode cX3_valueOfMonth 33 = .ok (.iconst (-1), 1) := by decide +kernel
theorem dX3_valueOfMonth_34 : decode cX3_valueOfMonth 34 = .ok (.if_icmp .eq 14, 3) := by decide +kernel
theorem dX3_valueOfMonth_37 : decode cX3_valueOfMonth 37 = .ok (.lload 4, 2) := by decide +kernel
theorem dX3_valueOfMonth_39 : decode cX3_valueOfMonth 39 = .ok (.iload 8, 2) := by decide +kernel
theorem dX3_valueOfMonth_41 : decode cX3_valueOfMonth 41 = .ok (.i2l, 1) := by decide +kernel
theorem dX3_valueOfMonth_42 : decode cX3_valueOfMonth 42 = .ok (.ladd, 1) := by decide +kernel
theorem dX3_valueOfMonth_43 : decode cX3_valueOfMonth 43 = .ok (.lstore 4, 2) := by decide +kernel
theorem dX3_valueOfMonth_45 : decode cX3_valueOfMonth 45 = .ok (.iinc 6 1, 3) := by decide +kernel
theorem dX3_valueOfMonth_48 : decode cX3_valueOfMonth 48 = .ok (.iinc 7 1, 3) := by decide +kernel
theorem dX3_valueOfMonth_51 : decode cX3_valueOfMonth 51 = .ok (.goto (-42), 3) := by decide +kernel
theorem dX3_valueOfMonth_54 : decode cX3_valueOfMonth 54 = .ok (.iload 6, 2) := by decide +kernel
theorem dX3_valueOfMonth_56 : decode cX3_valueOfMonth 56 = .ok (.ifCond .eq 12, 3) := by decide +kernel
theorem dX3_valueOfMonth_59 : decode cX3_valueOfMonth 59 = .ok (.iload 6, 2) := by decide +kernel
theorem dX3_valueOfMonth_61 : decode cX3_valueOfMonth 61 = .ok (.aload_n 0, 1) := by decide +kernel
theorem dX3_valueOfMonth_62 : decode cX3_valueOfMonth 62 = .ok (.getfield 18, 3) := by decide +kernel
theorem dX3_valueOfMonth_65 : decode cX3_valueOfMonth 65 = .ok (.if_icmp .ge 7, 3) := by decide +kernel
theorem dX3_valueOfMonth_68 : decode cX3_valueOfMonth 68 = .ok (.iconst (-1), 1) := by decide +kernel
theorem dX3_valueOfMonth_69 : decode cX3_valueOfMonth 69 = .ok (.goto 10, 3) := by decide +kernel
theorem dX3_valueOfMonth_72 : decode cX3_valueOfMonth 72 = .ok (.lload 4, 2) := by decide +kernel
theorem dX3_valueOfMonth_74 : decode cX3_valueOfMonth 74 = .ok (.iload 6, 2) := by decide +kernel
theorem dX3_valueOfMonth_76 : decode cX3_valueOfMonth 76 = .ok (.i2l, 1) := by decide +kernel
theorem dX3_valueOfMonth_77 : decode cX3_valueOfMonth 77 = .ok (.ldiv, 1) := by decide +kernel
theorem dX3_valueOfMonth_78 : decode cX3_valueOfMonth 78 = .ok (.l2i, 1) := by decide +kernel
theorem dX3_valueOfMonth_79 : decode cX3_valueOfMonth 79 = .ok (.ireturn, 1) := by decide +kernel
set_option maxRecDepth 20000 in
theorem ggX3_reckonMonths_X3_valueOfMonth : GoodIn wsX3_reckonMonths wsX3_valueOfMonth := goodIn_r _ [6, 7, 8, 9, 10, 5, 11, 12, 13, 14, 15, 16, 17, 18, 19, 20, 21, 22, 23, 24, 25, 26, 27, 28, 29, 30, 31, 32, 33, 34, 35, 36, 37, 38, 39, 40, 41] (by decide +kernel) (by decide +kernel)
set_option maxRecDepth 20000 in
theorem gX3_reckonMonths_X3_valueOfMonth : GoodIn wsX3_reckonMonths (wsV RX3 44 RX3 yX3_valueOfMonth wsX3_valueOfMonth) := goodIn_app (goodIn_of _ (by decide +kernel)) ggX3_reckonMonths_X3_valueOfMonth
theorem dX3_reckonMonths_0 : decode cX3_reckonMonths 0 = .ok (.iconst 0, 1) := by decide +kernel
theorem dX3_reckonMonths_1 : decode cX3_reckonMonths 1 = .ok (.istore_n 3, 1) := by decide +kernel
theorem dX3_reckonMonths_2 : decode cX3_reckonMonths 2 = .ok (.iload_n 3, 1) := by decide +kernel
theorem dX3_reckonMonths_3 : decode cX3_reckonMonths 3 = .ok (.bipush 24, 2) := by decide +kernel
theorem dX3_reckonMonths_5 : decode cX3_reckonMonths 5 = .ok (.if_icmp .ge 22, 3) := by decide +kernel
theorem dX3_reckonMonths_8 : decode cX3_reckonMonths 8 = .ok (.aload_n 0, 1) := by decide +kernel
theorem dX3_reckonMonths_9 : decode cX3_reckonMonths 9 = .ok (.getfield 9, 3) := by decide +kernel
theorem dX3_reckonMonths_12 : decode cX3_reckonMonths 12 = .ok (.iload_n 3, 1) := by decide +kernel
theorem dX3_reckonMonths_13 : decode cX3_reckonMonths 13 = .ok (.aload_n 0, 1) := by decide +kernel
theorem dX3_reckonMonths_14 : decode cX3_reckonMonths 14 = .ok (.aload_n 1, 1) := by decide +kernel
theorem dX3_reckonMonths_15 : decode cX3_reckonMonths 15 = .ok (.aload_n 2, 1) := by decide +kernel
theorem dX3_reckonMonths_16 : decode cX3_reckonMonths 16 = .ok (.iload_n 3, 1) := by decide +kernel
theorem dX3_reckonMonths_17 : decode cX3_reckonMonths 17 = .ok (.invokevirtual 44, 3) := by decide +kernel
theorem dX3_reckonMonths_20 : decode cX3_reckonMonths 20 = .ok (.iastore, 1) := by decide +kernel
theorem dX3_reckonMonths_21 : decode cX3_reckonMonths 21 = .ok (.iinc 3 1, 3) := by decide +kernel
theorem dX3_reckonMonths_24 : decode cX3_reckonMonths 24 = .ok (.goto (-22), 3) := by decide +kernel
theorem dX3_reckonMonths_27 : decode cX3_reckonMonths 27 = .ok (.return_, 1) := by decide +kernel
theorem dX3_smoothOf_0 : decode cX3_smoothOf 0 = .ok (.aload_n 0, 1) := by decide +kernel
theorem dX3_smoothOf_1 : decode cX3_smoothOf 1 = .ok (.getfield 9, 3) := by decide +kernel
theorem dX3_smoothOf_4 : decode cX3_smoothOf 4 = .ok (.iload_n 1, 1) := by decide +kernel
theorem dX3_smoothOf_5 : decode cX3_smoothOf 5 = .ok (.iaload, 1) := by decide +kernel
theorem dX3_smoothOf_6 : decode cX3_smoothOf 6 = .ok (.iconst (-1), 1) := by decide +kernel
theorem dX3_smoothOf_7 : decode cX3_smoothOf 7 = .ok (.if_icmp .ne 5, 3) := by decide +kernel
theorem dX3_smoothOf_10 : decode cX3_smoothOf 10 = .ok (.iconst (-1), 1) := by decide +kernel
theorem dX3_smoothOf_11 : decode cX3_smoothOf 11 = .ok (.ireturn, 1) := by decide +kernel
theorem dX3_smoothOf_12 : decode cX3_smoothOf 12 = .ok (.iload_n 2, 1) := by decide +kernel
