theorem dX3_smoothOf_13 : decode cX3_smoothOf 13 = .ok (.iconst 1, 1) := by decide +kernel
theorem dX3_smoothOf_14 : decode cX3_smoothOf 14 = .ok (.isub, 1) := by decide +kernel
theorem dX3_smoothOf_15 : decode cX3_smoothOf 15 = .ok (.iconst 2, 1) := by decide +kernel
theorem dX3_smoothOf_16 : decode cX3_smoothOf 16 = .ok (.idiv, 1) := by decide +kernel
theorem dX3_smoothOf_17 : decode cX3_smoothOf 17 = .ok (.istore_n 3, 1) := by decide +kernel
theorem dX3_smoothOf_18 : decode cX3_smoothOf 18 = .ok (.iload_n 1, 1) := by decide +kernel
theorem dX3_smoothOf_19 : decode cX3_smoothOf 19 = .ok (.iload_n 3, 1) := by decide +kernel
theorem dX3_smoothOf_20 : decode cX3_smoothOf 20 = .ok (.iadd, 1) := by decide +kernel
theorem dX3_smoothOf_21 : decode cX3_smoothOf 21 = .ok (.bipush 23, 2) := by decide +kernel
theorem dX3_smoothOf_23 : decode cX3_smoothOf 23 = .ok (.invokestatic 47, 3) := by decide +kernel
theorem dX3_smoothOf_26 : decode cX3_smoothOf 26 = .ok (.istore 4, 2) := by decide +kernel
theorem dX3_smoothOf_28 : decode cX3_smoothOf 28 = .ok (.lconst 0, 1) := by decide +kernel
theorem dX3_smoothOf_29 : decode cX3_smoothOf 29 = .ok (.lstore 5, 2) := by decide +kernel
theorem dX3_smoothOf_31 : decode cX3_smoothOf 31 = .ok (.iconst 0, 1) := by decide +kernel
theorem dX3_smoothOf_32 : decode cX3_smoothOf 32 = .ok (.istore 7, 2) := by decide +kernel
theorem dX3_smoothOf_34 : decode cX3_smoothOf 34 = .ok (.iload_n 1, 1) := by decide +kernel
theorem dX3_smoothOf_35 : decode cX3_smoothOf 35 = .ok (.iload_n 3, 1) := by decide +kernel
theorem dX3_smoothOf_36 : decode cX3_smoothOf 36 = .ok (.isub, 1) := by decide +kernel
theorem dX3_smoothOf_37 : decode cX3_smoothOf 37 = .ok (.iconst 0, 1) := by decide +kernel
theorem dX3_smoothOf_38 : decode cX3_smoothOf 38 = .ok (.invokestatic 52, 3) := by decide +kernel
theorem dX3_smoothOf_41 : decode cX3_smoothOf 41 = .ok (.istore 8, 2) := by decide +kernel
theorem dX3_smoothOf_43 : decode cX3_smoothOf 43 = .ok (.iload 8, 2) := by decide +kernel
theorem dX3_smoothOf_45 : decode cX3_smoothOf 45 = .ok (.iload 4, 2) := by decide +kernel
theorem dX3_smoothOf_47 : decode cX3_smoothOf 47 = .ok (.if_icmp .gt 36, 3) := by decide +kernel
theorem dX3_smoothOf_50 : decode cX3_smoothOf 50 = .ok (.aload_n 0, 1) := by decide +kernel
theorem dX3_smoothOf_51 : decode cX3_smoothOf 51 = .ok (.getfield 9, 3) := by decide +kernel
theorem dX3_smoothOf_54 : decode cX3_smoothOf 54 = .ok (.iload 8, 2) := by decide +kernel
theorem dX3_smoothOf_56 : decode cX3_smoothOf 56 = .ok (.iaload, 1) := by decide +kernel
theorem dX3_smoothOf_57 : decode cX3_smoothOf 57 = .ok (.iconst (-1), 1) := by decide +kernel
theorem dX3_smoothOf_58 : decode cX3_smoothOf 58 = .ok (.if_icmp .eq 19, 3) := by decide +kernel
theorem dX3_smoothOf_61 : decode cX3_smoothOf 61 = .ok (.lload 5, 2) := by decide +kernel
theorem dX3_smoothOf_63 : decode cX3_smoothOf 63 = .ok (.aload_n 0, 1) := by decide +kernel
theorem dX3_smoothOf_64 : decode cX3_smoothOf 64 = .ok (.getfield 9, 3) := by decide +kernel
theorem dX3_smoothOf_67 : decode cX3_smoothOf 67 = .ok (.iload 8, 2) := by decide +kernel
theorem dX3_smoothOf_69 : decode cX3_smoothOf 69 = .ok (.iaload, 1) := by decide +kernel
theorem dX3_smoothOf_70 : decode cX3_smoothOf 70 = .ok (.i2l, 1) := by decide +kernel
theorem dX3_smoothOf_71 : decode cX3_smoothOf 71 = .ok (.ladd, 1) := by decide +kernel
theorem dX3_smoothOf_72 : decode cX3_smoothOf 72 = .ok (.lstore 5, 2) := by decide +kernel
theorem dX3_smoothOf_74 : decode cX3_smoothOf 74 = .ok (.iinc 7 1, 3) := by decide +kernel
theorem dX3_smoothOf_77 : decode cX3_smoothOf 77 = .ok (.iinc 8 1, 3) := by decide +kernel
theorem dX3_smoothOf_80 : decode cX3_smoothOf 80 = .ok (.goto (-37), 3) := by decide +kernel
theorem dX3_smoothOf_83 : decode cX3_smoothOf 83 = .ok (.iload 7, 2) := by decide +kernel
theorem dX3_smoothOf_85 : decode cX3_smoothOf 85 = .ok (.ifCond .ne 7, 3) := by decide +kernel
theorem dX3_smoothOf_88 : decode cX3_smoothOf 88 = .ok (.iconst (-1), 1) := by decide +kernel
theorem dX3_smoothOf_89 : decode cX3_smoothOf 89 = .ok (.goto 10, 3) := by decide +kernel
theorem dX3_smoothOf_92 : decode cX3_smoothOf 92 = .ok (.lload 5, 2) := by decide +kernel
theorem dX3_smoothOf_94 : decode cX3_smoothOf 94 = .ok (.iload 7, 2) := by decide +kernel
theorem dX3_smoothOf_96 : decode cX3_smoothOf 96 = .ok (.i2l, 1) := by decide +kernel
theorem dX3_smoothOf_97 : decode cX3_smoothOf 97 = .ok (.ldiv, 1) := by decide +kernel
theorem dX3_smoothOf_98 : decode cX3_smoothOf 98 = .ok (.l2i, 1) := by decide +kernel
theorem dX3_smoothOf_99 : decode cX3_smoothOf 99 = .ok (.ireturn, 1) := by decide +kernel
set_option maxRecDepth 20000 in
theorem ggX3_reckonSmooths_X3_smoothOf : GoodIn wsX3_reckonSmooths wsX3_smoothOf := goodIn_r _ [6, 7, 8, 9, 10, 11, 12, 13, 14, 15, 16, 17] (by decide +kernel) (by decide +kernel)
set_option maxRecDepth 20000 in
theorem gX3_reckonSmooths_X3_smoothOf : GoodIn wsX3_reckonSmooths (wsV RX3 55 RX3 yX3_smoothOf wsX3_smoothOf) := goodIn_app (goodIn_of _ (by decide +kernel)) ggX3_reckonSmooths_X3_smoothOf
theorem dX3_reckonSmooths_0 : decode cX3_reckonSmooths 0 = .ok (.iconst 0, 1) := by decide +kernel
theorem dX3_reckonSmooths_1 : decode cX3_reckonSmooths 1 = .ok (.istore_n 2, 1) := by decide +kernel
theorem dX3_reckonSmooths_2 : decode cX3_reckonSmooths 2 = .ok (.iload_n 2, 1) := by decide +kernel
theorem dX3_reckonSmooths_3 : decode cX3_reckonSmooths 3 = .ok (.bipush 24, 2) := by decide +kernel
theorem dX3_reckonSmooths_5 : decode cX3_reckonSmooths 5 = .ok (.if_icmp .ge 21, 3) := by decide +kernel
theorem dX3_reckonSmooths_8 : decode cX3_reckonSmooths 8 = .ok (.aload_n 0, 1) := by decide +kernel
theorem dX3_reckonSmooths_9 : decode cX3_reckonSmooths 9 = .ok (.getfield 15, 3) := by decide +kernel
theorem dX3_reckonSmooths_12 : decode cX3_reckonSmooths 12 = .ok (.iload_n 2, 1) := by decide +kernel
theorem dX3_reckonSmooths_13 : decode cX3_reckonSmooths 13 = .ok (.aload_n 0, 1) := by decide +kernel
theorem dX3_reckonSmooths_14 : decode cX3_reckonSmooths 14 = .ok (.iload_n 2, 1) := by decide +kernel
theorem dX3_reckonSmooths_15 : decode cX3_reckonSmooths 15 = .ok (.iload_n 1, 1) := by decide +kernel
theorem dX3_reckonSmooths_16 : decode cX3_reckonSmooths 16 = .ok (.invokevirtual 55, 3) := by decide +kernel
theorem dX3_reckonSmooths_19 : decode cX3_reckonSmooths 19 = .ok (.iastore, 1) := by decide +kernel
theorem dX3_reckonSmooths_20 : decode cX3_reckonSmooths 20 = .ok (.iinc 2 1, 3) := by decide +kernel
theorem dX3_reckonSmooths_23 : decode cX3_reckonSmooths 23 = .ok (.goto (-21), 3) := by decide +kernel
theorem dX3_reckonSmooths_26 : decode cX3_reckonSmooths 26 = .ok (.return_, 1) := by decide +kernel
set_option maxRecDepth 20000 in
theorem ggX3_findTurn_X3_isTurn : GoodIn wsX3_findTurn wsX3_isTurn := goodIn_r _ [5, 6, 7, 8, 9, 10, 11, 12, 13, 14, 15, 16, 4, 17, 18, 19, 20] (by decide +kernel) (by decide +kernel)
set_option maxRecDepth 20000 in
theorem gX3_findTurn_X3_isTurn : GoodIn wsX3_findTurn (wsV RX3 58 RX3 yX3_isTurn wsX3_isTurn) := goodIn_app (goodIn_of _ (by decide +kernel)) ggX3_findTurn_X3_isTurn
theorem dX3_findTurn_0 : decode cX3_findTurn 0 = .ok (.iconst 0, 1) := by decide +kernel
theorem dX3_findTurn_1 : decode cX3_findTurn 1 = .ok (.istore 4, 2) := by decide +kernel
theorem dX3_findTurn_3 : decode cX3_findTurn 3 = .ok (.iconst 0, 1) := by decide +kernel
theorem dX3_findTurn_4 : decode cX3_findTurn 4 = .ok (.istore 5, 2) := by decide +kernel
theorem dX3_findTurn_6 : decode cX3_findTurn 6 = .ok (.iload 5, 2) := by decide +kernel
theorem dX3_findTurn_8 : decode cX3_findTurn 8 = .ok (.bipush 24, 2) := by decide +kernel
theorem dX3_findTurn_10 : decode cX3_findTurn 10 = .ok (.if_icmp .ge 32, 3) := by decide +kernel
theorem dX3_findTurn_13 : decode cX3_findTurn 13 = .ok (.aload_n 0, 1) := by decide +kernel
theorem dX3_findTurn_14 : decode cX3_findTurn 14 = .ok (.iload 5, 2) := by decide +kernel
theorem dX3_findTurn_16 : decode cX3_findTurn 16 = .ok (.iload_n 2, 1) := by decide +kernel
theorem dX3_findTurn_17 : decode cX3_findTurn 17 = .ok (.iload_n 3, 1) := by decide +kernel
theorem dX3_findTurn_18 : decode cX3_findTurn 18 = .ok (.invokevirtual 58, 3) := by decide +kernel
theorem dX3_findTurn_21 : decode cX3_findTurn 21 = .ok (.ifCond .eq 15, 3) := by decide +kernel
theorem dX3_findTurn_24 : decode cX3_findTurn 24 = .ok (.iload 4, 2) := by decide +kernel
theorem dX3_findTurn_26 : decode cX3_findTurn 26 = .ok (.iload_n 1, 1) := by decide +kernel
theorem dX3_findTurn_27 : decode cX3_findTurn 27 = .ok (.if_icmp .ne 6, 3) := by decide +kernel
theorem dX3_findTurn_30 : decode cX3_findTurn 30 = .ok (.iload 5, 2) := by decide +kernel
theorem dX3_findTurn_32 : decode cX3_findTurn 32 = .ok (.ireturn, 1) := by decide +kernel
theorem dX3_findTurn_33 : decode cX3_findTurn 33 = .ok (.iinc 4 1, 3) := by decide +kernel
theorem dX3_findTurn_36 : decode cX3_findTurn 36 = .ok (.iinc 5 1, 3) := by decide +kernel
theorem dX3_findTurn_39 : decode cX3_findTurn 39 = .ok (.goto (-33), 3) := by decide +kernel
theorem dX3_findTurn_42 : decode cX3_findTurn 42 = .ok (.iconst (-1), 1) := by decide +kernel
theorem dX3_findTurn_43 : decode cX3_findTurn 43 = .ok (.ireturn, 1) := by decide +kernel
set_option maxRecDepth 20000 in
theorem ggX3_isTurn_X3_outdoes : GoodIn wsX3_isTurn wsX3_outdoes := goodIn_r _ [13, 1, 14, 15, 16] (by decide +kernel) (by decide +kernel)
set_option maxRecDepth 20000 in
theorem gX3_isTurn_X3_outdoes : GoodIn wsX3_isTurn (wsV RX3 62 RX3 yX3_outdoes wsX3_outdoes) := goodIn_app (goodIn_of _ (by decide +kernel)) ggX3_isTurn_X3_outdoes
theorem dX3_isTurn_0 : decode cX3_isTurn 0 = .ok (.aload_n 0, 1) := by decide +kernel
theorem dX3_isTurn_1 : decode cX3_isTurn 1 = .ok (.getfield 15, 3) := by decide +kernel
theorem dX3_isTurn_4 : decode cX3_isTurn 4 = .ok (.iload_n 1, 1) := by decide +kernel
theorem dX3_isTurn_5 : decode cX3_isTurn 5 = .ok (.iaload, 1) := by decide +kernel
theorem dX3_isTurn_6 : decode cX3_isTurn 6 = .ok (.iconst (-1), 1) := by decide +kernel
theorem dX3_isTurn_7 : decode cX3_isTurn 7 = .ok (.if_icmp .ne 5, 3) := by decide +kernel
theorem dX3_isTurn_10 : decode cX3_isTurn 10 = .ok (.iconst 0, 1) := by decide +kernel
theorem dX3_isTurn_11 : decode cX3_isTurn 11 = .ok (.ireturn, 1) := by decide +kernel
theorem dX3_isTurn_12 : decode cX3_isTurn 12 = .ok (.iload_n 1, 1) := by decide +kernel
theorem dX3_isTurn_13 : decode cX3_isTurn 13 = .ok (.iload_n 2, 1) := by decide +kernel
theorem dX3_isTurn_14 : decode cX3_isTurn 14 = .ok (.iadd, 1) := by decide +kernel
theorem dX3_isTurn_15 : decode cX3_isTurn 15 = .ok (.bipush 23, 2) := by decide +kernel
theorem dX3_isTurn_17 : decode cX3_isTurn 17 = .ok (.invokestatic 47, 3) := by decide +kernel
theorem dX3_isTurn_20 : decode cX3_isTurn 20 = .ok (.istore 4, 2) := by decide +kernel
theorem dX3_isTurn_22 : decode cX3_isTurn 22 = .ok (.iload_n 1, 1) := by decide +kernel
theorem dX3_isTurn_23 : decode cX3_isTurn 23 = .ok (.iload_n 2, 1) := by decide +kernel
theorem dX3_isTurn_24 : decode cX3_isTurn 24 = .ok (.isub, 1) := by decide +kernel
theorem dX3_isTurn_25 : decode cX3_isTurn 25 = .ok (.iconst 0, 1) := by decide +kernel
theorem dX3_isTurn_26 : decode cX3_isTurn 26 = .ok (.invokestatic 52, 3) := by decide +kernel
theorem dX3_isTurn_29 : decode cX3_isTurn 29 = .ok (.istore 5, 2) := by decide +kernel
theorem dX3_isTurn_31 : decode cX3_isTurn 31 = .ok (.iload 5, 2) := by decide +kernel
theorem dX3_isTurn_33 : decode cX3_isTurn 33 = .ok (.iload 4, 2) := by decide +kernel
theorem dX3_isTurn_35 : decode cX3_isTurn 35 = .ok (.if_icmp .gt 39, 3) := by decide +kernel
theorem dX3_isTurn_38 : decode cX3_isTurn 38 = .ok (.iload 5, 2) := by decide +kernel
theorem dX3_isTurn_40 : decode cX3_isTurn 40 = .ok (.iload_n 1, 1) := by decide +kernel
theorem dX3_isTurn_41 : decode cX3_isTurn 41 = .ok (.if_icmp .eq 27, 3) := by decide +kernel
theorem dX3_isTurn_44 : decode cX3_isTurn 44 = .ok (.aload_n 0, 1) := by decide +kernel
theorem dX3_isTurn_45 : decode cX3_isTurn 45 = .ok (.getfield 15, 3) := by decide +kernel
theorem dX3_isTurn_48 : decode cX3_isTurn 48 = .ok (.iload 5, 2) := by decide +kernel
theorem dX3_isTurn_50 : decode cX3_isTurn 50 = .ok (.iaload, 1) := by decide +kernel
theorem dX3_isTurn_51 : decode cX3_isTurn 51 = .ok (.iconst (-1), 1) := by decide +kernel
theorem dX3_isTurn_52 : decode cX3_isTurn 52 = .ok (.if_icmp .eq 16, 3) := by decide +kernel
theorem dX3_isTurn_55 : decode cX3_isTurn 55 = .ok (.aload_n 0, 1) := by decide +kernel
theorem dX3_isTurn_56 : decode cX3_isTurn 56 = .ok (.iload 5, 2) := by decide +kernel
theorem dX3_isTurn_58 : decode cX3_isTurn 58 = .ok (.iload_n 1, 1) := by decide +kernel
theorem dX3_isTurn_59 : decode cX3_isTurn 59 = .ok (.iload_n 3, 1) := by decide +kernel
theorem dX3_isTurn_60 : decode cX3_isTurn 60 = .ok (.invokevirtual 62, 3) := by decide +kernel
theorem dX3_isTurn_63 : decode cX3_isTurn 63 = .ok (.ifCond .eq 5, 3) := by decide +kernel
theorem dX3_isTurn_66 : decode cX3_isTurn 66 = .ok (.iconst 0, 1) := by decide +kernel
theorem dX3_isTurn_67 : decode cX3_isTurn 67 = .ok (.ireturn, 1) := by decide +kernel
theorem dX3_isTurn_68 : decode cX3_isTurn 68 = .ok (.iinc 5 1, 3) := by decide +kernel
theorem dX3_isTurn_71 : decode cX3_isTurn 71 = .ok (.goto (-40), 3) := by decide +kernel
theorem dX3_isTurn_74 : decode cX3_isTurn 74 = .ok (.iconst 1, 1) := by decide +kernel
theorem dX3_isTurn_75 : decode cX3_isTurn 75 = .ok (.ireturn, 1) := by decide +kernel
theorem dX3_outdoes_0 : decode cX3_outdoes 0 = .ok (.iload_n 3, 1) := by decide +kernel
theorem dX3_outdoes_1 : decode cX3_outdoes 1 = .ok (.ifCond .eq 19, 3) := by decide +kernel
theorem dX3_outdoes_4 : decode cX3_outdoes 4 = .ok (.aload_n 0, 1) := by decide +kernel
theorem dX3_outdoes_5 : decode cX3_outdoes 5 = .ok (.getfield 15, 3) := by decide +kernel
theorem dX3_outdoes_8 : decode cX3_outdoes 8 = .ok (.iload_n 1, 1) := by decide +kernel
theorem dX3_outdoes_9 : decode cX3_outdoes 9 = .ok (.iaload, 1) := by decide +kernel
theorem dX3_outdoes_10 : decode cX3_outdoes 10 = .ok (.aload_n 0, 1) := by decide +kernel
theorem dX3_outdoes_11 : decode cX3_outdoes 11 = .ok (.getfield 15, 3) := by decide +kernel
theorem dX3_outdoes_14 : decode cX3_outdoes 14 = .ok (.iload_n 2, 1) := by decide +kernel
theorem dX3_outdoes_15 : decode cX3_outdoes 15 = .ok (.iaload, 1) := by decide +kernel
theorem dX3_outdoes_16 : decode cX3_outdoes 16 = .ok (.isub, 1) := by decide +kernel
theorem dX3_outdoes_17 : decode cX3_outdoes 17 = .ok (.goto 16, 3) := by decide +kernel
theorem dX3_outdoes_20 : decode cX3_outdoes 20 = .ok (.aload_n 0, 1) := by decide +kernel
theorem dX3_outdoes_21 : decode cX3_outdoes 21 = .ok (.getfield 15, 3) := by decide +kernel
theorem dX3_outdoes_24 : decode cX3_outdoes 24 = .ok (.iload_n 2, 1) := by decide +kernel
theorem dX3_outdoes_25 : decode cX3_outdoes 25 = .ok (.iaload, 1) := by decide +kernel
theorem dX3_outdoes_26 : decode cX3_outdoes 26 = .ok (.aload_n 0, 1) := by decide +kernel
theorem dX3_outdoes_27 : decode cX3_outdoes 27 = .ok (.getfield 15, 3) := by decide +kernel
theorem dX3_outdoes_30 : decode cX3_outdoes 30 = .ok (.iload_n 1, 1) := by decide +kernel
theorem dX3_outdoes_31 : decode cX3_outdoes 31 = .ok (.iaload, 1) := by decide +kernel
theorem dX3_outdoes_32 : decode cX3_outdoes 32 = .ok (.isub, 1) := by decide +kernel
theorem dX3_outdoes_33 : decode cX3_outdoes 33 = .ok (.istore 4, 2) := by decide +kernel
theorem dX3_outdoes_35 : decode cX3_outdoes 35 = .ok (.iload_n 1, 1) := by decide +kernel
theorem dX3_outdoes_36 : decode cX3_outdoes 36 = .ok (.iload_n 2, 1) := by decide +kernel
theorem dX3_outdoes_37 : decode cX3_outdoes 37 = .ok (.if_icmp .ge 16, 3) := by decide +kernel
theorem dX3_outdoes_40 : decode cX3_outdoes 40 = .ok (.iload 4, 2) := by decide +kernel
theorem dX3_outdoes_42 : decode cX3_outdoes 42 = .ok (.ifCond .lt 7, 3) := by decide +kernel
theorem dX3_outdoes_45 : decode cX3_outdoes 45 = .ok (.iconst 1, 1) := by decide +kernel
theorem dX3_outdoes_46 : decode cX3_outdoes 46 = .ok (.goto 17, 3) := by decide +kernel
theorem dX3_outdoes_49 : decode cX3_outdoes 49 = .ok (.iconst 0, 1) := by decide +kernel
theorem dX3_outdoes_50 : decode cX3_outdoes 50 = .ok (.goto 13, 3) := by decide +kernel
theorem dX3_outdoes_53 : decode cX3_outdoes 53 = .ok (.iload 4, 2) := by decide +kernel
theorem dX3_outdoes_55 : decode cX3_outdoes 55 = .ok (.ifCond .le 7, 3) := by decide +kernel
theorem dX3_outdoes_58 : decode cX3_outdoes 58 = .ok (.iconst 1, 1) := by decide +kernel
theorem dX3_outdoes_59 : decode cX3_outdoes 59 = .ok (.goto 4, 3) := by decide +kernel
theorem dX3_outdoes_62 : decode cX3_outdoes 62 = .ok (.iconst 0, 1) := by decide +kernel
theorem dX3_outdoes_63 : decode cX3_outdoes 63 = .ok (.ireturn, 1) := by decide +kernel
theorem dX4_init_0 : decode cX4_init 0 = .ok (.aload_n 0, 1) := by decide +kernel
theorem dX4_init_1 : decode cX4_init 1 = .ok (.invokespecial 3, 3) := by decide +kernel
theorem dX4_init_4 : decode cX4_init 4 = .ok (.aload_n 0, 1) := by decide +kernel
theorem dX4_init_5 : decode cX4_init 5 = .ok (.bipush 21, 2) := by decide +kernel
theorem dX4_init_7 : decode cX4_init 7 = .ok (.newarray .int, 2) := by decide +kernel
theorem dX4_init_9 : decode cX4_init 9 = .ok (.putfield 9, 3) := by decide +kernel
theorem dX4_init_12 : decode cX4_init 12 = .ok (.aload_n 0, 1) := by decide +kernel
theorem dX4_init_13 : decode cX4_init 13 = .ok (.bipush 21, 2) := by decide +kernel
theorem dX4_init_15 : decode cX4_init 15 = .ok (.newarray .int, 2) := by decide +kernel
theorem dX4_init_17 : decode cX4_init 17 = .ok (.putfield 15, 3) := by decide +kernel
theorem dX4_init_20 : decode cX4_init 20 = .ok (.aload_n 0, 1) := by decide +kernel
theorem dX4_init_21 : decode cX4_init 21 = .ok (.bipush 21, 2) := by decide +kernel
theorem dX4_init_23 : decode cX4_init 23 = .ok (.newarray .int, 2) := by decide +kernel
theorem dX4_init_25 : decode cX4_init 25 = .ok (.putfield 18, 3) := by decide +kernel
theorem dX4_init_28 : decode cX4_init 28 = .ok (.aload_n 0, 1) := by decide +kernel
theorem dX4_init_29 : decode cX4_init 29 = .ok (.bipush 21, 2) := by decide +kernel
theorem dX4_init_31 : decode cX4_init 31 = .ok (.newarray .int, 2) := by decide +kernel
theorem dX4_init_33 : decode cX4_init 33 = .ok (.putfield 21, 3) := by decide +kernel
theorem dX4_init_36 : decode cX4_init 36 = .ok (.aload_n 0, 1) := by decide +kernel
theorem dX4_init_37 : decode cX4_init 37 = .ok (.bipush 21, 2) := by decide +kernel
theorem dX4_init_39 : decode cX4_init 39 = .ok (.newarray .int, 2) := by decide +kernel
theorem dX4_init_41 : decode cX4_init 41 = .ok (.putfield 24, 3) := by decide +kernel
theorem dX4_init_44 : decode cX4_init 44 = .ok (.aload_n 0, 1) := by decide +kernel
theorem dX4_init_45 : decode cX4_init 45 = .ok (.iconst 0, 1) := by decide +kernel
theorem dX4_init_46 : decode cX4_init 46 = .ok (.putfield 27, 3) := by decide +kernel
theorem dX4_init_49 : decode cX4_init 49 = .ok (.return_, 1) := by decide +kernel
set_option maxRecDepth 20000 in
theorem ggX4_gather_J7_fill_53178 : GoodIn wsX4_gather wsJ7_fill_53178 := goodIn_r _ [6] (by decide +kernel) (by decide +kernel)
set_option maxRecDepth 20000 in
theorem gX4_gather_J7_fill_53178 : GoodIn wsX4_gather (va_wsS RX4 31 yJ7_fill_53178 wsJ7_fill_53178) := goodIn_app (goodIn_of _ (by decide +kernel)) ggX4_gather_J7_fill_53178
set_option maxRecDepth 20000 in
theorem ggX4_gather_X5_haveBoth : GoodIn wsX4_gather wsX5_haveBoth := goodIn_r _ [11, 12, 13, 14, 10, 15, 16, 27, 28, 29, 30, 31] (by decide +kernel) (by decide +kernel)
set_option maxRecDepth 20000 in
theorem gX4_gather_X5_haveBoth : GoodIn wsX4_gather (wsV RX4 37 RX5 yX5_haveBoth wsX5_haveBoth) := goodIn_app (goodIn_of _ (by decide +kernel)) ggX4_gather_X5_haveBoth
set_option maxRecDepth 20000 in
theorem ggX4_gather_X5_groupsOf : GoodIn wsX4_gather wsX5_groupsOf := goodIn_r _ [20, 16, 27, 28, 29, 30, 31] (by decide +kernel) (by decide +kernel)
set_option maxRecDepth 20000 in
theorem gX4_gather_X5_groupsOf : GoodIn wsX4_gather (wsV RX4 43 RX5 yX5_groupsOf wsX5_groupsOf) := goodIn_app (goodIn_of _ (by decide +kernel)) ggX4_gather_X5_groupsOf
theorem dX4_gather_0 : decode cX4_gather 0 = .ok (.aload_n 0, 1) := by decide +kernel
theorem dX4_gather_1 : decode cX4_gather 1 = .ok (.getfield 9, 3) := by decide +kernel
theorem dX4_gather_4 : decode cX4_gather 4 = .ok (.iconst 0, 1) := by decide +kernel
theorem dX4_gather_5 : decode cX4_gather 5 = .ok (.invokestatic 31, 3) := by decide +kernel
theorem dX4_gather_8 : decode cX4_gather 8 = .ok (.aload_n 0, 1) := by decide +kernel
theorem dX4_gather_9 : decode cX4_gather 9 = .ok (.getfield 15, 3) := by decide +kernel
theorem dX4_gather_12 : decode cX4_gather 12 = .ok (.iconst 0, 1) := by decide +kernel
theorem dX4_gather_13 : decode cX4_gather 13 = .ok (.invokestatic 31, 3) := by decide +kernel
theorem dX4_gather_16 : decode cX4_gather 16 = .ok (.iconst 0, 1) := by decide +kernel
theorem dX4_gather_17 : decode cX4_gather 17 = .ok (.istore 4, 2) := by decide +kernel
theorem dX4_gather_19 : decode cX4_gather 19 = .ok (.iload 4, 2) := by decide +kernel
theorem dX4_gather_21 : decode cX4_gather 21 = .ok (.sipush 240, 3) := by decide +kernel
theorem dX4_gather_24 : decode cX4_gather 24 = .ok (.if_icmp .ge 57, 3) := by decide +kernel
theorem dX4_gather_27 : decode cX4_gather 27 = .ok (.aload_n 1, 1) := by decide +kernel
theorem dX4_gather_28 : decode cX4_gather 28 = .ok (.iload_n 2, 1) := by decide +kernel
theorem dX4_gather_29 : decode cX4_gather 29 = .ok (.iload_n 3, 1) := by decide +kernel
theorem dX4_gather_30 : decode cX4_gather 30 = .ok (.iload 4, 2) := by decide +kernel
theorem dX4_gather_32 : decode cX4_gather 32 = .ok (.invokevirtual 37, 3) := by decide +kernel
theorem dX4_gather_35 : decode cX4_gather 35 = .ok (.ifCond .eq 40, 3) := by decide +kernel
theorem dX4_gather_38 : decode cX4_gather 38 = .ok (.aload_n 1, 1) := by decide +kernel
theorem dX4_gather_39 : decode cX4_gather 39 = .ok (.iload_n 2, 1) := by decide +kernel
theorem dX4_gather_40 : decode cX4_gather 40 = .ok (.iload 4, 2) := by decide +kernel
theorem dX4_gather_42 : decode cX4_gather 42 = .ok (.invokevirtual 43, 3) := by decide +kernel
theorem dX4_gather_45 : decode cX4_gather 45 = .ok (.istore 5, 2) := by decide +kernel
theorem dX4_gather_47 : decode cX4_gather 47 = .ok (.aload_n 0, 1) := by decide +kernel
theorem dX4_gather_48 : decode cX4_gather 48 = .ok (.getfield 9, 3) := by decide +kernel
theorem dX4_gather_51 : decode cX4_gather 51 = .ok (.iload 5, 2) := by decide +kernel
theorem dX4_gather_53 : decode cX4_gather 53 = .ok (.dup2, 1) := by decide +kernel
theorem dX4_gather_54 : decode cX4_gather 54 = .ok (.iaload, 1) := by decide +kernel
theorem dX4_gather_55 : decode cX4_gather 55 = .ok (.aload_n 1, 1) := by decide +kernel
theorem dX4_gather_56 : decode cX4_gather 56 = .ok (.iload_n 3, 1) := by decide +kernel
theorem dX4_gather_57 : decode cX4_gather 57 = .ok (.iload 4, 2) := by decide +kernel
theorem dX4_gather_59 : decode cX4_gather 59 = .ok (.invokevirtual 43, 3) := by decide +kernel
theorem dX4_gather_62 : decode cX4_gather 62 = .ok (.iadd, 1) := by decide +kernel
theorem dX4_gather_63 : decode cX4_gather 63 = .ok (.iastore, 1) := by decide +kernel
theorem dX4_gather_64 : decode cX4_gather 64 = .ok (.aload_n 0, 1) := by decide +kernel
theorem dX4_gather_65 : decode cX4_gather 65 = .ok (.getfield 15, 3) := by decide +kernel
theorem dX4_gather_68 : decode cX4_gather 68 = .ok (.iload 5, 2) := by decide +kernel
theorem dX4_gather_70 : decode cX4_gather 70 = .ok (.dup2, 1) := by decide +kernel
theorem dX4_gather_71 : decode cX4_gather 71 = .ok (.iaload, 1) := by decide +kernel
theorem dX4_gather_72 : decode cX4_gather 72 = .ok (.iconst 1, 1) := by decide +kernel
theorem dX4_gather_73 : decode cX4_gather 73 = .ok (.iadd, 1) := by decide +kernel
theorem dX4_gather_74 : decode cX4_gather 74 = .ok (.iastore, 1) := by decide +kernel
theorem dX4_gather_75 : decode cX4_gather 75 = .ok (.iinc 4 1, 3) := by decide +kernel
theorem dX4_gather_78 : decode cX4_gather 78 = .ok (.goto (-59), 3) := by decide +kernel
theorem dX4_gather_81 : decode cX4_gather 81 = .ok (.return_, 1) := by decide +kernel
set_option maxRecDepth 20000 in
theorem ggX4_pool_X4_joinFalling : GoodIn wsX4_pool wsX4_joinFalling := goodIn_r _ [11, 1, 3, 5, 12, 13, 14, 10, 15, 16, 17, 18, 19, 20, 21] (by decide +kernel) (by decide +kernel)
set_option maxRecDepth 20000 in
theorem gX4_pool_X4_joinFalling : GoodIn wsX4_pool (wsV RX4 47 RX4 yX4_joinFalling wsX4_joinFalling) := goodIn_app (goodIn_of _ (by decide +kernel)) ggX4_pool_X4_joinFalling
theorem dX4_pool_0 : decode cX4_pool 0 = .ok (.aload_n 0, 1) := by decide +kernel
theorem dX4_pool_1 : decode cX4_pool 1 = .ok (.iconst 0, 1) := by decide +kernel
theorem dX4_pool_2 : decode cX4_pool 2 = .ok (.putfield 27, 3) := by decide +kernel
theorem dX4_pool_5 : decode cX4_pool 5 = .ok (.iconst 0, 1) := by decide +kernel
theorem dX4_pool_6 : decode cX4_pool 6 = .ok (.istore_n 1, 1) := by decide +kernel
theorem dX4_pool_7 : decode cX4_pool 7 = .ok (.iload_n 1, 1) := by decide +kernel
theorem dX4_pool_8 : decode cX4_pool 8 = .ok (.bipush 20, 2) := by decide +kernel
theorem dX4_pool_10 : decode cX4_pool 10 = .ok (.if_icmp .gt 72, 3) := by decide +kernel
theorem dX4_pool_13 : decode cX4_pool 13 = .ok (.aload_n 0, 1) := by decide +kernel
theorem dX4_pool_14 : decode cX4_pool 14 = .ok (.getfield 15, 3) := by decide +kernel
theorem dX4_pool_17 : decode cX4_pool 17 = .ok (.iload_n 1, 1) := by decide +kernel
theorem dX4_pool_18 : decode cX4_pool 18 = .ok (.iaload, 1) := by decide +kernel
theorem dX4_pool_19 : decode cX4_pool 19 = .ok (.ifCond .le 57, 3) := by decide +kernel
theorem dX4_pool_22 : decode cX4_pool 22 = .ok (.aload_n 0, 1) := by decide +kernel
theorem dX4_pool_23 : decode cX4_pool 23 = .ok (.getfield 18, 3) := by decide +kernel
theorem dX4_pool_26 : decode cX4_pool 26 = .ok (.aload_n 0, 1) := by decide +kernel
theorem dX4_pool_27 : decode cX4_pool 27 = .ok (.getfield 27, 3) := by decide +kernel
theorem dX4_pool_30 : decode cX4_pool 30 = .ok (.aload_n 0, 1) := by decide +kernel
theorem dX4_pool_31 : decode cX4_pool 31 = .ok (.getfield 9, 3) := by decide +kernel
theorem dX4_pool_34 : decode cX4_pool 34 = .ok (.iload_n 1, 1) := by decide +kernel
theorem dX4_pool_35 : decode cX4_pool 35 = .ok (.iaload, 1) := by decide +kernel
theorem dX4_pool_36 : decode cX4_pool 36 = .ok (.iastore, 1) := by decide +kernel
theorem dX4_pool_37 : decode cX4_pool 37 = .ok (.aload_n 0, 1) := by decide +kernel
theorem dX4_pool_38 : decode cX4_pool 38 = .ok (.getfield 21, 3) := by decide +kernel
theorem dX4_pool_41 : decode cX4_pool 41 = .ok (.aload_n 0, 1) := by decide +kernel
theorem dX4_pool_42 : decode cX4_pool 42 = .ok (.getfield 27, 3) := by decide +kernel
theorem dX4_pool_45 : decode cX4_pool 45 = .ok (.aload_n 0, 1) := by decide +kernel
theorem dX4_pool_46 : decode cX4_pool 46 = .ok (.getfield 15, 3) := by decide +kernel
theorem dX4_pool_49 : decode cX4_pool 49 = .ok (.iload_n 1, 1) := by decide +kernel
theorem dX4_pool_50 : decode cX4_pool 50 = .ok (.iaload, 1) := by decide +kernel
theorem dX4_pool_51 : decode cX4_pool 51 = .ok (.iastore, 1) := by decide +kernel
theorem dX4_pool_52 : decode cX4_pool 52 = .ok (.aload_n 0, 1) := by decide +kernel
theorem dX4_pool_53 : decode cX4_pool 53 = .ok (.getfield 24, 3) := by decide +kernel
theorem dX4_pool_56 : decode cX4_pool 56 = .ok (.aload_n 0, 1) := by decide +kernel
theorem dX4_pool_57 : decode cX4_pool 57 = .ok (.getfield 27, 3) := by decide +kernel
theorem dX4_pool_60 : decode cX4_pool 60 = .ok (.iload_n 1, 1) := by decide +kernel
theorem dX4_pool_61 : decode cX4_pool 61 = .ok (.iastore, 1) := by decide +kernel
theorem dX4_pool_62 : decode cX4_pool 62 = .ok (.aload_n 0, 1) := by decide +kernel
theorem dX4_pool_63 : decode cX4_pool 63 = .ok (.dup, 1) := by decide +kernel
theorem dX4_pool_64 : decode cX4_pool 64 = .ok (.getfield 27, 3) := by decide +kernel
theorem dX4_pool_67 : decode cX4_pool 67 = .ok (.iconst 1, 1) := by decide +kernel
theorem dX4_pool_68 : decode cX4_pool 68 = .ok (.iadd, 1) := by decide +kernel
theorem dX4_pool_69 : decode cX4_pool 69 = .ok (.putfield 27, 3) := by decide +kernel
theorem dX4_pool_72 : decode cX4_pool 72 = .ok (.aload_n 0, 1) := by decide +kernel
theorem dX4_pool_73 : decode cX4_pool 73 = .ok (.invokevirtual 47, 3) := by decide +kernel
theorem dX4_pool_76 : decode cX4_pool 76 = .ok (.iinc 1 1, 3) := by decide +kernel
theorem dX4_pool_79 : decode cX4_pool 79 = .ok (.goto (-72), 3) := by decide +kernel
theorem dX4_pool_82 : decode cX4_pool 82 = .ok (.return_, 1) := by decide +kernel
set_option maxRecDepth 20000 in
theorem ggX4_joinFalling_X4_lastFalls : GoodIn wsX4_joinFalling wsX4_lastFalls := goodIn_r _ [8, 1, 2, 3, 9, 10, 11, 12, 13, 14] (by decide +kernel) (by decide +kernel)
set_option maxRecDepth 20000 in
theorem gX4_joinFalling_X4_lastFalls : GoodIn wsX4_joinFalling (wsV RX4 50 RX4 yX4_lastFalls wsX4_lastFalls) := goodIn_app (goodIn_of _ (by decide +kernel)) ggX4_joinFalling_X4_lastFalls
theorem dX4_joinFalling_0 : decode cX4_joinFalling 0 = .ok (.aload_n 0, 1) := by decide +kernel
theorem dX4_joinFalling_1 : decode cX4_joinFalling 1 = .ok (.getfield 27, 3) := by decide +kernel
theorem dX4_joinFalling_4 : decode cX4_joinFalling 4 = .ok (.iconst 1, 1) := by decide +kernel
theorem dX4_joinFalling_5 : decode cX4_joinFalling 5 = .ok (.if_icmp .le 73, 3) := by decide +kernel
theorem dX4_joinFalling_8 : decode cX4_joinFalling 8 = .ok (.aload_n 0, 1) := by decide +kernel
theorem dX4_joinFalling_9 : decode cX4_joinFalling 9 = .ok (.invokevirtual 50, 3) := by decide +kernel
theorem dX4_joinFalling_12 : decode cX4_joinFalling 12 = .ok (.ifCond .eq 66, 3) := by decide +kernel
theorem dX4_joinFalling_15 : decode cX4_joinFalling 15 = .ok (.aload_n 0, 1) := by decide +kernel
theorem dX4_joinFalling_16 : decode cX4_joinFalling 16 = .ok (.getfield 18, 3) := by decide +kernel
theorem dX4_joinFalling_19 : decode cX4_joinFalling 19 = .ok (.aload_n 0, 1) := by decide +kernel
theorem dX4_joinFalling_20 : decode cX4_joinFalling 20 = .ok (.getfield 27, 3) := by decide +kernel
theorem dX4_joinFalling_23 : decode cX4_joinFalling 23 = .ok (.iconst 2, 1) := by decide +kernel
theorem dX4_joinFalling_24 : decode cX4_joinFalling 24 = .ok (.isub, 1) := by decide +kernel
theorem dX4_joinFalling_25 : decode cX4_joinFalling 25 = .ok (.dup2, 1) := by decide +kernel
theorem dX4_joinFalling_26 : decode cX4_joinFalling 26 = .ok (.iaload, 1) := by decide +kernel
theorem dX4_joinFalling_27 : decode cX4_joinFalling 27 = .ok (.aload_n 0, 1) := by decide +kernel
theorem dX4_joinFalling_28 : decode cX4_joinFalling 28 = .ok (.getfield 18, 3) := by decide +kernel
theorem dX4_joinFalling_31 : decode cX4_joinFalling 31 = .ok (.aload_n 0, 1) := by decide +kernel
theorem dX4_joinFalling_32 : decode cX4_joinFalling 32 = .ok (.getfield 27, 3) := by decide +kernel
theorem dX4_joinFalling_35 : decode cX4_joinFalling 35 = .ok (.iconst 1, 1) := by decide +kernel
theorem dX4_joinFalling_36 : decode cX4_joinFalling 36 = .ok (.isub, 1) := by decide +kernel
theorem dX4_joinFalling_37 : decode cX4_joinFalling 37 = .ok (.iaload, 1) := by decide +kernel
theorem dX4_joinFalling_38 : decode cX4_joinFalling 38 = .ok (.iadd, 1) := by decide +kernel
theorem dX4_joinFalling_39 : decode cX4_joinFalling 39 = .ok (.iastore, 1) := by decide +kernel
theorem dX4_joinFalling_40 : decode cX4_joinFalling 40 = .ok (.aload_n 0, 1) := by decide +kernel
theorem dX4_joinFalling_41 : decode cX4_joinFalling 41 = .ok (.getfield 21, 3) := by decide +kernel
theorem dX4_joinFalling_44 : decode cX4_joinFalling 44 = .ok (.aload_n 0, 1) := by decide +kernel
theorem dX4_joinFalling_45 : decode cX4_joinFalling 45 = .ok (.getfield 27, 3) := by decide +kernel
theorem dX4_joinFalling_48 : decode cX4_joinFalling 48 = .ok (.iconst 2, 1) := by decide +kernel
theorem dX4_joinFalling_49 : decode cX4_joinFalling 49 = .ok (.isub, 1) := by decide +kernel
theorem dX4_joinFalling_50 : decode cX4_joinFalling 50 = .ok (.dup2, 1) := by decide +kernel
theorem dX4_joinFalling_51 : decode cX4_joinFalling 51 = .ok (.iaload, 1) := by decide +kernel
theorem dX4_joinFalling_52 : decode cX4_joinFalling 52 = .ok (.aload_n 0, 1) := by decide +kernel
theorem dX4_joinFalling_53 : decode cX4_joinFalling 53 = .ok (.getfield 21, 3) := by decide +kernel
theorem dX4_joinFalling_56 : decode cX4_joinFalling 56 = .ok (.aload_n 0, 1) := by decide +kernel
theorem dX4_joinFalling_57 : decode cX4_joinFalling 57 = .ok (.getfield 27, 3) := by decide +kernel
theorem dX4_joinFalling_60 : decode cX4_joinFalling 60 = .ok (.iconst 1, 1) := by decide +kernel
theorem dX4_joinFalling_61 : decode cX4_joinFalling 61 = .ok (.isub, 1) := by decide +kernel
theorem dX4_joinFalling_62 : decode cX4_joinFalling 62 = .ok (.iaload, 1) := by decide +kernel
theorem dX4_joinFalling_63 : decode cX4_joinFalling 63 = .ok (.iadd, 1) := by decide +kernel
theorem dX4_joinFalling_64 : decode cX4_joinFalling 64 = .ok (.iastore, 1) := by decide +kernel
theorem dX4_joinFalling_65 : decode cX4_joinFalling 65 = .ok (.aload_n 0, 1) := by decide +kernel
theorem dX4_joinFalling_66 : decode cX4_joinFalling 66 = .ok (.dup, 1) := by decide +kernel
theorem dX4_joinFalling_67 : decode cX4_joinFalling 67 = .ok (.getfield 27, 3) := by decide +kernel
theorem dX4_joinFalling_70 : decode cX4_joinFalling 70 = .ok (.iconst 1, 1) := by decide +kernel
theorem dX4_joinFalling_71 : decode cX4_joinFalling 71 = .ok (.isub, 1) := by decide +kernel
theorem dX4_joinFalling_72 : decode cX4_joinFalling 72 = .ok (.putfield 27, 3) := by decide +kernel
theorem dX4_joinFalling_75 : decode cX4_joinFalling 75 = .ok (.goto (-75), 3) := by decide +kernel
theorem dX4_joinFalling_78 : decode cX4_joinFalling 78 = .ok (.return_, 1) := by decide +kernel
theorem dX4_lastFalls_0 : decode cX4_lastFalls 0 = .ok (.aload_n 0, 1) := by decide +kernel
theorem dX4_lastFalls_1 : decode cX4_lastFalls 1 = .ok (.getfield 27, 3) := by decide +kernel
theorem dX4_lastFalls_4 : decode cX4_lastFalls 4 = .ok (.iconst 1, 1) := by decide +kernel
theorem dX4_lastFalls_5 : decode cX4_lastFalls 5 = .ok (.isub, 1) := by decide +kernel
theorem dX4_lastFalls_6 : decode cX4_lastFalls 6 = .ok (.istore_n 1, 1) := by decide +kernel
theorem dX4_lastFalls_7 : decode cX4_lastFalls 7 = .ok (.aload_n 0, 1) := by decide +kernel
theorem dX4_lastFalls_8 : decode cX4_lastFalls 8 = .ok (.getfield 18, 3) := by decide +kernel
theorem dX4_lastFalls_11 : decode cX4_lastFalls 11 = .ok (.iload_n 1, 1) := by decide +kernel
theorem dX4_lastFalls_12 : decode cX4_lastFalls 12 = .ok (.iaload, 1) := by decide +kernel
theorem dX4_lastFalls_13 : decode cX4_lastFalls 13 = .ok (.aload_n 0, 1) := by decide +kernel
theorem dX4_lastFalls_14 : decode cX4_lastFalls 14 = .ok (.getfield 21, 3) := by decide +kernel
theorem dX4_lastFalls_17 : decode cX4_lastFalls 17 = .ok (.iload_n 1, 1) := by decide +kernel
theorem dX4_lastFalls_18 : decode cX4_lastFalls 18 = .ok (.iconst 1, 1) := by decide +kernel
theorem dX4_lastFalls_19 : decode cX4_lastFalls 19 = .ok (.isub, 1) := by decide +kernel
theorem dX4_lastFalls_20 : decode cX4_lastFalls 20 = .ok (.iaload, 1) := by decide +kernel
theorem dX4_lastFalls_21 : decode cX4_lastFalls 21 = .ok (.imul, 1) := by decide +kernel
theorem dX4_lastFalls_22 : decode cX4_lastFalls 22 = .ok (.aload_n 0, 1) := by decide +kernel
theorem dX4_lastFalls_23 : decode cX4_lastFalls 23 = .ok (.getfield 18, 3) := by decide +kernel
theorem dX4_lastFalls_26 : decode cX4_lastFalls 26 = .ok (.iload_n 1, 1) := by decide +kernel
theorem dX4_lastFalls_27 : decode cX4_lastFalls 27 = .ok (.iconst 1, 1) := by decide +kernel
theorem dX4_lastFalls_28 : decode cX4_lastFalls 28 = .ok (.isub, 1) := by decide +kernel
theorem dX4_lastFalls_29 : decode cX4_lastFalls 29 = .ok (.iaload, 1) := by decide +kernel
theorem dX4_lastFalls_30 : decode cX4_lastFalls 30 = .ok (.aload_n 0, 1) := by decide +kernel
theorem dX4_lastFalls_31 : decode cX4_lastFalls 31 = .ok (.getfield 21, 3) := by decide +kernel
theorem dX4_lastFalls_34 : decode cX4_lastFalls 34 = .ok (.iload_n 1, 1) := by decide +kernel
theorem dX4_lastFalls_35 : decode cX4_lastFalls 35 = .ok (.iaload, 1) := by decide +kernel
theorem dX4_lastFalls_36 : decode cX4_lastFalls 36 = .ok (.imul, 1) := by decide +kernel
theorem dX4_lastFalls_37 : decode cX4_lastFalls 37 = .ok (.if_icmp .ge 7, 3) := by decide +kernel
theorem dX4_lastFalls_40 : decode cX4_lastFalls 40 = .ok (.iconst 1, 1) := by decide +kernel
theorem dX4_lastFalls_41 : decode cX4_lastFalls 41 = .ok (.goto 4, 3) := by decide +kernel
theorem dX4_lastFalls_44 : decode cX4_lastFalls 44 = .ok (.iconst 0, 1) := by decide +kernel
theorem dX4_lastFalls_45 : decode cX4_lastFalls 45 = .ok (.ireturn, 1) := by decide +kernel
theorem dX4_blockFor_0 : decode cX4_blockFor 0 = .ok (.iconst (-1), 1) := by decide +kernel
theorem dX4_blockFor_1 : decode cX4_blockFor 1 = .ok (.istore_n 2, 1) := by decide +kernel
theorem dX4_blockFor_2 : decode cX4_blockFor 2 = .ok (.iconst 0, 1) := by decide +kernel
theorem dX4_blockFor_3 : decode cX4_blockFor 3 = .ok (.istore_n 3, 1) := by decide +kernel
theorem dX4_blockFor_4 : decode cX4_blockFor 4 = .ok (.iload_n 3, 1) := by decide +kernel
theorem dX4_blockFor_5 : decode cX4_blockFor 5 = .ok (.aload_n 0, 1) := by decide +kernel
theorem dX4_blockFor_6 : decode cX4_blockFor 6 = .ok (.getfield 27, 3) := by decide +kernel
theorem dX4_blockFor_9 : decode cX4_blockFor 9 = .ok (.if_icmp .ge 21, 3) := by decide +kernel
theorem dX4_blockFor_12 : decode cX4_blockFor 12 = .ok (.aload_n 0, 1) := by decide +kernel
theorem dX4_blockFor_13 : decode cX4_blockFor 13 = .ok (.getfield 24, 3) := by decide +kernel
theorem dX4_blockFor_16 : decode cX4_blockFor 16 = .ok (.iload_n 3, 1) := by decide +kernel
theorem dX4_blockFor_17 : decode cX4_blockFor 17 = .ok (.iaload, 1) := by decide +kernel
theorem dX4_blockFor_18 : decode cX4_blockFor 18 = .ok (.iload_n 1, 1) := by decide +kernel
theorem dX4_blockFor_19 : decode cX4_blockFor 19 = .ok (.if_icmp .gt 5, 3) := by decide +kernel
theorem dX4_blockFor_22 : decode cX4_blockFor 22 = .ok (.iload_n 3, 1) := by decide +kernel
theorem dX4_blockFor_23 : decode cX4_blockFor 23 = .ok (.istore_n 2, 1) := by decide +kernel
theorem dX4_blockFor_24 : decode cX4_blockFor 24 = .ok (.iinc 3 1, 3) := by decide +kernel
theorem dX4_blockFor_27 : decode cX4_blockFor 27 = .ok (.goto (-23), 3) := by decide +kernel
theorem dX4_blockFor_30 : decode cX4_blockFor 30 = .ok (.iload_n 2, 1) := by decide +kernel
theorem dX4_blockFor_31 : decode cX4_blockFor 31 = .ok (.ireturn, 1) := by decide +kernel
set_option maxRecDepth 20000 in
theorem ggX5_init_J7_fill_53178 : GoodIn wsX5_init wsJ7_fill_53178 := goodIn_r _ [13] (by decide +kernel) (by decide +kernel)
set_option maxRecDepth 20000 in
theorem gX5_init_J7_fill_53178 : GoodIn wsX5_init (va_wsS RX5 21 yJ7_fill_53178 wsJ7_fill_53178) := goodIn_app (goodIn_of _ (by decide +kernel)) ggX5_init_J7_fill_53178
theorem dX5_init_0 : decode cX5_init 0 = .ok (.aload_n 0, 1) := by decide +kernel
theorem dX5_init_1 : decode cX5_init 1 = .ok (.invokespecial 3, 3) := by decide +kernel
theorem dX5_init_4 : decode cX5_init 4 = .ok (.aload_n 0, 1) := by decide +kernel
theorem dX5_init_5 : decode cX5_init 5 = .ok (.sipush 1920, 3) := by decide +kernel
theorem dX5_init_8 : decode cX5_init 8 = .ok (.newarray .int, 2) := by decide +kernel
theorem dX5_init_10 : decode cX5_init 10 = .ok (.putfield 9, 3) := by decide +kernel
theorem dX5_init_13 : decode cX5_init 13 = .ok (.aload_n 0, 1) := by decide +kernel
theorem dX5_init_14 : decode cX5_init 14 = .ok (.bipush 64, 2) := by decide +kernel
theorem dX5_init_16 : decode cX5_init 16 = .ok (.newarray .int, 2) := by decide +kernel
theorem dX5_init_18 : decode cX5_init 18 = .ok (.putfield 15, 3) := by decide +kernel
theorem dX5_init_21 : decode cX5_init 21 = .ok (.aload_n 0, 1) := by decide +kernel
theorem dX5_init_22 : decode cX5_init 22 = .ok (.bipush 64, 2) := by decide +kernel
theorem dX5_init_24 : decode cX5_init 24 = .ok (.newarray .int, 2) := by decide +kernel
theorem dX5_init_26 : decode cX5_init 26 = .ok (.putfield 18, 3) := by decide +kernel
theorem dX5_init_29 : decode cX5_init 29 = .ok (.aload_n 0, 1) := by decide +kernel
theorem dX5_init_30 : decode cX5_init 30 = .ok (.getfield 9, 3) := by decide +kernel
theorem dX5_init_33 : decode cX5_init 33 = .ok (.iconst (-1), 1) := by decide +kernel
theorem dX5_init_34 : decode cX5_init 34 = .ok (.invokestatic 21, 3) := by decide +kernel
theorem dX5_init_37 : decode cX5_init 37 = .ok (.aload_n 0, 1) := by decide +kernel
theorem dX5_init_38 : decode cX5_init 38 = .ok (.iconst 0, 1) := by decide +kernel
theorem dX5_init_39 : decode cX5_init 39 = .ok (.putfield 27, 3) := by decide +kernel
theorem dX5_init_42 : decode cX5_init 42 = .ok (.aload_n 0, 1) := by decide +kernel
theorem dX5_init_43 : decode cX5_init 43 = .ok (.bipush 10, 2) := by decide +kernel
theorem dX5_init_45 : decode cX5_init 45 = .ok (.putfield 31, 3) := by decide +kernel
theorem dX5_init_48 : decode cX5_init 48 = .ok (.return_, 1) := by decide +kernel
set_option maxRecDepth 20000 in
theorem ggX5_canBeTold_X7_isWithin : GoodIn wsX5_canBeTold wsX7_isWithin := goodIn_r _ [3] (by decide +kernel) (by decide +kernel)
set_option maxRecDepth 20000 in
theorem gX5_canBeTold_X7_isWithin_n34 : GoodIn wsX5_canBeTold (wsX7_isWithin) := ggX5_canBeTold_X7_isWithin
theorem dX5_canBeTold_0 : decode cX5_canBeTold 0 = .ok (.iload_n 0, 1) := by decide +kernel
theorem dX5_canBeTold_1 : decode cX5_canBeTold 1 = .ok (.bipush 20, 2) := by decide +kernel
theorem dX5_canBeTold_3 : decode cX5_canBeTold 3 = .ok (.invokestatic 34, 3) := by decide +kernel
