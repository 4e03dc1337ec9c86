theorem dX8_tray_12 : decode cX8_tray 12 = .ok (.iconst 3, 1) := by decide +kernel
theorem dX8_tray_13 : decode cX8_tray 13 = .ok (.if_icmp .gt 13, 3) := by decide +kernel
theorem dX8_tray_16 : decode cX8_tray 16 = .ok (.iload_n 3, 1) := by decide +kernel
theorem dX8_tray_17 : decode cX8_tray 17 = .ok (.ifCond .lt 9, 3) := by decide +kernel
theorem dX8_tray_20 : decode cX8_tray 20 = .ok (.iload_n 3, 1) := by decide +kernel
theorem dX8_tray_21 : decode cX8_tray 21 = .ok (.bipush 60, 2) := by decide +kernel
theorem dX8_tray_23 : decode cX8_tray 23 = .ok (.if_icmp .le 9, 3) := by decide +kernel
theorem dX8_tray_26 : decode cX8_tray 26 = .ok (.aload_n 0, 1) := by decide +kernel
theorem dX8_tray_27 : decode cX8_tray 27 = .ok (.iconst 1, 1) := by decide +kernel
theorem dX8_tray_28 : decode cX8_tray 28 = .ok (.invokevirtual 83, 3) := by decide +kernel
theorem dX8_tray_31 : decode cX8_tray 31 = .ok (.ireturn, 1) := by decide +kernel
theorem dX8_tray_32 : decode cX8_tray 32 = .ok (.aload_n 0, 1) := by decide +kernel
theorem dX8_tray_33 : decode cX8_tray 33 = .ok (.getfield 13, 3) := by decide +kernel
theorem dX8_tray_36 : decode cX8_tray 36 = .ok (.iload_n 1, 1) := by decide +kernel
theorem dX8_tray_37 : decode cX8_tray 37 = .ok (.iload_n 2, 1) := by decide +kernel
theorem dX8_tray_38 : decode cX8_tray 38 = .ok (.iastore, 1) := by decide +kernel
theorem dX8_tray_39 : decode cX8_tray 39 = .ok (.aload_n 0, 1) := by decide +kernel
theorem dX8_tray_40 : decode cX8_tray 40 = .ok (.getfield 17, 3) := by decide +kernel
theorem dX8_tray_43 : decode cX8_tray 43 = .ok (.iload_n 1, 1) := by decide +kernel
theorem dX8_tray_44 : decode cX8_tray 44 = .ok (.iload_n 3, 1) := by decide +kernel
theorem dX8_tray_45 : decode cX8_tray 45 = .ok (.iastore, 1) := by decide +kernel
theorem dX8_tray_46 : decode cX8_tray 46 = .ok (.iconst 0, 1) := by decide +kernel
theorem dX8_tray_47 : decode cX8_tray 47 = .ok (.istore 4, 2) := by decide +kernel
theorem dX8_tray_49 : decode cX8_tray 49 = .ok (.iload 4, 2) := by decide +kernel
theorem dX8_tray_51 : decode cX8_tray 51 = .ok (.iload_n 3, 1) := by decide +kernel
theorem dX8_tray_52 : decode cX8_tray 52 = .ok (.if_icmp .ge 22, 3) := by decide +kernel
theorem dX8_tray_55 : decode cX8_tray 55 = .ok (.aload_n 0, 1) := by decide +kernel
theorem dX8_tray_56 : decode cX8_tray 56 = .ok (.getfield 20, 3) := by decide +kernel
theorem dX8_tray_59 : decode cX8_tray 59 = .ok (.bipush 60, 2) := by decide +kernel
theorem dX8_tray_61 : decode cX8_tray 61 = .ok (.iload_n 1, 1) := by decide +kernel
theorem dX8_tray_62 : decode cX8_tray 62 = .ok (.imul, 1) := by decide +kernel
theorem dX8_tray_63 : decode cX8_tray 63 = .ok (.iload 4, 2) := by decide +kernel
theorem dX8_tray_65 : decode cX8_tray 65 = .ok (.iadd, 1) := by decide +kernel
theorem dX8_tray_66 : decode cX8_tray 66 = .ok (.lconst 0, 1) := by decide +kernel
theorem dX8_tray_67 : decode cX8_tray 67 = .ok (.lastore, 1) := by decide +kernel
theorem dX8_tray_68 : decode cX8_tray 68 = .ok (.iinc 4 1, 3) := by decide +kernel
theorem dX8_tray_71 : decode cX8_tray 71 = .ok (.goto (-22), 3) := by decide +kernel
theorem dX8_tray_74 : decode cX8_tray 74 = .ok (.aload_n 0, 1) := by decide +kernel
theorem dX8_tray_75 : decode cX8_tray 75 = .ok (.iconst 0, 1) := by decide +kernel
theorem dX8_tray_76 : decode cX8_tray 76 = .ok (.invokevirtual 83, 3) := by decide +kernel
theorem dX8_tray_79 : decode cX8_tray 79 = .ok (.ireturn, 1) := by decide +kernel
set_option maxRecDepth 20000 in
theorem ggX8_wrongPlace_X8_isTray : GoodIn wsX8_wrongPlace wsX8_isTray := goodIn_r _ [5] (by decide +kernel) (by decide +kernel)
set_option maxRecDepth 20000 in
theorem gX8_wrongPlace_X8_isTray : GoodIn wsX8_wrongPlace (va_wsS RX8 79 yX8_isTray wsX8_isTray) := goodIn_app (goodIn_of _ (by decide +kernel)) ggX8_wrongPlace_X8_isTray
theorem dX8_wrongPlace_0 : decode cX8_wrongPlace 0 = .ok (.iload_n 1, 1) := by decide +kernel
theorem dX8_wrongPlace_1 : decode cX8_wrongPlace 1 = .ok (.invokestatic 79, 3) := by decide +kernel
theorem dX8_wrongPlace_4 : decode cX8_wrongPlace 4 = .ok (.ifCond .ne 7, 3) := by decide +kernel
theorem dX8_wrongPlace_7 : decode cX8_wrongPlace 7 = .ok (.iconst 1, 1) := by decide +kernel
theorem dX8_wrongPlace_8 : decode cX8_wrongPlace 8 = .ok (.goto 36, 3) := by decide +kernel
theorem dX8_wrongPlace_11 : decode cX8_wrongPlace 11 = .ok (.aload_n 0, 1) := by decide +kernel
theorem dX8_wrongPlace_12 : decode cX8_wrongPlace 12 = .ok (.getfield 17, 3) := by decide +kernel
theorem dX8_wrongPlace_15 : decode cX8_wrongPlace 15 = .ok (.iload_n 1, 1) := by decide +kernel
theorem dX8_wrongPlace_16 : decode cX8_wrongPlace 16 = .ok (.iaload, 1) := by decide +kernel
theorem dX8_wrongPlace_17 : decode cX8_wrongPlace 17 = .ok (.iconst (-1), 1) := by decide +kernel
theorem dX8_wrongPlace_18 : decode cX8_wrongPlace 18 = .ok (.if_icmp .ne 7, 3) := by decide +kernel
theorem dX8_wrongPlace_21 : decode cX8_wrongPlace 21 = .ok (.iconst 2, 1) := by decide +kernel
theorem dX8_wrongPlace_22 : decode cX8_wrongPlace 22 = .ok (.goto 22, 3) := by decide +kernel
theorem dX8_wrongPlace_25 : decode cX8_wrongPlace 25 = .ok (.iload_n 2, 1) := by decide +kernel
theorem dX8_wrongPlace_26 : decode cX8_wrongPlace 26 = .ok (.ifCond .lt 13, 3) := by decide +kernel
theorem dX8_wrongPlace_29 : decode cX8_wrongPlace 29 = .ok (.iload_n 2, 1) := by decide +kernel
theorem dX8_wrongPlace_30 : decode cX8_wrongPlace 30 = .ok (.aload_n 0, 1) := by decide +kernel
theorem dX8_wrongPlace_31 : decode cX8_wrongPlace 31 = .ok (.getfield 17, 3) := by decide +kernel
theorem dX8_wrongPlace_34 : decode cX8_wrongPlace 34 = .ok (.iload_n 1, 1) := by decide +kernel
theorem dX8_wrongPlace_35 : decode cX8_wrongPlace 35 = .ok (.iaload, 1) := by decide +kernel
theorem dX8_wrongPlace_36 : decode cX8_wrongPlace 36 = .ok (.if_icmp .lt 7, 3) := by decide +kernel
theorem dX8_wrongPlace_39 : decode cX8_wrongPlace 39 = .ok (.iconst 3, 1) := by decide +kernel
theorem dX8_wrongPlace_40 : decode cX8_wrongPlace 40 = .ok (.goto 4, 3) := by decide +kernel
theorem dX8_wrongPlace_43 : decode cX8_wrongPlace 43 = .ok (.iconst 0, 1) := by decide +kernel
theorem dX8_wrongPlace_44 : decode cX8_wrongPlace 44 = .ok (.ireturn, 1) := by decide +kernel
set_option maxRecDepth 20000 in
theorem ggX8_write_X8_wrongPlace : GoodIn wsX8_write wsX8_wrongPlace := goodIn_r _ [7, 8, 9, 10, 6, 11, 20, 21, 22, 23, 24, 25, 26, 27, 28, 29, 30, 31, 32, 33, 34, 35, 36, 37, 38, 39, 40, 41, 42] (by decide +kernel) (by decide +kernel)
set_option maxRecDepth 20000 in
theorem gX8_write_X8_wrongPlace : GoodIn wsX8_write (wsV RX8 86 RX8 yX8_wrongPlace wsX8_wrongPlace) := goodIn_app (goodIn_of _ (by decide +kernel)) ggX8_write_X8_wrongPlace
set_option maxRecDepth 20000 in
theorem ggX8_write_X8_cut : GoodIn wsX8_write wsX8_cut := goodIn_r _ [14] (by decide +kernel) (by decide +kernel)
set_option maxRecDepth 20000 in
theorem gX8_write_X8_cut : GoodIn wsX8_write (va_wsS RX8 90 yX8_cut wsX8_cut) := goodIn_app (goodIn_of _ (by decide +kernel)) ggX8_write_X8_cut
set_option maxRecDepth 20000 in
theorem ggX8_write_X8_is : GoodIn wsX8_write wsX8_is := goodIn_r _ [18, 19, 20, 21, 22, 23, 24, 25, 26, 27, 28, 29, 30, 31, 32, 33, 34, 35, 36, 37, 38, 39, 40, 41, 42] (by decide +kernel) (by decide +kernel)
set_option maxRecDepth 20000 in
theorem gX8_write_X8_is : GoodIn wsX8_write (wsV RX8 83 RX8 yX8_is wsX8_is) := goodIn_app (goodIn_of _ (by decide +kernel)) ggX8_write_X8_is
theorem dX8_write_0 : decode cX8_write 0 = .ok (.aload_n 0, 1) := by decide +kernel
theorem dX8_write_1 : decode cX8_write 1 = .ok (.iload_n 1, 1) := by decide +kernel
theorem dX8_write_2 : decode cX8_write 2 = .ok (.iload_n 2, 1) := by decide +kernel
theorem dX8_write_3 : decode cX8_write 3 = .ok (.invokevirtual 86, 3) := by decide +kernel
theorem dX8_write_6 : decode cX8_write 6 = .ok (.istore 5, 2) := by decide +kernel
theorem dX8_write_8 : decode cX8_write 8 = .ok (.iload 5, 2) := by decide +kernel
theorem dX8_write_10 : decode cX8_write 10 = .ok (.ifCond .ne 24, 3) := by decide +kernel
theorem dX8_write_13 : decode cX8_write 13 = .ok (.aload_n 0, 1) := by decide +kernel
theorem dX8_write_14 : decode cX8_write 14 = .ok (.getfield 20, 3) := by decide +kernel
theorem dX8_write_17 : decode cX8_write 17 = .ok (.bipush 60, 2) := by decide +kernel
theorem dX8_write_19 : decode cX8_write 19 = .ok (.iload_n 1, 1) := by decide +kernel
theorem dX8_write_20 : decode cX8_write 20 = .ok (.imul, 1) := by decide +kernel
theorem dX8_write_21 : decode cX8_write 21 = .ok (.iload_n 2, 1) := by decide +kernel
theorem dX8_write_22 : decode cX8_write 22 = .ok (.iadd, 1) := by decide +kernel
theorem dX8_write_23 : decode cX8_write 23 = .ok (.lload_n 3, 1) := by decide +kernel
theorem dX8_write_24 : decode cX8_write 24 = .ok (.aload_n 0, 1) := by decide +kernel
theorem dX8_write_25 : decode cX8_write 25 = .ok (.getfield 13, 3) := by decide +kernel
theorem dX8_write_28 : decode cX8_write 28 = .ok (.iload_n 1, 1) := by decide +kernel
theorem dX8_write_29 : decode cX8_write 29 = .ok (.iaload, 1) := by decide +kernel
theorem dX8_write_30 : decode cX8_write 30 = .ok (.invokestatic 90, 3) := by decide +kernel
theorem dX8_write_33 : decode cX8_write 33 = .ok (.lastore, 1) := by decide +kernel
theorem dX8_write_34 : decode cX8_write 34 = .ok (.aload_n 0, 1) := by decide +kernel
theorem dX8_write_35 : decode cX8_write 35 = .ok (.iload 5, 2) := by decide +kernel
theorem dX8_write_37 : decode cX8_write 37 = .ok (.invokevirtual 83, 3) := by decide +kernel
theorem dX8_write_40 : decode cX8_write 40 = .ok (.ireturn, 1) := by decide +kernel
set_option maxRecDepth 20000 in
theorem ggX8_read_X8_wrongPlace : GoodIn wsX8_read wsX8_wrongPlace := goodIn_r _ [8, 9, 10, 11, 7, 12, 13, 14, 15, 16, 17, 18, 19, 20, 21, 22, 23, 24, 25, 26, 27, 28, 29, 30, 31, 32, 33, 34, 35] (by decide +kernel) (by decide +kernel)
set_option maxRecDepth 20000 in
theorem gX8_read_X8_wrongPlace : GoodIn wsX8_read (wsV RX8 86 RX8 yX8_wrongPlace wsX8_wrongPlace) := goodIn_app (goodIn_of _ (by decide +kernel)) ggX8_read_X8_wrongPlace
theorem dX8_read_0 : decode cX8_read 0 = .ok (.aload_n 0, 1) := by decide +kernel
theorem dX8_read_1 : decode cX8_read 1 = .ok (.aload_n 0, 1) := by decide +kernel
theorem dX8_read_2 : decode cX8_read 2 = .ok (.iload_n 1, 1) := by decide +kernel
theorem dX8_read_3 : decode cX8_read 3 = .ok (.iload_n 2, 1) := by decide +kernel
theorem dX8_read_4 : decode cX8_read 4 = .ok (.invokevirtual 86, 3) := by decide +kernel
theorem dX8_read_7 : decode cX8_read 7 = .ok (.putfield 73, 3) := by decide +kernel
theorem dX8_read_10 : decode cX8_read 10 = .ok (.aload_n 0, 1) := by decide +kernel
theorem dX8_read_11 : decode cX8_read 11 = .ok (.getfield 73, 3) := by decide +kernel
theorem dX8_read_14 : decode cX8_read 14 = .ok (.ifCond .le 9, 3) := by decide +kernel
theorem dX8_read_17 : decode cX8_read 17 = .ok (.ldc2_w 94, 3) := by decide +kernel
theorem dX8_read_20 : decode cX8_read 20 = .ok (.goto 14, 3) := by decide +kernel
theorem dX8_read_23 : decode cX8_read 23 = .ok (.aload_n 0, 1) := by decide +kernel
theorem dX8_read_24 : decode cX8_read 24 = .ok (.getfield 20, 3) := by decide +kernel
theorem dX8_read_27 : decode cX8_read 27 = .ok (.bipush 60, 2) := by decide +kernel
theorem dX8_read_29 : decode cX8_read 29 = .ok (.iload_n 1, 1) := by decide +kernel
theorem dX8_read_30 : decode cX8_read 30 = .ok (.imul, 1) := by decide +kernel
theorem dX8_read_31 : decode cX8_read 31 = .ok (.iload_n 2, 1) := by decide +kernel
theorem dX8_read_32 : decode cX8_read 32 = .ok (.iadd, 1) := by decide +kernel
theorem dX8_read_33 : decode cX8_read 33 = .ok (.laload, 1) := by decide +kernel
theorem dX8_read_34 : decode cX8_read 34 = .ok (.lreturn, 1) := by decide +kernel
set_option maxRecDepth 20000 in
theorem ggX8_pour_X8_isTray : GoodIn wsX8_pour wsX8_isTray := goodIn_r _ [7] (by decide +kernel) (by decide +kernel)
set_option maxRecDepth 20000 in
theorem gX8_pour_X8_isTray : GoodIn wsX8_pour (va_wsS RX8 79 yX8_isTray wsX8_isTray) := goodIn_app (goodIn_of _ (by decide +kernel)) ggX8_pour_X8_isTray
set_option maxRecDepth 20000 in
theorem ggX8_pour_X8_is : GoodIn wsX8_pour wsX8_is := goodIn_r _ [11, 12, 13, 14, 15, 16, 17, 18, 19, 20, 21, 22, 23, 24, 25, 26, 27, 28, 29, 30, 31, 32, 33, 34, 35] (by decide +kernel) (by decide +kernel)
set_option maxRecDepth 20000 in
theorem gX8_pour_X8_is : GoodIn wsX8_pour (wsV RX8 83 RX8 yX8_is wsX8_is) := goodIn_app (goodIn_of _ (by decide +kernel)) ggX8_pour_X8_is
theorem dX8_pour_0 : decode cX8_pour 0 = .ok (.iload_n 1, 1) := by decide +kernel
theorem dX8_pour_1 : decode cX8_pour 1 = .ok (.invokestatic 79, 3) := by decide +kernel
theorem dX8_pour_4 : decode cX8_pour 4 = .ok (.ifCond .eq 24, 3) := by decide +kernel
theorem dX8_pour_7 : decode cX8_pour 7 = .ok (.iload_n 3, 1) := by decide +kernel
theorem dX8_pour_8 : decode cX8_pour 8 = .ok (.invokestatic 79, 3) := by decide +kernel
theorem dX8_pour_11 : decode cX8_pour 11 = .ok (.ifCond .eq 17, 3) := by decide +kernel
theorem dX8_pour_14 : decode cX8_pour 14 = .ok (.iload_n 2, 1) := by decide +kernel
theorem dX8_pour_15 : decode cX8_pour 15 = .ok (.ifCond .lt 13, 3) := by decide +kernel
theorem dX8_pour_18 : decode cX8_pour 18 = .ok (.iload 4, 2) := by decide +kernel
theorem dX8_pour_20 : decode cX8_pour 20 = .ok (.ifCond .lt 8, 3) := by decide +kernel
theorem dX8_pour_23 : decode cX8_pour 23 = .ok (.iload 5, 2) := by decide +kernel
theorem dX8_pour_25 : decode cX8_pour 25 = .ok (.ifCond .ge 9, 3) := by decide +kernel
theorem dX8_pour_28 : decode cX8_pour 28 = .ok (.aload_n 0, 1) := by decide +kernel
theorem dX8_pour_29 : decode cX8_pour 29 = .ok (.iconst 1, 1) := by decide +kernel
theorem dX8_pour_30 : decode cX8_pour 30 = .ok (.invokevirtual 83, 3) := by decide +kernel
theorem dX8_pour_33 : decode cX8_pour 33 = .ok (.ireturn, 1) := by decide +kernel
theorem dX8_pour_34 : decode cX8_pour 34 = .ok (.aload_n 0, 1) := by decide +kernel
theorem dX8_pour_35 : decode cX8_pour 35 = .ok (.getfield 17, 3) := by decide +kernel
theorem dX8_pour_38 : decode cX8_pour 38 = .ok (.iload_n 1, 1) := by decide +kernel
theorem dX8_pour_39 : decode cX8_pour 39 = .ok (.iaload, 1) := by decide +kernel
theorem dX8_pour_40 : decode cX8_pour 40 = .ok (.iconst (-1), 1) := by decide +kernel
theorem dX8_pour_41 : decode cX8_pour 41 = .ok (.if_icmp .eq 13, 3) := by decide +kernel
theorem dX8_pour_44 : decode cX8_pour 44 = .ok (.aload_n 0, 1) := by decide +kernel
theorem dX8_pour_45 : decode cX8_pour 45 = .ok (.getfield 17, 3) := by decide +kernel
theorem dX8_pour_48 : decode cX8_pour 48 = .ok (.iload_n 3, 1) := by decide +kernel
theorem dX8_pour_49 : decode cX8_pour 49 = .ok (.iaload, 1) := by decide +kernel
theorem dX8_pour_50 : decode cX8_pour 50 = .ok (.iconst (-1), 1) := by decide +kernel
theorem dX8_pour_51 : decode cX8_pour 51 = .ok (.if_icmp .ne 9, 3) := by decide +kernel
theorem dX8_pour_54 : decode cX8_pour 54 = .ok (.aload_n 0, 1) := by decide +kernel
theorem dX8_pour_55 : decode cX8_pour 55 = .ok (.iconst 2, 1) := by decide +kernel
theorem dX8_pour_56 : decode cX8_pour 56 = .ok (.invokevirtual 83, 3) := by decide +kernel
theorem dX8_pour_59 : decode cX8_pour 59 = .ok (.ireturn, 1) := by decide +kernel
theorem dX8_pour_60 : decode cX8_pour 60 = .ok (.aload_n 0, 1) := by decide +kernel
theorem dX8_pour_61 : decode cX8_pour 61 = .ok (.getfield 13, 3) := by decide +kernel
theorem dX8_pour_64 : decode cX8_pour 64 = .ok (.iload_n 1, 1) := by decide +kernel
theorem dX8_pour_65 : decode cX8_pour 65 = .ok (.iaload, 1) := by decide +kernel
theorem dX8_pour_66 : decode cX8_pour 66 = .ok (.aload_n 0, 1) := by decide +kernel
theorem dX8_pour_67 : decode cX8_pour 67 = .ok (.getfield 13, 3) := by decide +kernel
theorem dX8_pour_70 : decode cX8_pour 70 = .ok (.iload_n 3, 1) := by decide +kernel
theorem dX8_pour_71 : decode cX8_pour 71 = .ok (.iaload, 1) := by decide +kernel
theorem dX8_pour_72 : decode cX8_pour 72 = .ok (.if_icmp .eq 10, 3) := by decide +kernel
theorem dX8_pour_75 : decode cX8_pour 75 = .ok (.aload_n 0, 1) := by decide +kernel
theorem dX8_pour_76 : decode cX8_pour 76 = .ok (.bipush 7, 2) := by decide +kernel
theorem dX8_pour_78 : decode cX8_pour 78 = .ok (.invokevirtual 83, 3) := by decide +kernel
theorem dX8_pour_81 : decode cX8_pour 81 = .ok (.ireturn, 1) := by decide +kernel
theorem dX8_pour_82 : decode cX8_pour 82 = .ok (.iload 5, 2) := by decide +kernel
theorem dX8_pour_84 : decode cX8_pour 84 = .ok (.aload_n 0, 1) := by decide +kernel
theorem dX8_pour_85 : decode cX8_pour 85 = .ok (.getfield 17, 3) := by decide +kernel
theorem dX8_pour_88 : decode cX8_pour 88 = .ok (.iload_n 1, 1) := by decide +kernel
theorem dX8_pour_89 : decode cX8_pour 89 = .ok (.iaload, 1) := by decide +kernel
theorem dX8_pour_90 : decode cX8_pour 90 = .ok (.iload_n 2, 1) := by decide +kernel
theorem dX8_pour_91 : decode cX8_pour 91 = .ok (.isub, 1) := by decide +kernel
theorem dX8_pour_92 : decode cX8_pour 92 = .ok (.if_icmp .gt 17, 3) := by decide +kernel
theorem dX8_pour_95 : decode cX8_pour 95 = .ok (.iload 5, 2) := by decide +kernel
theorem dX8_pour_97 : decode cX8_pour 97 = .ok (.aload_n 0, 1) := by decide +kernel
theorem dX8_pour_98 : decode cX8_pour 98 = .ok (.getfield 17, 3) := by decide +kernel
theorem dX8_pour_101 : decode cX8_pour 101 = .ok (.iload_n 3, 1) := by decide +kernel
theorem dX8_pour_102 : decode cX8_pour 102 = .ok (.iaload, 1) := by decide +kernel
theorem dX8_pour_103 : decode cX8_pour 103 = .ok (.iload 4, 2) := by decide +kernel
theorem dX8_pour_105 : decode cX8_pour 105 = .ok (.isub, 1) := by decide +kernel
theorem dX8_pour_106 : decode cX8_pour 106 = .ok (.if_icmp .le 9, 3) := by decide +kernel
theorem dX8_pour_109 : decode cX8_pour 109 = .ok (.aload_n 0, 1) := by decide +kernel
theorem dX8_pour_110 : decode cX8_pour 110 = .ok (.iconst 3, 1) := by decide +kernel
theorem dX8_pour_111 : decode cX8_pour 111 = .ok (.invokevirtual 83, 3) := by decide +kernel
theorem dX8_pour_114 : decode cX8_pour 114 = .ok (.ireturn, 1) := by decide +kernel
theorem dX8_pour_115 : decode cX8_pour 115 = .ok (.iconst 0, 1) := by decide +kernel
theorem dX8_pour_116 : decode cX8_pour 116 = .ok (.istore 6, 2) := by decide +kernel
theorem dX8_pour_118 : decode cX8_pour 118 = .ok (.iload 6, 2) := by decide +kernel
theorem dX8_pour_120 : decode cX8_pour 120 = .ok (.iload 5, 2) := by decide +kernel
theorem dX8_pour_122 : decode cX8_pour 122 = .ok (.if_icmp .ge 58, 3) := by decide +kernel
theorem dX8_pour_125 : decode cX8_pour 125 = .ok (.iload_n 2, 1) := by decide +kernel
theorem dX8_pour_126 : decode cX8_pour 126 = .ok (.iload 4, 2) := by decide +kernel
theorem dX8_pour_128 : decode cX8_pour 128 = .ok (.if_icmp .ge 13, 3) := by decide +kernel
theorem dX8_pour_131 : decode cX8_pour 131 = .ok (.iload 5, 2) := by decide +kernel
theorem dX8_pour_133 : decode cX8_pour 133 = .ok (.iconst 1, 1) := by decide +kernel
theorem dX8_pour_134 : decode cX8_pour 134 = .ok (.isub, 1) := by decide +kernel
theorem dX8_pour_135 : decode cX8_pour 135 = .ok (.iload 6, 2) := by decide +kernel
theorem dX8_pour_137 : decode cX8_pour 137 = .ok (.isub, 1) := by decide +kernel
theorem dX8_pour_138 : decode cX8_pour 138 = .ok (.goto 5, 3) := by decide +kernel
theorem dX8_pour_141 : decode cX8_pour 141 = .ok (.iload 6, 2) := by decide +kernel
theorem dX8_pour_143 : decode cX8_pour 143 = .ok (.istore 7, 2) := by decide +kernel
theorem dX8_pour_145 : decode cX8_pour 145 = .ok (.aload_n 0, 1) := by decide +kernel
theorem dX8_pour_146 : decode cX8_pour 146 = .ok (.getfield 20, 3) := by decide +kernel
theorem dX8_pour_149 : decode cX8_pour 149 = .ok (.bipush 60, 2) := by decide +kernel
theorem dX8_pour_151 : decode cX8_pour 151 = .ok (.iload_n 3, 1) := by decide +kernel
theorem dX8_pour_152 : decode cX8_pour 152 = .ok (.imul, 1) := by decide +kernel
theorem dX8_pour_153 : decode cX8_pour 153 = .ok (.iload 4, 2) := by decide +kernel
theorem dX8_pour_155 : decode cX8_pour 155 = .ok (.iadd, 1) := by decide +kernel
theorem dX8_pour_156 : decode cX8_pour 156 = .ok (.iload 7, 2) := by decide +kernel
theorem dX8_pour_158 : decode cX8_pour 158 = .ok (.iadd, 1) := by decide +kernel
theorem dX8_pour_159 : decode cX8_pour 159 = .ok (.aload_n 0, 1) := by decide +kernel
theorem dX8_pour_160 : decode cX8_pour 160 = .ok (.getfield 20, 3) := by decide +kernel
theorem dX8_pour_163 : decode cX8_pour 163 = .ok (.bipush 60, 2) := by decide +kernel
theorem dX8_pour_165 : decode cX8_pour 165 = .ok (.iload_n 1, 1) := by decide +kernel
theorem dX8_pour_166 : decode cX8_pour 166 = .ok (.imul, 1) := by decide +kernel
theorem dX8_pour_167 : decode cX8_pour 167 = .ok (.iload_n 2, 1) := by decide +kernel
theorem dX8_pour_168 : decode cX8_pour 168 = .ok (.iadd, 1) := by decide +kernel
theorem dX8_pour_169 : decode cX8_pour 169 = .ok (.iload 7, 2) := by decide +kernel
theorem dX8_pour_171 : decode cX8_pour 171 = .ok (.iadd, 1) := by decide +kernel
theorem dX8_pour_172 : decode cX8_pour 172 = .ok (.laload, 1) := by decide +kernel
theorem dX8_pour_173 : decode cX8_pour 173 = .ok (.lastore, 1) := by decide +kernel
theorem dX8_pour_174 : decode cX8_pour 174 = .ok (.iinc 6 1, 3) := by decide +kernel
theorem dX8_pour_177 : decode cX8_pour 177 = .ok (.goto (-59), 3) := by decide +kernel
theorem dX8_pour_180 : decode cX8_pour 180 = .ok (.aload_n 0, 1) := by decide +kernel
theorem dX8_pour_181 : decode cX8_pour 181 = .ok (.iconst 0, 1) := by decide +kernel
theorem dX8_pour_182 : decode cX8_pour 182 = .ok (.invokevirtual 83, 3) := by decide +kernel
theorem dX8_pour_185 : decode cX8_pour 185 = .ok (.ireturn, 1) := by decide +kernel
theorem dX8_isEye_0 : decode cX8_isEye 0 = .ok (.iload_n 1, 1) := by decide +kernel
theorem dX8_isEye_1 : decode cX8_isEye 1 = .ok (.ifCond .lt 15, 3) := by decide +kernel
theorem dX8_isEye_4 : decode cX8_isEye 4 = .ok (.iload_n 1, 1) := by decide +kernel
theorem dX8_isEye_5 : decode cX8_isEye 5 = .ok (.aload_n 0, 1) := by decide +kernel
theorem dX8_isEye_6 : decode cX8_isEye 6 = .ok (.getfield 96, 3) := by decide +kernel
theorem dX8_isEye_9 : decode cX8_isEye 9 = .ok (.if_icmp .ge 7, 3) := by decide +kernel
theorem dX8_isEye_12 : decode cX8_isEye 12 = .ok (.iconst 1, 1) := by decide +kernel
theorem dX8_isEye_13 : decode cX8_isEye 13 = .ok (.goto 4, 3) := by decide +kernel
theorem dX8_isEye_16 : decode cX8_isEye 16 = .ok (.iconst 0, 1) := by decide +kernel
theorem dX8_isEye_17 : decode cX8_isEye 17 = .ok (.ireturn, 1) := by decide +kernel
theorem dX8_isDay_0 : decode cX8_isDay 0 = .ok (.iload_n 0, 1) := by decide +kernel
theorem dX8_isDay_1 : decode cX8_isDay 1 = .ok (.ifCond .lt 14, 3) := by decide +kernel
theorem dX8_isDay_4 : decode cX8_isDay 4 = .ok (.iload_n 0, 1) := by decide +kernel
theorem dX8_isDay_5 : decode cX8_isDay 5 = .ok (.sipush 240, 3) := by decide +kernel
theorem dX8_isDay_8 : decode cX8_isDay 8 = .ok (.if_icmp .ge 7, 3) := by decide +kernel
theorem dX8_isDay_11 : decode cX8_isDay 11 = .ok (.iconst 1, 1) := by decide +kernel
theorem dX8_isDay_12 : decode cX8_isDay 12 = .ok (.goto 4, 3) := by decide +kernel
theorem dX8_isDay_15 : decode cX8_isDay 15 = .ok (.iconst 0, 1) := by decide +kernel
theorem dX8_isDay_16 : decode cX8_isDay 16 = .ok (.ireturn, 1) := by decide +kernel
theorem dX8_isMonth_0 : decode cX8_isMonth 0 = .ok (.iload_n 0, 1) := by decide +kernel
theorem dX8_isMonth_1 : decode cX8_isMonth 1 = .ok (.ifCond .lt 13, 3) := by decide +kernel
theorem dX8_isMonth_4 : decode cX8_isMonth 4 = .ok (.iload_n 0, 1) := by decide +kernel
theorem dX8_isMonth_5 : decode cX8_isMonth 5 = .ok (.bipush 24, 2) := by decide +kernel
theorem dX8_isMonth_7 : decode cX8_isMonth 7 = .ok (.if_icmp .ge 7, 3) := by decide +kernel
theorem dX8_isMonth_10 : decode cX8_isMonth 10 = .ok (.iconst 1, 1) := by decide +kernel
theorem dX8_isMonth_11 : decode cX8_isMonth 11 = .ok (.goto 4, 3) := by decide +kernel
theorem dX8_isMonth_14 : decode cX8_isMonth 14 = .ok (.iconst 0, 1) := by decide +kernel
theorem dX8_isMonth_15 : decode cX8_isMonth 15 = .ok (.ireturn, 1) := by decide +kernel
theorem dX8_at_0 : decode cX8_at 0 = .ok (.sipush 240, 3) := by decide +kernel
theorem dX8_at_3 : decode cX8_at 3 = .ok (.iload_n 0, 1) := by decide +kernel
theorem dX8_at_4 : decode cX8_at 4 = .ok (.imul, 1) := by decide +kernel
theorem dX8_at_5 : decode cX8_at 5 = .ok (.iload_n 1, 1) := by decide +kernel
theorem dX8_at_6 : decode cX8_at 6 = .ok (.iadd, 1) := by decide +kernel
theorem dX8_at_7 : decode cX8_at 7 = .ok (.ireturn, 1) := by decide +kernel
set_option maxRecDepth 20000 in
theorem ggX8_eye_X8_refuse : GoodIn wsX8_eye wsX8_refuse := goodIn_r _ [8, 3, 12, 13, 14, 15, 16, 17, 18, 19, 20, 21, 22, 23, 24, 25, 26, 27, 28, 29, 30, 31, 32, 33, 34] (by decide +kernel) (by decide +kernel)
set_option maxRecDepth 20000 in
theorem gX8_eye_X8_refuse : GoodIn wsX8_eye (wsV RX8 99 RX8 yX8_refuse wsX8_refuse) := goodIn_app (goodIn_of _ (by decide +kernel)) ggX8_eye_X8_refuse
set_option maxRecDepth 20000 in
theorem ggX8_eye_X8_at : GoodIn wsX8_eye wsX8_at := goodIn_r _ [11] (by decide +kernel) (by decide +kernel)
set_option maxRecDepth 20000 in
theorem gX8_eye_X8_at : GoodIn wsX8_eye (va_wsS RX8 103 yX8_at wsX8_at) := goodIn_app (goodIn_of _ (by decide +kernel)) ggX8_eye_X8_at
theorem dX8_eye_0 : decode cX8_eye 0 = .ok (.aload_n 0, 1) := by decide +kernel
theorem dX8_eye_1 : decode cX8_eye 1 = .ok (.getfield 96, 3) := by decide +kernel
theorem dX8_eye_4 : decode cX8_eye 4 = .ok (.bipush 8, 2) := by decide +kernel
theorem dX8_eye_6 : decode cX8_eye 6 = .ok (.if_icmp .ne 9, 3) := by decide +kernel
theorem dX8_eye_9 : decode cX8_eye 9 = .ok (.aload_n 0, 1) := by decide +kernel
theorem dX8_eye_10 : decode cX8_eye 10 = .ok (.iconst 4, 1) := by decide +kernel
theorem dX8_eye_11 : decode cX8_eye 11 = .ok (.invokevirtual 99, 3) := by decide +kernel
theorem dX8_eye_14 : decode cX8_eye 14 = .ok (.ireturn, 1) := by decide +kernel
theorem dX8_eye_15 : decode cX8_eye 15 = .ok (.iconst 0, 1) := by decide +kernel
theorem dX8_eye_16 : decode cX8_eye 16 = .ok (.istore_n 1, 1) := by decide +kernel
theorem dX8_eye_17 : decode cX8_eye 17 = .ok (.iload_n 1, 1) := by decide +kernel
theorem dX8_eye_18 : decode cX8_eye 18 = .ok (.sipush 240, 3) := by decide +kernel
theorem dX8_eye_21 : decode cX8_eye 21 = .ok (.if_icmp .ge 23, 3) := by decide +kernel
theorem dX8_eye_24 : decode cX8_eye 24 = .ok (.aload_n 0, 1) := by decide +kernel
theorem dX8_eye_25 : decode cX8_eye 25 = .ok (.getfield 31, 3) := by decide +kernel
theorem dX8_eye_28 : decode cX8_eye 28 = .ok (.aload_n 0, 1) := by decide +kernel
theorem dX8_eye_29 : decode cX8_eye 29 = .ok (.getfield 96, 3) := by decide +kernel
theorem dX8_eye_32 : decode cX8_eye 32 = .ok (.iload_n 1, 1) := by decide +kernel
theorem dX8_eye_33 : decode cX8_eye 33 = .ok (.invokestatic 103, 3) := by decide +kernel
theorem dX8_eye_36 : decode cX8_eye 36 = .ok (.iconst (-1), 1) := by decide +kernel
theorem dX8_eye_37 : decode cX8_eye 37 = .ok (.iastore, 1) := by decide +kernel
theorem dX8_eye_38 : decode cX8_eye 38 = .ok (.iinc 1 1, 3) := by decide +kernel
theorem dX8_eye_41 : decode cX8_eye 41 = .ok (.goto (-24), 3) := by decide +kernel
theorem dX8_eye_44 : decode cX8_eye 44 = .ok (.aload_n 0, 1) := by decide +kernel
theorem dX8_eye_45 : decode cX8_eye 45 = .ok (.dup, 1) := by decide +kernel
theorem dX8_eye_46 : decode cX8_eye 46 = .ok (.getfield 96, 3) := by decide +kernel
theorem dX8_eye_49 : decode cX8_eye 49 = .ok (.iconst 1, 1) := by decide +kernel
theorem dX8_eye_50 : decode cX8_eye 50 = .ok (.iadd, 1) := by decide +kernel
theorem dX8_eye_51 : decode cX8_eye 51 = .ok (.putfield 96, 3) := by decide +kernel
theorem dX8_eye_54 : decode cX8_eye 54 = .ok (.aload_n 0, 1) := by decide +kernel
theorem dX8_eye_55 : decode cX8_eye 55 = .ok (.iconst 0, 1) := by decide +kernel
theorem dX8_eye_56 : decode cX8_eye 56 = .ok (.putfield 73, 3) := by decide +kernel
theorem dX8_eye_59 : decode cX8_eye 59 = .ok (.aload_n 0, 1) := by decide +kernel
theorem dX8_eye_60 : decode cX8_eye 60 = .ok (.getfield 96, 3) := by decide +kernel
theorem dX8_eye_63 : decode cX8_eye 63 = .ok (.iconst 1, 1) := by decide +kernel
theorem dX8_eye_64 : decode cX8_eye 64 = .ok (.isub, 1) := by decide +kernel
theorem dX8_eye_65 : decode cX8_eye 65 = .ok (.ireturn, 1) := by decide +kernel
theorem dX8_areTold_0 : decode cX8_areTold 0 = .ok (.lload_n 0, 1) := by decide +kernel
theorem dX8_areTold_1 : decode cX8_areTold 1 = .ok (.lconst 0, 1) := by decide +kernel
theorem dX8_areTold_2 : decode cX8_areTold 2 = .ok (.lcmp, 1) := by decide +kernel
theorem dX8_areTold_3 : decode cX8_areTold 3 = .ok (.ifCond .lt 29, 3) := by decide +kernel
theorem dX8_areTold_6 : decode cX8_areTold 6 = .ok (.lload_n 0, 1) := by decide +kernel
theorem dX8_areTold_7 : decode cX8_areTold 7 = .ok (.ldc2_w 106, 3) := by decide +kernel
theorem dX8_areTold_10 : decode cX8_areTold 10 = .ok (.lcmp, 1) := by decide +kernel
theorem dX8_areTold_11 : decode cX8_areTold 11 = .ok (.ifCond .gt 21, 3) := by decide +kernel
theorem dX8_areTold_14 : decode cX8_areTold 14 = .ok (.lload_n 2, 1) := by decide +kernel
theorem dX8_areTold_15 : decode cX8_areTold 15 = .ok (.lload_n 0, 1) := by decide +kernel
theorem dX8_areTold_16 : decode cX8_areTold 16 = .ok (.lcmp, 1) := by decide +kernel
theorem dX8_areTold_17 : decode cX8_areTold 17 = .ok (.ifCond .lt 15, 3) := by decide +kernel
theorem dX8_areTold_20 : decode cX8_areTold 20 = .ok (.lload_n 2, 1) := by decide +kernel
theorem dX8_areTold_21 : decode cX8_areTold 21 = .ok (.ldc2_w 108, 3) := by decide +kernel
theorem dX8_areTold_24 : decode cX8_areTold 24 = .ok (.lcmp, 1) := by decide +kernel
theorem dX8_areTold_25 : decode cX8_areTold 25 = .ok (.ifCond .gt 7, 3) := by decide +kernel
theorem dX8_areTold_28 : decode cX8_areTold 28 = .ok (.iconst 1, 1) := by decide +kernel
theorem dX8_areTold_29 : decode cX8_areTold 29 = .ok (.goto 4, 3) := by decide +kernel
theorem dX8_areTold_32 : decode cX8_areTold 32 = .ok (.iconst 0, 1) := by decide +kernel
theorem dX8_areTold_33 : decode cX8_areTold 33 = .ok (.ireturn, 1) := by decide +kernel
set_option maxRecDepth 20000 in
theorem ggX8_tell_X8_isEye : GoodIn wsX8_tell wsX8_isEye := goodIn_r _ [7, 8, 25, 26, 27, 28, 29, 30, 31, 32, 33, 34, 35, 36, 37, 38, 39, 40, 41, 42, 43, 44, 45, 46, 47] (by decide +kernel) (by decide +kernel)
set_option maxRecDepth 20000 in
theorem gX8_tell_X8_isEye : GoodIn wsX8_tell (wsV RX8 110 RX8 yX8_isEye wsX8_isEye) := goodIn_app (goodIn_of _ (by decide +kernel)) ggX8_tell_X8_isEye
set_option maxRecDepth 20000 in
theorem ggX8_tell_X8_isDay : GoodIn wsX8_tell wsX8_isDay := goodIn_r _ [11] (by decide +kernel) (by decide +kernel)
set_option maxRecDepth 20000 in
theorem gX8_tell_X8_isDay : GoodIn wsX8_tell (va_wsS RX8 113 yX8_isDay wsX8_isDay) := goodIn_app (goodIn_of _ (by decide +kernel)) ggX8_tell_X8_isDay
set_option maxRecDepth 20000 in
theorem ggX8_tell_X8_areTold : GoodIn wsX8_tell wsX8_areTold := goodIn_r _ [14, 15, 16] (by decide +kernel) (by decide +kernel)
set_option maxRecDepth 20000 in
theorem gX8_tell_X8_areTold : GoodIn wsX8_tell (va_wsS RX8 116 yX8_areTold wsX8_areTold) := goodIn_app (goodIn_of _ (by decide +kernel)) ggX8_tell_X8_areTold
set_option maxRecDepth 20000 in
theorem ggX8_tell_X8_is : GoodIn wsX8_tell wsX8_is := goodIn_r _ [20, 21, 25, 26, 27, 28, 29, 30, 31, 32, 33, 34, 35, 36, 37, 38, 39, 40, 41, 42, 43, 44, 45, 46, 47] (by decide +kernel) (by decide +kernel)
set_option maxRecDepth 20000 in
theorem gX8_tell_X8_is : GoodIn wsX8_tell (wsV RX8 83 RX8 yX8_is wsX8_is) := goodIn_app (goodIn_of _ (by decide +kernel)) ggX8_tell_X8_is
set_option maxRecDepth 20000 in
theorem ggX8_tell_X8_at : GoodIn wsX8_tell wsX8_at := goodIn_r _ [24] (by decide +kernel) (by decide +kernel)
set_option maxRecDepth 20000 in
theorem gX8_tell_X8_at : GoodIn wsX8_tell (va_wsS RX8 103 yX8_at wsX8_at) := goodIn_app (goodIn_of _ (by decide +kernel)) ggX8_tell_X8_at
theorem dX8_tell_0 : decode cX8_tell 0 = .ok (.aload_n 0, 1) := by decide +kernel
theorem dX8_tell_1 : decode cX8_tell 1 = .ok (.iload_n 1, 1) := by decide +kernel
theorem dX8_tell_2 : decode cX8_tell 2 = .ok (.invokevirtual 110, 3) := by decide +kernel
theorem dX8_tell_5 : decode cX8_tell 5 = .ok (.ifCond .eq 21, 3) := by decide +kernel
theorem dX8_tell_8 : decode cX8_tell 8 = .ok (.iload_n 2, 1) := by decide +kernel
theorem dX8_tell_9 : decode cX8_tell 9 = .ok (.invokestatic 113, 3) := by decide +kernel
theorem dX8_tell_12 : decode cX8_tell 12 = .ok (.ifCond .eq 14, 3) := by decide +kernel
theorem dX8_tell_15 : decode cX8_tell 15 = .ok (.iload_n 3, 1) := by decide +kernel
theorem dX8_tell_16 : decode cX8_tell 16 = .ok (.i2l, 1) := by decide +kernel
theorem dX8_tell_17 : decode cX8_tell 17 = .ok (.iload 4, 2) := by decide +kernel
theorem dX8_tell_19 : decode cX8_tell 19 = .ok (.i2l, 1) := by decide +kernel
theorem dX8_tell_20 : decode cX8_tell 20 = .ok (.invokestatic 116, 3) := by decide +kernel
theorem dX8_tell_23 : decode cX8_tell 23 = .ok (.ifCond .ne 9, 3) := by decide +kernel
theorem dX8_tell_26 : decode cX8_tell 26 = .ok (.aload_n 0, 1) := by decide +kernel
theorem dX8_tell_27 : decode cX8_tell 27 = .ok (.iconst 1, 1) := by decide +kernel
theorem dX8_tell_28 : decode cX8_tell 28 = .ok (.invokevirtual 83, 3) := by decide +kernel
theorem dX8_tell_31 : decode cX8_tell 31 = .ok (.ireturn, 1) := by decide +kernel
theorem dX8_tell_32 : decode cX8_tell 32 = .ok (.aload_n 0, 1) := by decide +kernel
theorem dX8_tell_33 : decode cX8_tell 33 = .ok (.getfield 31, 3) := by decide +kernel
theorem dX8_tell_36 : decode cX8_tell 36 = .ok (.iload_n 1, 1) := by decide +kernel
theorem dX8_tell_37 : decode cX8_tell 37 = .ok (.iload_n 2, 1) := by decide +kernel
theorem dX8_tell_38 : decode cX8_tell 38 = .ok (.invokestatic 103, 3) := by decide +kernel
theorem dX8_tell_41 : decode cX8_tell 41 = .ok (.iload_n 3, 1) := by decide +kernel
theorem dX8_tell_42 : decode cX8_tell 42 = .ok (.iastore, 1) := by decide +kernel
theorem dX8_tell_43 : decode cX8_tell 43 = .ok (.aload_n 0, 1) := by decide +kernel
theorem dX8_tell_44 : decode cX8_tell 44 = .ok (.getfield 34, 3) := by decide +kernel
theorem dX8_tell_47 : decode cX8_tell 47 = .ok (.iload_n 1, 1) := by decide +kernel
theorem dX8_tell_48 : decode cX8_tell 48 = .ok (.iload_n 2, 1) := by decide +kernel
theorem dX8_tell_49 : decode cX8_tell 49 = .ok (.invokestatic 103, 3) := by decide +kernel
theorem dX8_tell_52 : decode cX8_tell 52 = .ok (.iload 4, 2) := by decide +kernel
theorem dX8_tell_54 : decode cX8_tell 54 = .ok (.iastore, 1) := by decide +kernel
theorem dX8_tell_55 : decode cX8_tell 55 = .ok (.aload_n 0, 1) := by decide +kernel
theorem dX8_tell_56 : decode cX8_tell 56 = .ok (.iconst 0, 1) := by decide +kernel
theorem dX8_tell_57 : decode cX8_tell 57 = .ok (.invokevirtual 83, 3) := by decide +kernel
theorem dX8_tell_60 : decode cX8_tell 60 = .ok (.ireturn, 1) := by decide +kernel
