set_option maxRecDepth 20000 in
theorem ggX8_active_X8_isEye : GoodIn wsX8_active wsX8_isEye := goodIn_r _ [6, 7, 25, 26, 27, 28, 29, 30, 31, 32, 33, 34, 35, 36, 37, 38, 39, 40, 41, 42, 43, 44, 45, 46, 47] (by decide +kernel) (by decide +kernel)
set_option maxRecDepth 20000 in
theorem gX8_active_X8_isEye : GoodIn wsX8_active (wsV RX8 110 RX8 yX8_isEye wsX8_isEye) := goodIn_app (goodIn_of _ (by decide +kernel)) ggX8_active_X8_isEye
set_option maxRecDepth 20000 in
theorem ggX8_active_X8_isDay : GoodIn wsX8_active wsX8_isDay := goodIn_r _ [10] (by decide +kernel) (by decide +kernel)
set_option maxRecDepth 20000 in
theorem gX8_active_X8_isDay : GoodIn wsX8_active (va_wsS RX8 113 yX8_isDay wsX8_isDay) := goodIn_app (goodIn_of _ (by decide +kernel)) ggX8_active_X8_isDay
set_option maxRecDepth 20000 in
theorem ggX8_active_X8_refuse : GoodIn wsX8_active wsX8_refuse := goodIn_r _ [14, 15, 25, 26, 27, 28, 29, 30, 31, 32, 33, 34, 35, 36, 37, 38, 39, 40, 41, 42, 43, 44, 45, 46, 47] (by decide +kernel) (by decide +kernel)
set_option maxRecDepth 20000 in
theorem gX8_active_X8_refuse : GoodIn wsX8_active (wsV RX8 99 RX8 yX8_refuse wsX8_refuse) := goodIn_app (goodIn_of _ (by decide +kernel)) ggX8_active_X8_refuse
set_option maxRecDepth 20000 in
theorem ggX8_active_X8_at : GoodIn wsX8_active wsX8_at := goodIn_r _ [18] (by decide +kernel) (by decide +kernel)
set_option maxRecDepth 20000 in
theorem gX8_active_X8_at : GoodIn wsX8_active (va_wsS RX8 103 yX8_at wsX8_at) := goodIn_app (goodIn_of _ (by decide +kernel)) ggX8_active_X8_at
set_option maxRecDepth 20000 in
theorem ggX8_active_X8_fraction : GoodIn wsX8_active wsX8_fraction := goodIn_r _ [22, 23, 24, 15, 25, 26, 27, 28, 29, 30, 31, 32, 33, 34, 35, 36, 37, 38, 39, 40, 41, 42, 43, 44, 45, 46, 47] (by decide +kernel) (by decide +kernel)
set_option maxRecDepth 20000 in
theorem gX8_active_X8_fraction : GoodIn wsX8_active (wsV RX8 146 RX8 yX8_fraction wsX8_fraction) := goodIn_app (goodIn_of _ (by decide +kernel)) ggX8_active_X8_fraction
theorem dX8_active_0 : decode cX8_active 0 = .ok (.aload_n 0, 1) := by decide +kernel
theorem dX8_active_1 : decode cX8_active 1 = .ok (.iload_n 1, 1) := by decide +kernel
theorem dX8_active_2 : decode cX8_active 2 = .ok (.invokevirtual 110, 3) := by decide +kernel
theorem dX8_active_5 : decode cX8_active 5 = .ok (.ifCond .eq 22, 3) := by decide +kernel
theorem dX8_active_8 : decode cX8_active 8 = .ok (.iload_n 2, 1) := by decide +kernel
theorem dX8_active_9 : decode cX8_active 9 = .ok (.invokestatic 113, 3) := by decide +kernel
theorem dX8_active_12 : decode cX8_active 12 = .ok (.ifCond .eq 15, 3) := by decide +kernel
theorem dX8_active_15 : decode cX8_active 15 = .ok (.iload_n 3, 1) := by decide +kernel
theorem dX8_active_16 : decode cX8_active 16 = .ok (.invokestatic 113, 3) := by decide +kernel
theorem dX8_active_19 : decode cX8_active 19 = .ok (.ifCond .eq 8, 3) := by decide +kernel
theorem dX8_active_22 : decode cX8_active 22 = .ok (.iload_n 2, 1) := by decide +kernel
theorem dX8_active_23 : decode cX8_active 23 = .ok (.iload_n 3, 1) := by decide +kernel
theorem dX8_active_24 : decode cX8_active 24 = .ok (.if_icmp .le 9, 3) := by decide +kernel
theorem dX8_active_27 : decode cX8_active 27 = .ok (.aload_n 0, 1) := by decide +kernel
theorem dX8_active_28 : decode cX8_active 28 = .ok (.iconst 1, 1) := by decide +kernel
theorem dX8_active_29 : decode cX8_active 29 = .ok (.invokevirtual 99, 3) := by decide +kernel
theorem dX8_active_32 : decode cX8_active 32 = .ok (.ireturn, 1) := by decide +kernel
theorem dX8_active_33 : decode cX8_active 33 = .ok (.iconst 0, 1) := by decide +kernel
theorem dX8_active_34 : decode cX8_active 34 = .ok (.istore 4, 2) := by decide +kernel
theorem dX8_active_36 : decode cX8_active 36 = .ok (.iconst 0, 1) := by decide +kernel
theorem dX8_active_37 : decode cX8_active 37 = .ok (.istore 5, 2) := by decide +kernel
theorem dX8_active_39 : decode cX8_active 39 = .ok (.iload_n 2, 1) := by decide +kernel
theorem dX8_active_40 : decode cX8_active 40 = .ok (.istore 6, 2) := by decide +kernel
theorem dX8_active_42 : decode cX8_active 42 = .ok (.iload 6, 2) := by decide +kernel
theorem dX8_active_44 : decode cX8_active 44 = .ok (.iload_n 3, 1) := by decide +kernel
theorem dX8_active_45 : decode cX8_active 45 = .ok (.if_icmp .gt 54, 3) := by decide +kernel
theorem dX8_active_48 : decode cX8_active 48 = .ok (.aload_n 0, 1) := by decide +kernel
theorem dX8_active_49 : decode cX8_active 49 = .ok (.getfield 31, 3) := by decide +kernel
theorem dX8_active_52 : decode cX8_active 52 = .ok (.iload_n 1, 1) := by decide +kernel
theorem dX8_active_53 : decode cX8_active 53 = .ok (.iload 6, 2) := by decide +kernel
theorem dX8_active_55 : decode cX8_active 55 = .ok (.invokestatic 103, 3) := by decide +kernel
theorem dX8_active_58 : decode cX8_active 58 = .ok (.iaload, 1) := by decide +kernel
theorem dX8_active_59 : decode cX8_active 59 = .ok (.iconst (-1), 1) := by decide +kernel
theorem dX8_active_60 : decode cX8_active 60 = .ok (.if_icmp .ne 6, 3) := by decide +kernel
theorem dX8_active_63 : decode cX8_active 63 = .ok (.goto 30, 3) := by decide +kernel
theorem dX8_active_66 : decode cX8_active 66 = .ok (.iinc 4 1, 3) := by decide +kernel
theorem dX8_active_69 : decode cX8_active 69 = .ok (.iload 5, 2) := by decide +kernel
theorem dX8_active_71 : decode cX8_active 71 = .ok (.aload_n 0, 1) := by decide +kernel
theorem dX8_active_72 : decode cX8_active 72 = .ok (.getfield 31, 3) := by decide +kernel
theorem dX8_active_75 : decode cX8_active 75 = .ok (.iload_n 1, 1) := by decide +kernel
theorem dX8_active_76 : decode cX8_active 76 = .ok (.iload 6, 2) := by decide +kernel
theorem dX8_active_78 : decode cX8_active 78 = .ok (.invokestatic 103, 3) := by decide +kernel
theorem dX8_active_81 : decode cX8_active 81 = .ok (.iaload, 1) := by decide +kernel
theorem dX8_active_82 : decode cX8_active 82 = .ok (.ifCond .le 7, 3) := by decide +kernel
theorem dX8_active_85 : decode cX8_active 85 = .ok (.iconst 1, 1) := by decide +kernel
theorem dX8_active_86 : decode cX8_active 86 = .ok (.goto 4, 3) := by decide +kernel
theorem dX8_active_89 : decode cX8_active 89 = .ok (.iconst 0, 1) := by decide +kernel
theorem dX8_active_90 : decode cX8_active 90 = .ok (.iadd, 1) := by decide +kernel
theorem dX8_active_91 : decode cX8_active 91 = .ok (.istore 5, 2) := by decide +kernel
theorem dX8_active_93 : decode cX8_active 93 = .ok (.iinc 6 1, 3) := by decide +kernel
theorem dX8_active_96 : decode cX8_active 96 = .ok (.goto (-54), 3) := by decide +kernel
theorem dX8_active_99 : decode cX8_active 99 = .ok (.iload 4, 2) := by decide +kernel
theorem dX8_active_101 : decode cX8_active 101 = .ok (.ifCond .ne 11, 3) := by decide +kernel
theorem dX8_active_104 : decode cX8_active 104 = .ok (.aload_n 0, 1) := by decide +kernel
theorem dX8_active_105 : decode cX8_active 105 = .ok (.iconst 5, 1) := by decide +kernel
theorem dX8_active_106 : decode cX8_active 106 = .ok (.invokevirtual 99, 3) := by decide +kernel
theorem dX8_active_109 : decode cX8_active 109 = .ok (.goto 13, 3) := by decide +kernel
theorem dX8_active_112 : decode cX8_active 112 = .ok (.aload_n 0, 1) := by decide +kernel
theorem dX8_active_113 : decode cX8_active 113 = .ok (.iload 5, 2) := by decide +kernel
theorem dX8_active_115 : decode cX8_active 115 = .ok (.i2l, 1) := by decide +kernel
theorem dX8_active_116 : decode cX8_active 116 = .ok (.iload 4, 2) := by decide +kernel
theorem dX8_active_118 : decode cX8_active 118 = .ok (.i2l, 1) := by decide +kernel
theorem dX8_active_119 : decode cX8_active 119 = .ok (.invokevirtual 146, 3) := by decide +kernel
theorem dX8_active_122 : decode cX8_active 122 = .ok (.ireturn, 1) := by decide +kernel
theorem dX8_pair_0 : decode cX8_pair 0 = .ok (.bipush 8, 2) := by decide +kernel
theorem dX8_pair_2 : decode cX8_pair 2 = .ok (.iload_n 0, 1) := by decide +kernel
theorem dX8_pair_3 : decode cX8_pair 3 = .ok (.imul, 1) := by decide +kernel
theorem dX8_pair_4 : decode cX8_pair 4 = .ok (.iload_n 1, 1) := by decide +kernel
theorem dX8_pair_5 : decode cX8_pair 5 = .ok (.iadd, 1) := by decide +kernel
theorem dX8_pair_6 : decode cX8_pair 6 = .ok (.ireturn, 1) := by decide +kernel
set_option maxRecDepth 20000 in
theorem ggX8_look_X8_pair : GoodIn wsX8_look wsX8_pair := goodIn_r _ [14] (by decide +kernel) (by decide +kernel)
set_option maxRecDepth 20000 in
theorem gX8_look_X8_pair : GoodIn wsX8_look (va_wsS RX8 150 yX8_pair wsX8_pair) := goodIn_app (goodIn_of _ (by decide +kernel)) ggX8_look_X8_pair
set_option maxRecDepth 20000 in
theorem ggX8_look_X8_factorOf : GoodIn wsX8_look wsX8_factorOf := goodIn_r _ [18, 19, 20, 21, 22, 23, 24, 25, 13, 26, 27, 28, 29, 30, 31, 32, 33, 34, 35, 36, 37, 38, 39, 40, 45, 46, 47, 48, 49, 50, 51, 52, 53, 54, 55, 56, 57, 58, 59, 60, 61, 62, 63, 64, 65, 66, 67] (by decide +kernel) (by decide +kernel)
set_option maxRecDepth 20000 in
theorem gX8_look_X8_factorOf : GoodIn wsX8_look (wsV RX8 143 RX8 yX8_factorOf wsX8_factorOf) := goodIn_app (goodIn_of _ (by decide +kernel)) ggX8_look_X8_factorOf
set_option maxRecDepth 20000 in
theorem ggX8_look_X8_bothOf : GoodIn wsX8_look wsX8_bothOf := goodIn_r _ [44, 23, 24, 25, 13, 26, 27, 28, 29, 30, 31, 32, 33, 34, 35, 45, 46, 47, 48, 49, 50, 51, 52, 53, 54, 55, 56, 57, 58, 59, 60, 61, 62, 63, 64, 65, 66, 67] (by decide +kernel) (by decide +kernel)
set_option maxRecDepth 20000 in
theorem gX8_look_X8_bothOf : GoodIn wsX8_look (wsV RX8 136 RX8 yX8_bothOf wsX8_bothOf) := goodIn_app (goodIn_of _ (by decide +kernel)) ggX8_look_X8_bothOf
theorem dX8_look_0 : decode cX8_look 0 = .ok (.iconst 0, 1) := by decide +kernel
theorem dX8_look_1 : decode cX8_look 1 = .ok (.istore_n 1, 1) := by decide +kernel
theorem dX8_look_2 : decode cX8_look 2 = .ok (.iload_n 1, 1) := by decide +kernel
theorem dX8_look_3 : decode cX8_look 3 = .ok (.aload_n 0, 1) := by decide +kernel
theorem dX8_look_4 : decode cX8_look 4 = .ok (.getfield 96, 3) := by decide +kernel
theorem dX8_look_7 : decode cX8_look 7 = .ok (.if_icmp .ge 106, 3) := by decide +kernel
theorem dX8_look_10 : decode cX8_look 10 = .ok (.iconst 0, 1) := by decide +kernel
theorem dX8_look_11 : decode cX8_look 11 = .ok (.istore_n 2, 1) := by decide +kernel
theorem dX8_look_12 : decode cX8_look 12 = .ok (.iload_n 2, 1) := by decide +kernel
theorem dX8_look_13 : decode cX8_look 13 = .ok (.aload_n 0, 1) := by decide +kernel
theorem dX8_look_14 : decode cX8_look 14 = .ok (.getfield 96, 3) := by decide +kernel
theorem dX8_look_17 : decode cX8_look 17 = .ok (.if_icmp .ge 59, 3) := by decide +kernel
theorem dX8_look_20 : decode cX8_look 20 = .ok (.aload_n 0, 1) := by decide +kernel
theorem dX8_look_21 : decode cX8_look 21 = .ok (.getfield 58, 3) := by decide +kernel
theorem dX8_look_24 : decode cX8_look 24 = .ok (.iload_n 1, 1) := by decide +kernel
theorem dX8_look_25 : decode cX8_look 25 = .ok (.iload_n 2, 1) := by decide +kernel
theorem dX8_look_26 : decode cX8_look 26 = .ok (.invokestatic 150, 3) := by decide +kernel
theorem dX8_look_29 : decode cX8_look 29 = .ok (.iload_n 1, 1) := by decide +kernel
theorem dX8_look_30 : decode cX8_look 30 = .ok (.iload_n 2, 1) := by decide +kernel
theorem dX8_look_31 : decode cX8_look 31 = .ok (.if_icmp .ne 7, 3) := by decide +kernel
theorem dX8_look_34 : decode cX8_look 34 = .ok (.iconst (-1), 1) := by decide +kernel
theorem dX8_look_35 : decode cX8_look 35 = .ok (.goto 9, 3) := by decide +kernel
theorem dX8_look_38 : decode cX8_look 38 = .ok (.aload_n 0, 1) := by decide +kernel
theorem dX8_look_39 : decode cX8_look 39 = .ok (.iload_n 1, 1) := by decide +kernel
theorem dX8_look_40 : decode cX8_look 40 = .ok (.iload_n 2, 1) := by decide +kernel
theorem dX8_look_41 : decode cX8_look 41 = .ok (.invokevirtual 143, 3) := by decide +kernel
theorem dX8_look_44 : decode cX8_look 44 = .ok (.iastore, 1) := by decide +kernel
theorem dX8_look_45 : decode cX8_look 45 = .ok (.aload_n 0, 1) := by decide +kernel
theorem dX8_look_46 : decode cX8_look 46 = .ok (.getfield 55, 3) := by decide +kernel
theorem dX8_look_49 : decode cX8_look 49 = .ok (.iload_n 1, 1) := by decide +kernel
theorem dX8_look_50 : decode cX8_look 50 = .ok (.iload_n 2, 1) := by decide +kernel
theorem dX8_look_51 : decode cX8_look 51 = .ok (.invokestatic 150, 3) := by decide +kernel
theorem dX8_look_54 : decode cX8_look 54 = .ok (.iload_n 1, 1) := by decide +kernel
theorem dX8_look_55 : decode cX8_look 55 = .ok (.iload_n 2, 1) := by decide +kernel
theorem dX8_look_56 : decode cX8_look 56 = .ok (.if_icmp .ne 7, 3) := by decide +kernel
theorem dX8_look_59 : decode cX8_look 59 = .ok (.iconst 0, 1) := by decide +kernel
theorem dX8_look_60 : decode cX8_look 60 = .ok (.goto 9, 3) := by decide +kernel
theorem dX8_look_63 : decode cX8_look 63 = .ok (.aload_n 0, 1) := by decide +kernel
theorem dX8_look_64 : decode cX8_look 64 = .ok (.iload_n 1, 1) := by decide +kernel
theorem dX8_look_65 : decode cX8_look 65 = .ok (.iload_n 2, 1) := by decide +kernel
theorem dX8_look_66 : decode cX8_look 66 = .ok (.invokevirtual 136, 3) := by decide +kernel
theorem dX8_look_69 : decode cX8_look 69 = .ok (.iastore, 1) := by decide +kernel
theorem dX8_look_70 : decode cX8_look 70 = .ok (.iinc 2 1, 3) := by decide +kernel
theorem dX8_look_73 : decode cX8_look 73 = .ok (.goto (-61), 3) := by decide +kernel
theorem dX8_look_76 : decode cX8_look 76 = .ok (.aload_n 0, 1) := by decide +kernel
theorem dX8_look_77 : decode cX8_look 77 = .ok (.getfield 46, 3) := by decide +kernel
theorem dX8_look_80 : decode cX8_look 80 = .ok (.iload_n 1, 1) := by decide +kernel
theorem dX8_look_81 : decode cX8_look 81 = .ok (.iload_n 1, 1) := by decide +kernel
theorem dX8_look_82 : decode cX8_look 82 = .ok (.ifCond .ne 7, 3) := by decide +kernel
theorem dX8_look_85 : decode cX8_look 85 = .ok (.iconst 0, 1) := by decide +kernel
theorem dX8_look_86 : decode cX8_look 86 = .ok (.goto 4, 3) := by decide +kernel
theorem dX8_look_89 : decode cX8_look 89 = .ok (.iconst (-1), 1) := by decide +kernel
theorem dX8_look_90 : decode cX8_look 90 = .ok (.iastore, 1) := by decide +kernel
theorem dX8_look_91 : decode cX8_look 91 = .ok (.aload_n 0, 1) := by decide +kernel
theorem dX8_look_92 : decode cX8_look 92 = .ok (.getfield 49, 3) := by decide +kernel
theorem dX8_look_95 : decode cX8_look 95 = .ok (.iload_n 1, 1) := by decide +kernel
theorem dX8_look_96 : decode cX8_look 96 = .ok (.sipush 241, 3) := by decide +kernel
theorem dX8_look_99 : decode cX8_look 99 = .ok (.iastore, 1) := by decide +kernel
theorem dX8_look_100 : decode cX8_look 100 = .ok (.aload_n 0, 1) := by decide +kernel
theorem dX8_look_101 : decode cX8_look 101 = .ok (.getfield 52, 3) := by decide +kernel
theorem dX8_look_104 : decode cX8_look 104 = .ok (.iload_n 1, 1) := by decide +kernel
theorem dX8_look_105 : decode cX8_look 105 = .ok (.iconst (-1), 1) := by decide +kernel
theorem dX8_look_106 : decode cX8_look 106 = .ok (.iastore, 1) := by decide +kernel
theorem dX8_look_107 : decode cX8_look 107 = .ok (.iinc 1 1, 3) := by decide +kernel
theorem dX8_look_110 : decode cX8_look 110 = .ok (.goto (-108), 3) := by decide +kernel
theorem dX8_look_113 : decode cX8_look 113 = .ok (.iconst 1, 1) := by decide +kernel
theorem dX8_look_114 : decode cX8_look 114 = .ok (.istore_n 1, 1) := by decide +kernel
theorem dX8_look_115 : decode cX8_look 115 = .ok (.iload_n 1, 1) := by decide +kernel
theorem dX8_look_116 : decode cX8_look 116 = .ok (.aload_n 0, 1) := by decide +kernel
theorem dX8_look_117 : decode cX8_look 117 = .ok (.getfield 96, 3) := by decide +kernel
theorem dX8_look_120 : decode cX8_look 120 = .ok (.if_icmp .ge 186, 3) := by decide +kernel
theorem dX8_look_123 : decode cX8_look 123 = .ok (.iconst 1, 1) := by decide +kernel
theorem dX8_look_124 : decode cX8_look 124 = .ok (.istore_n 2, 1) := by decide +kernel
theorem dX8_look_125 : decode cX8_look 125 = .ok (.iload_n 2, 1) := by decide +kernel
theorem dX8_look_126 : decode cX8_look 126 = .ok (.aload_n 0, 1) := by decide +kernel
theorem dX8_look_127 : decode cX8_look 127 = .ok (.getfield 96, 3) := by decide +kernel
theorem dX8_look_130 : decode cX8_look 130 = .ok (.if_icmp .ge 127, 3) := by decide +kernel
theorem dX8_look_133 : decode cX8_look 133 = .ok (.aload_n 0, 1) := by decide +kernel
theorem dX8_look_134 : decode cX8_look 134 = .ok (.getfield 46, 3) := by decide +kernel
theorem dX8_look_137 : decode cX8_look 137 = .ok (.iload_n 2, 1) := by decide +kernel
theorem dX8_look_138 : decode cX8_look 138 = .ok (.iaload, 1) := by decide +kernel
theorem dX8_look_139 : decode cX8_look 139 = .ok (.iconst (-1), 1) := by decide +kernel
theorem dX8_look_140 : decode cX8_look 140 = .ok (.if_icmp .eq 6, 3) := by decide +kernel
theorem dX8_look_143 : decode cX8_look 143 = .ok (.goto 108, 3) := by decide +kernel
theorem dX8_look_146 : decode cX8_look 146 = .ok (.iconst 0, 1) := by decide +kernel
theorem dX8_look_147 : decode cX8_look 147 = .ok (.istore_n 3, 1) := by decide +kernel
theorem dX8_look_148 : decode cX8_look 148 = .ok (.iload_n 3, 1) := by decide +kernel
theorem dX8_look_149 : decode cX8_look 149 = .ok (.aload_n 0, 1) := by decide +kernel
theorem dX8_look_150 : decode cX8_look 150 = .ok (.getfield 96, 3) := by decide +kernel
theorem dX8_look_153 : decode cX8_look 153 = .ok (.if_icmp .ge 98, 3) := by decide +kernel
theorem dX8_look_156 : decode cX8_look 156 = .ok (.aload_n 0, 1) := by decide +kernel
theorem dX8_look_157 : decode cX8_look 157 = .ok (.getfield 46, 3) := by decide +kernel
theorem dX8_look_160 : decode cX8_look 160 = .ok (.iload_n 3, 1) := by decide +kernel
theorem dX8_look_161 : decode cX8_look 161 = .ok (.iaload, 1) := by decide +kernel
theorem dX8_look_162 : decode cX8_look 162 = .ok (.iload_n 1, 1) := by decide +kernel
theorem dX8_look_163 : decode cX8_look 163 = .ok (.iconst 1, 1) := by decide +kernel
theorem dX8_look_164 : decode cX8_look 164 = .ok (.isub, 1) := by decide +kernel
theorem dX8_look_165 : decode cX8_look 165 = .ok (.if_icmp .ne 80, 3) := by decide +kernel
theorem dX8_look_168 : decode cX8_look 168 = .ok (.aload_n 0, 1) := by decide +kernel
theorem dX8_look_169 : decode cX8_look 169 = .ok (.getfield 58, 3) := by decide +kernel
theorem dX8_look_172 : decode cX8_look 172 = .ok (.iload_n 2, 1) := by decide +kernel
theorem dX8_look_173 : decode cX8_look 173 = .ok (.iload_n 3, 1) := by decide +kernel
theorem dX8_look_174 : decode cX8_look 174 = .ok (.invokestatic 150, 3) := by decide +kernel
theorem dX8_look_177 : decode cX8_look 177 = .ok (.iaload, 1) := by decide +kernel
theorem dX8_look_178 : decode cX8_look 178 = .ok (.iconst (-1), 1) := by decide +kernel
theorem dX8_look_179 : decode cX8_look 179 = .ok (.if_icmp .ne 6, 3) := by decide +kernel
theorem dX8_look_182 : decode cX8_look 182 = .ok (.goto 63, 3) := by decide +kernel
theorem dX8_look_185 : decode cX8_look 185 = .ok (.aload_n 0, 1) := by decide +kernel
theorem dX8_look_186 : decode cX8_look 186 = .ok (.getfield 49, 3) := by decide +kernel
theorem dX8_look_189 : decode cX8_look 189 = .ok (.iload_n 3, 1) := by decide +kernel
theorem dX8_look_190 : decode cX8_look 190 = .ok (.iaload, 1) := by decide +kernel
theorem dX8_look_191 : decode cX8_look 191 = .ok (.aload_n 0, 1) := by decide +kernel
theorem dX8_look_192 : decode cX8_look 192 = .ok (.getfield 55, 3) := by decide +kernel
theorem dX8_look_195 : decode cX8_look 195 = .ok (.iload_n 2, 1) := by decide +kernel
theorem dX8_look_196 : decode cX8_look 196 = .ok (.iload_n 3, 1) := by decide +kernel
theorem dX8_look_197 : decode cX8_look 197 = .ok (.invokestatic 150, 3) := by decide +kernel
theorem dX8_look_200 : decode cX8_look 200 = .ok (.iaload, 1) := by decide +kernel
theorem dX8_look_201 : decode cX8_look 201 = .ok (.invokestatic 153, 3) := by decide +kernel
theorem dX8_look_204 : decode cX8_look 204 = .ok (.istore 4, 2) := by decide +kernel
theorem dX8_look_206 : decode cX8_look 206 = .ok (.aload_n 0, 1) := by decide +kernel
theorem dX8_look_207 : decode cX8_look 207 = .ok (.getfield 52, 3) := by decide +kernel
theorem dX8_look_210 : decode cX8_look 210 = .ok (.iload_n 2, 1) := by decide +kernel
theorem dX8_look_211 : decode cX8_look 211 = .ok (.iaload, 1) := by decide +kernel
theorem dX8_look_212 : decode cX8_look 212 = .ok (.iconst (-1), 1) := by decide +kernel
theorem dX8_look_213 : decode cX8_look 213 = .ok (.if_icmp .eq 17, 3) := by decide +kernel
theorem dX8_look_216 : decode cX8_look 216 = .ok (.iload 4, 2) := by decide +kernel
theorem dX8_look_218 : decode cX8_look 218 = .ok (.aload_n 0, 1) := by decide +kernel
theorem dX8_look_219 : decode cX8_look 219 = .ok (.getfield 49, 3) := by decide +kernel
theorem dX8_look_222 : decode cX8_look 222 = .ok (.iload_n 2, 1) := by decide +kernel
theorem dX8_look_223 : decode cX8_look 223 = .ok (.iaload, 1) := by decide +kernel
theorem dX8_look_224 : decode cX8_look 224 = .ok (.if_icmp .gt 6, 3) := by decide +kernel
theorem dX8_look_227 : decode cX8_look 227 = .ok (.goto 18, 3) := by decide +kernel
theorem dX8_look_230 : decode cX8_look 230 = .ok (.aload_n 0, 1) := by decide +kernel
theorem dX8_look_231 : decode cX8_look 231 = .ok (.getfield 49, 3) := by decide +kernel
theorem dX8_look_234 : decode cX8_look 234 = .ok (.iload_n 2, 1) := by decide +kernel
theorem dX8_look_235 : decode cX8_look 235 = .ok (.iload 4, 2) := by decide +kernel
theorem dX8_look_237 : decode cX8_look 237 = .ok (.iastore, 1) := by decide +kernel
theorem dX8_look_238 : decode cX8_look 238 = .ok (.aload_n 0, 1) := by decide +kernel
theorem dX8_look_239 : decode cX8_look 239 = .ok (.getfield 52, 3) := by decide +kernel
theorem dX8_look_242 : decode cX8_look 242 = .ok (.iload_n 2, 1) := by decide +kernel
theorem dX8_look_243 : decode cX8_look 243 = .ok (.iload_n 3, 1) := by decide +kernel
theorem dX8_look_244 : decode cX8_look 244 = .ok (.iastore, 1) := by decide +kernel
theorem dX8_look_245 : decode cX8_look 245 = .ok (.iinc 3 1, 3) := by decide +kernel
theorem dX8_look_248 : decode cX8_look 248 = .ok (.goto (-100), 3) := by decide +kernel
theorem dX8_look_251 : decode cX8_look 251 = .ok (.iinc 2 1, 3) := by decide +kernel
theorem dX8_look_254 : decode cX8_look 254 = .ok (.goto (-129), 3) := by decide +kernel
theorem dX8_look_257 : decode cX8_look 257 = .ok (.iconst 1, 1) := by decide +kernel
theorem dX8_look_258 : decode cX8_look 258 = .ok (.istore_n 2, 1) := by decide +kernel
theorem dX8_look_259 : decode cX8_look 259 = .ok (.iload_n 2, 1) := by decide +kernel
theorem dX8_look_260 : decode cX8_look 260 = .ok (.aload_n 0, 1) := by decide +kernel
theorem dX8_look_261 : decode cX8_look 261 = .ok (.getfield 96, 3) := by decide +kernel
theorem dX8_look_264 : decode cX8_look 264 = .ok (.if_icmp .ge 36, 3) := by decide +kernel
theorem dX8_look_267 : decode cX8_look 267 = .ok (.aload_n 0, 1) := by decide +kernel
theorem dX8_look_268 : decode cX8_look 268 = .ok (.getfield 46, 3) := by decide +kernel
theorem dX8_look_271 : decode cX8_look 271 = .ok (.iload_n 2, 1) := by decide +kernel
theorem dX8_look_272 : decode cX8_look 272 = .ok (.iaload, 1) := by decide +kernel
theorem dX8_look_273 : decode cX8_look 273 = .ok (.iconst (-1), 1) := by decide +kernel
theorem dX8_look_274 : decode cX8_look 274 = .ok (.if_icmp .ne 20, 3) := by decide +kernel
theorem dX8_look_277 : decode cX8_look 277 = .ok (.aload_n 0, 1) := by decide +kernel
theorem dX8_look_278 : decode cX8_look 278 = .ok (.getfield 52, 3) := by decide +kernel
theorem dX8_look_281 : decode cX8_look 281 = .ok (.iload_n 2, 1) := by decide +kernel
theorem dX8_look_282 : decode cX8_look 282 = .ok (.iaload, 1) := by decide +kernel
theorem dX8_look_283 : decode cX8_look 283 = .ok (.iconst (-1), 1) := by decide +kernel
theorem dX8_look_284 : decode cX8_look 284 = .ok (.if_icmp .eq 10, 3) := by decide +kernel
theorem dX8_look_287 : decode cX8_look 287 = .ok (.aload_n 0, 1) := by decide +kernel
theorem dX8_look_288 : decode cX8_look 288 = .ok (.getfield 46, 3) := by decide +kernel
theorem dX8_look_291 : decode cX8_look 291 = .ok (.iload_n 2, 1) := by decide +kernel
theorem dX8_look_292 : decode cX8_look 292 = .ok (.iload_n 1, 1) := by decide +kernel
theorem dX8_look_293 : decode cX8_look 293 = .ok (.iastore, 1) := by decide +kernel
theorem dX8_look_294 : decode cX8_look 294 = .ok (.iinc 2 1, 3) := by decide +kernel
theorem dX8_look_297 : decode cX8_look 297 = .ok (.goto (-38), 3) := by decide +kernel
theorem dX8_look_300 : decode cX8_look 300 = .ok (.iinc 1 1, 3) := by decide +kernel
theorem dX8_look_303 : decode cX8_look 303 = .ok (.goto (-188), 3) := by decide +kernel
theorem dX8_look_306 : decode cX8_look 306 = .ok (.return_, 1) := by decide +kernel
set_option maxRecDepth 20000 in
theorem ggX8_lay_X8_look : GoodIn wsX8_lay wsX8_look := goodIn_r _ [14, 15, 4, 5, 1, 2, 16, 6, 7, 8, 9, 17, 18, 13, 19, 20, 21, 22, 23, 24, 25, 26, 27, 28, 29, 30, 31, 32, 33, 34, 35, 36, 37, 38, 39, 40, 41, 42, 43, 44, 45, 46, 47, 48, 49, 50, 51, 52, 53, 54, 55, 56, 57, 58, 59, 60, 61, 62, 63, 64, 65, 66, 67, 68, 69, 70, 71, 72] (by decide +kernel) (by decide +kernel)
set_option maxRecDepth 20000 in
theorem gX8_lay_X8_look : GoodIn wsX8_lay (wsV RX8 158 RX8 yX8_look wsX8_look) := goodIn_app (goodIn_of _ (by decide +kernel)) ggX8_lay_X8_look
set_option maxRecDepth 20000 in
theorem ggX8_lay_X8_pair : GoodIn wsX8_lay wsX8_pair := goodIn_r _ [19] (by decide +kernel) (by decide +kernel)
set_option maxRecDepth 20000 in
theorem gX8_lay_X8_pair : GoodIn wsX8_lay (va_wsS RX8 150 yX8_pair wsX8_pair) := goodIn_app (goodIn_of _ (by decide +kernel)) ggX8_lay_X8_pair
theorem dX8_lay_0 : decode cX8_lay 0 = .ok (.aload_n 0, 1) := by decide +kernel
theorem dX8_lay_1 : decode cX8_lay 1 = .ok (.invokevirtual 158, 3) := by decide +kernel
theorem dX8_lay_4 : decode cX8_lay 4 = .ok (.aload_n 0, 1) := by decide +kernel
theorem dX8_lay_5 : decode cX8_lay 5 = .ok (.getfield 46, 3) := by decide +kernel
theorem dX8_lay_8 : decode cX8_lay 8 = .ok (.iload_n 1, 1) := by decide +kernel
theorem dX8_lay_9 : decode cX8_lay 9 = .ok (.iaload, 1) := by decide +kernel
theorem dX8_lay_10 : decode cX8_lay 10 = .ok (.iconst (-1), 1) := by decide +kernel
theorem dX8_lay_11 : decode cX8_lay 11 = .ok (.if_icmp .ne 5, 3) := by decide +kernel
theorem dX8_lay_14 : decode cX8_lay 14 = .ok (.iconst (-1), 1) := by decide +kernel
theorem dX8_lay_15 : decode cX8_lay 15 = .ok (.ireturn, 1) := by decide +kernel
theorem dX8_lay_16 : decode cX8_lay 16 = .ok (.aload_n 0, 1) := by decide +kernel
theorem dX8_lay_17 : decode cX8_lay 17 = .ok (.getfield 49, 3) := by decide +kernel
theorem dX8_lay_20 : decode cX8_lay 20 = .ok (.iload_n 1, 1) := by decide +kernel
theorem dX8_lay_21 : decode cX8_lay 21 = .ok (.iaload, 1) := by decide +kernel
theorem dX8_lay_22 : decode cX8_lay 22 = .ok (.istore_n 2, 1) := by decide +kernel
theorem dX8_lay_23 : decode cX8_lay 23 = .ok (.iload_n 1, 1) := by decide +kernel
theorem dX8_lay_24 : decode cX8_lay 24 = .ok (.istore_n 3, 1) := by decide +kernel
theorem dX8_lay_25 : decode cX8_lay 25 = .ok (.aload_n 0, 1) := by decide +kernel
theorem dX8_lay_26 : decode cX8_lay 26 = .ok (.getfield 61, 3) := by decide +kernel
theorem dX8_lay_29 : decode cX8_lay 29 = .ok (.iconst 0, 1) := by decide +kernel
theorem dX8_lay_30 : decode cX8_lay 30 = .ok (.iload_n 1, 1) := by decide +kernel
theorem dX8_lay_31 : decode cX8_lay 31 = .ok (.iastore, 1) := by decide +kernel
theorem dX8_lay_32 : decode cX8_lay 32 = .ok (.iconst 1, 1) := by decide +kernel
theorem dX8_lay_33 : decode cX8_lay 33 = .ok (.istore 4, 2) := by decide +kernel
theorem dX8_lay_35 : decode cX8_lay 35 = .ok (.iload 4, 2) := by decide +kernel
theorem dX8_lay_37 : decode cX8_lay 37 = .ok (.aload_n 0, 1) := by decide +kernel
theorem dX8_lay_38 : decode cX8_lay 38 = .ok (.getfield 46, 3) := by decide +kernel
theorem dX8_lay_41 : decode cX8_lay 41 = .ok (.iload_n 1, 1) := by decide +kernel
theorem dX8_lay_42 : decode cX8_lay 42 = .ok (.iaload, 1) := by decide +kernel
theorem dX8_lay_43 : decode cX8_lay 43 = .ok (.if_icmp .gt 88, 3) := by decide +kernel
theorem dX8_lay_46 : decode cX8_lay 46 = .ok (.iconst 0, 1) := by decide +kernel
theorem dX8_lay_47 : decode cX8_lay 47 = .ok (.istore 5, 2) := by decide +kernel
theorem dX8_lay_49 : decode cX8_lay 49 = .ok (.aload_n 0, 1) := by decide +kernel
theorem dX8_lay_50 : decode cX8_lay 50 = .ok (.getfield 46, 3) := by decide +kernel
theorem dX8_lay_53 : decode cX8_lay 53 = .ok (.iload 5, 2) := by decide +kernel
theorem dX8_lay_55 : decode cX8_lay 55 = .ok (.iaload, 1) := by decide +kernel
theorem dX8_lay_56 : decode cX8_lay 56 = .ok (.aload_n 0, 1) := by decide +kernel
theorem dX8_lay_57 : decode cX8_lay 57 = .ok (.getfield 46, 3) := by decide +kernel
theorem dX8_lay_60 : decode cX8_lay 60 = .ok (.iload_n 3, 1) := by decide +kernel
theorem dX8_lay_61 : decode cX8_lay 61 = .ok (.iaload, 1) := by decide +kernel
theorem dX8_lay_62 : decode cX8_lay 62 = .ok (.iconst 1, 1) := by decide +kernel
theorem dX8_lay_63 : decode cX8_lay 63 = .ok (.isub, 1) := by decide +kernel
theorem dX8_lay_64 : decode cX8_lay 64 = .ok (.if_icmp .ne 43, 3) := by decide +kernel
theorem dX8_lay_67 : decode cX8_lay 67 = .ok (.aload_n 0, 1) := by decide +kernel
theorem dX8_lay_68 : decode cX8_lay 68 = .ok (.getfield 58, 3) := by decide +kernel
theorem dX8_lay_71 : decode cX8_lay 71 = .ok (.iload_n 3, 1) := by decide +kernel
theorem dX8_lay_72 : decode cX8_lay 72 = .ok (.iload 5, 2) := by decide +kernel
theorem dX8_lay_74 : decode cX8_lay 74 = .ok (.invokestatic 150, 3) := by decide +kernel
theorem dX8_lay_77 : decode cX8_lay 77 = .ok (.iaload, 1) := by decide +kernel
theorem dX8_lay_78 : decode cX8_lay 78 = .ok (.iconst (-1), 1) := by decide +kernel
theorem dX8_lay_79 : decode cX8_lay 79 = .ok (.if_icmp .eq 28, 3) := by decide +kernel
theorem dX8_lay_82 : decode cX8_lay 82 = .ok (.aload_n 0, 1) := by decide +kernel
theorem dX8_lay_83 : decode cX8_lay 83 = .ok (.getfield 49, 3) := by decide +kernel
theorem dX8_lay_86 : decode cX8_lay 86 = .ok (.iload 5, 2) := by decide +kernel
theorem dX8_lay_88 : decode cX8_lay 88 = .ok (.iaload, 1) := by decide +kernel
theorem dX8_lay_89 : decode cX8_lay 89 = .ok (.aload_n 0, 1) := by decide +kernel
theorem dX8_lay_90 : decode cX8_lay 90 = .ok (.getfield 55, 3) := by decide +kernel
theorem dX8_lay_93 : decode cX8_lay 93 = .ok (.iload_n 3, 1) := by decide +kernel
theorem dX8_lay_94 : decode cX8_lay 94 = .ok (.iload 5, 2) := by decide +kernel
theorem dX8_lay_96 : decode cX8_lay 96 = .ok (.invokestatic 150, 3) := by decide +kernel
theorem dX8_lay_99 : decode cX8_lay 99 = .ok (.iaload, 1) := by decide +kernel
theorem dX8_lay_100 : decode cX8_lay 100 = .ok (.invokestatic 153, 3) := by decide +kernel
theorem dX8_lay_103 : decode cX8_lay 103 = .ok (.iload_n 2, 1) := by decide +kernel
theorem dX8_lay_104 : decode cX8_lay 104 = .ok (.if_icmp .ge 9, 3) := by decide +kernel
theorem dX8_lay_107 : decode cX8_lay 107 = .ok (.iinc 5 1, 3) := by decide +kernel
theorem dX8_lay_110 : decode cX8_lay 110 = .ok (.goto (-61), 3) := by decide +kernel
theorem dX8_lay_113 : decode cX8_lay 113 = .ok (.aload_n 0, 1) := by decide +kernel
theorem dX8_lay_114 : decode cX8_lay 114 = .ok (.getfield 61, 3) := by decide +kernel
theorem dX8_lay_117 : decode cX8_lay 117 = .ok (.iload 4, 2) := by decide +kernel
theorem dX8_lay_119 : decode cX8_lay 119 = .ok (.iload 5, 2) := by decide +kernel
theorem dX8_lay_121 : decode cX8_lay 121 = .ok (.iastore, 1) := by decide +kernel
theorem dX8_lay_122 : decode cX8_lay 122 = .ok (.iload 5, 2) := by decide +kernel
theorem dX8_lay_124 : decode cX8_lay 124 = .ok (.istore_n 3, 1) := by decide +kernel
theorem dX8_lay_125 : decode cX8_lay 125 = .ok (.iinc 4 1, 3) := by decide +kernel
theorem dX8_lay_128 : decode cX8_lay 128 = .ok (.goto (-93), 3) := by decide +kernel
theorem dX8_lay_131 : decode cX8_lay 131 = .ok (.aload_n 0, 1) := by decide +kernel
theorem dX8_lay_132 : decode cX8_lay 132 = .ok (.getfield 46, 3) := by decide +kernel
theorem dX8_lay_135 : decode cX8_lay 135 = .ok (.iload_n 1, 1) := by decide +kernel
theorem dX8_lay_136 : decode cX8_lay 136 = .ok (.iaload, 1) := by decide +kernel
theorem dX8_lay_137 : decode cX8_lay 137 = .ok (.iconst 1, 1) := by decide +kernel
theorem dX8_lay_138 : decode cX8_lay 138 = .ok (.iadd, 1) := by decide +kernel
theorem dX8_lay_139 : decode cX8_lay 139 = .ok (.ireturn, 1) := by decide +kernel
set_option maxRecDepth 20000 in
theorem ggX8_chain_X8_isEye : GoodIn wsX8_chain wsX8_isEye := goodIn_r _ [7, 8, 63, 64, 65, 66, 67, 68, 69, 70, 71, 72, 73, 74, 75, 76, 77, 78, 79, 80, 81, 82, 83, 84, 85] (by decide +kernel) (by decide +kernel)
set_option maxRecDepth 20000 in
theorem gX8_chain_X8_isEye : GoodIn wsX8_chain (wsV RX8 110 RX8 yX8_isEye wsX8_isEye) := goodIn_app (goodIn_of _ (by decide +kernel)) ggX8_chain_X8_isEye
set_option maxRecDepth 20000 in
theorem ggX8_chain_X8_refuse : GoodIn wsX8_chain wsX8_refuse := goodIn_r _ [12, 1, 63, 64, 65, 66, 67, 68, 69, 70, 71, 72, 73, 74, 75, 76, 77, 78, 79, 80, 81, 82, 83, 84, 85] (by decide +kernel) (by decide +kernel)
set_option maxRecDepth 20000 in
theorem gX8_chain_X8_refuse : GoodIn wsX8_chain (wsV RX8 99 RX8 yX8_refuse wsX8_refuse) := goodIn_app (goodIn_of _ (by decide +kernel)) ggX8_chain_X8_refuse
set_option maxRecDepth 20000 in
theorem ggX8_chain_X8_lay : GoodIn wsX8_chain wsX8_lay := goodIn_r _ [16, 17, 18, 2, 19, 20, 21, 22, 23, 24, 25, 26, 27, 6, 28, 8, 29, 30, 31, 32, 33, 34, 35, 36, 37, 38, 39, 40, 41, 42, 43, 44, 45, 46, 47, 48, 49, 50, 51, 52, 53, 54, 55, 56, 57, 58, 59, 60, 61, 62, 63, 64, 65, 66, 67, 68, 69, 70, 71, 72, 73, 74, 75, 76, 77, 78, 79, 80, 81, 82, 83, 84, 85] (by decide +kernel) (by decide +kernel)
set_option maxRecDepth 20000 in
theorem gX8_chain_X8_lay : GoodIn wsX8_chain (wsV RX8 161 RX8 yX8_lay wsX8_lay) := goodIn_app (goodIn_of _ (by decide +kernel)) ggX8_chain_X8_lay
theorem dX8_chain_0 : decode cX8_chain 0 = .ok (.aload_n 0, 1) := by decide +kernel
theorem dX8_chain_1 : decode cX8_chain 1 = .ok (.iload_n 1, 1) := by decide +kernel
theorem dX8_chain_2 : decode cX8_chain 2 = .ok (.invokevirtual 110, 3) := by decide +kernel
theorem dX8_chain_5 : decode cX8_chain 5 = .ok (.ifCond .ne 9, 3) := by decide +kernel
theorem dX8_chain_8 : decode cX8_chain 8 = .ok (.aload_n 0, 1) := by decide +kernel
theorem dX8_chain_9 : decode cX8_chain 9 = .ok (.iconst 1, 1) := by decide +kernel
theorem dX8_chain_10 : decode cX8_chain 10 = .ok (.invokevirtual 99, 3) := by decide +kernel
theorem dX8_chain_13 : decode cX8_chain 13 = .ok (.ireturn, 1) := by decide +kernel
theorem dX8_chain_14 : decode cX8_chain 14 = .ok (.aload_n 0, 1) := by decide +kernel
theorem dX8_chain_15 : decode cX8_chain 15 = .ok (.iload_n 1, 1) := by decide +kernel
theorem dX8_chain_16 : decode cX8_chain 16 = .ok (.invokevirtual 161, 3) := by decide +kernel
theorem dX8_chain_19 : decode cX8_chain 19 = .ok (.istore_n 3, 1) := by decide +kernel
theorem dX8_chain_20 : decode cX8_chain 20 = .ok (.iload_n 3, 1) := by decide +kernel
theorem dX8_chain_21 : decode cX8_chain 21 = .ok (.iconst (-1), 1) := by decide +kernel
theorem dX8_chain_22 : decode cX8_chain 22 = .ok (.if_icmp .eq 12, 3) := by decide +kernel
theorem dX8_chain_25 : decode cX8_chain 25 = .ok (.iload_n 2, 1) := by decide +kernel
theorem dX8_chain_26 : decode cX8_chain 26 = .ok (.ifCond .lt 8, 3) := by decide +kernel
theorem dX8_chain_29 : decode cX8_chain 29 = .ok (.iload_n 2, 1) := by decide +kernel
theorem dX8_chain_30 : decode cX8_chain 30 = .ok (.iload_n 3, 1) := by decide +kernel
theorem dX8_chain_31 : decode cX8_chain 31 = .ok (.if_icmp .lt 10, 3) := by decide +kernel
theorem dX8_chain_34 : decode cX8_chain 34 = .ok (.aload_n 0, 1) := by decide +kernel
theorem dX8_chain_35 : decode cX8_chain 35 = .ok (.bipush 6, 2) := by decide +kernel
theorem dX8_chain_37 : decode cX8_chain 37 = .ok (.invokevirtual 99, 3) := by decide +kernel
theorem dX8_chain_40 : decode cX8_chain 40 = .ok (.ireturn, 1) := by decide +kernel
theorem dX8_chain_41 : decode cX8_chain 41 = .ok (.aload_n 0, 1) := by decide +kernel
theorem dX8_chain_42 : decode cX8_chain 42 = .ok (.iconst 0, 1) := by decide +kernel
theorem dX8_chain_43 : decode cX8_chain 43 = .ok (.putfield 73, 3) := by decide +kernel
theorem dX8_chain_46 : decode cX8_chain 46 = .ok (.aload_n 0, 1) := by decide +kernel
theorem dX8_chain_47 : decode cX8_chain 47 = .ok (.getfield 61, 3) := by decide +kernel
theorem dX8_chain_50 : decode cX8_chain 50 = .ok (.iload_n 2, 1) := by decide +kernel
theorem dX8_chain_51 : decode cX8_chain 51 = .ok (.iaload, 1) := by decide +kernel
theorem dX8_chain_52 : decode cX8_chain 52 = .ok (.ireturn, 1) := by decide +kernel
