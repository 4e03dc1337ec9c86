set_option maxRecDepth 20000 in
theorem ggX7_read_X6_whyNoPlace : GoodIn wsX7_read wsX6_whyNoPlace := goodIn_r _ [7, 8, 9, 10, 11, 12, 13, 14, 6, 15, 16, 34, 35, 36] (by decide +kernel) (by decide +kernel)
set_option maxRecDepth 20000 in
theorem gX7_read_X6_whyNoPlace : GoodIn wsX7_read (wsV RX7 88 RX6 yX6_whyNoPlace wsX6_whyNoPlace) := goodIn_app (goodIn_of _ (by decide +kernel)) ggX7_read_X6_whyNoPlace
set_option maxRecDepth 20000 in
theorem ggX7_read_X7_lack : GoodIn wsX7_read wsX7_lack := goodIn_r _ [20, 2, 26, 27, 28, 29, 30, 31, 32, 33] (by decide +kernel) (by decide +kernel)
set_option maxRecDepth 20000 in
theorem gX7_read_X7_lack : GoodIn wsX7_read (wsV RX7 96 RX7 yX7_lack wsX7_lack) := goodIn_app (goodIn_of _ (by decide +kernel)) ggX7_read_X7_lack
set_option maxRecDepth 20000 in
theorem ggX7_read_X6_numberAt : GoodIn wsX7_read wsX6_numberAt := goodIn_r _ [24, 25, 34, 35, 36] (by decide +kernel) (by decide +kernel)
set_option maxRecDepth 20000 in
theorem gX7_read_X6_numberAt : GoodIn wsX7_read (wsV RX7 100 RX6 yX6_numberAt wsX6_numberAt) := goodIn_app (goodIn_of _ (by decide +kernel)) ggX7_read_X6_numberAt
theorem dX7_read_0 : decode cX7_read 0 = .ok (.aload_n 0, 1) := by decide +kernel
theorem dX7_read_1 : decode cX7_read 1 = .ok (.getfield 10, 3) := by decide +kernel
theorem dX7_read_4 : decode cX7_read 4 = .ok (.iload_n 1, 1) := by decide +kernel
theorem dX7_read_5 : decode cX7_read 5 = .ok (.iload_n 2, 1) := by decide +kernel
theorem dX7_read_6 : decode cX7_read 6 = .ok (.invokevirtual 88, 3) := by decide +kernel
theorem dX7_read_9 : decode cX7_read 9 = .ok (.istore_n 3, 1) := by decide +kernel
theorem dX7_read_10 : decode cX7_read 10 = .ok (.iload_n 3, 1) := by decide +kernel
theorem dX7_read_11 : decode cX7_read 11 = .ok (.ifCond .eq 10, 3) := by decide +kernel
theorem dX7_read_14 : decode cX7_read 14 = .ok (.aload_n 0, 1) := by decide +kernel
theorem dX7_read_15 : decode cX7_read 15 = .ok (.iload_n 3, 1) := by decide +kernel
theorem dX7_read_16 : decode cX7_read 16 = .ok (.invokevirtual 96, 3) := by decide +kernel
theorem dX7_read_19 : decode cX7_read 19 = .ok (.i2l, 1) := by decide +kernel
theorem dX7_read_20 : decode cX7_read 20 = .ok (.lreturn, 1) := by decide +kernel
theorem dX7_read_21 : decode cX7_read 21 = .ok (.aload_n 0, 1) := by decide +kernel
theorem dX7_read_22 : decode cX7_read 22 = .ok (.iconst 0, 1) := by decide +kernel
theorem dX7_read_23 : decode cX7_read 23 = .ok (.putfield 58, 3) := by decide +kernel
theorem dX7_read_26 : decode cX7_read 26 = .ok (.aload_n 0, 1) := by decide +kernel
theorem dX7_read_27 : decode cX7_read 27 = .ok (.getfield 10, 3) := by decide +kernel
theorem dX7_read_30 : decode cX7_read 30 = .ok (.iload_n 1, 1) := by decide +kernel
theorem dX7_read_31 : decode cX7_read 31 = .ok (.iload_n 2, 1) := by decide +kernel
theorem dX7_read_32 : decode cX7_read 32 = .ok (.invokevirtual 100, 3) := by decide +kernel
theorem dX7_read_35 : decode cX7_read 35 = .ok (.lreturn, 1) := by decide +kernel
set_option maxRecDepth 20000 in
theorem ggX7_pour_X7_whyNoPour : GoodIn wsX7_pour wsX7_whyNoPour := goodIn_r _ [6, 1, 7, 8, 5, 9, 10, 11, 12, 13, 14, 15, 16, 17, 18, 19, 20, 21, 22, 23, 24, 43, 44, 45, 46, 47, 48, 49, 50, 51, 52, 53] (by decide +kernel) (by decide +kernel)
set_option maxRecDepth 20000 in
theorem gX7_pour_X7_whyNoPour : GoodIn wsX7_pour (wsV RX7 104 RX7 yX7_whyNoPour wsX7_whyNoPour) := goodIn_app (goodIn_of _ (by decide +kernel)) ggX7_pour_X7_whyNoPour
set_option maxRecDepth 20000 in
theorem ggX7_pour_X7_refuse : GoodIn wsX7_pour wsX7_refuse := goodIn_r _ [28, 29, 43, 44, 45, 46, 47, 48, 49, 50] (by decide +kernel) (by decide +kernel)
set_option maxRecDepth 20000 in
theorem gX7_pour_X7_refuse : GoodIn wsX7_pour (wsV RX7 77 RX7 yX7_refuse wsX7_refuse) := goodIn_app (goodIn_of _ (by decide +kernel)) ggX7_pour_X7_refuse
set_option maxRecDepth 20000 in
theorem ggX7_pour_X6_carry : GoodIn wsX7_pour wsX6_carry := goodIn_r _ [33, 34, 35, 36, 37, 38, 51, 52, 53] (by decide +kernel) (by decide +kernel)
set_option maxRecDepth 20000 in
theorem gX7_pour_X6_carry : GoodIn wsX7_pour (wsV RX7 108 RX6 yX6_carry wsX6_carry) := goodIn_app (goodIn_of _ (by decide +kernel)) ggX7_pour_X6_carry
set_option maxRecDepth 20000 in
theorem ggX7_pour_X7_agree : GoodIn wsX7_pour wsX7_agree := goodIn_r _ [42, 29, 43, 44, 45, 46, 47, 48, 49, 50] (by decide +kernel) (by decide +kernel)
set_option maxRecDepth 20000 in
theorem gX7_pour_X7_agree : GoodIn wsX7_pour (wsV RX7 84 RX7 yX7_agree wsX7_agree) := goodIn_app (goodIn_of _ (by decide +kernel)) ggX7_pour_X7_agree
theorem dX7_pour_0 : decode cX7_pour 0 = .ok (.aload_n 0, 1) := by decide +kernel
theorem dX7_pour_1 : decode cX7_pour 1 = .ok (.iload_n 1, 1) := by decide +kernel
theorem dX7_pour_2 : decode cX7_pour 2 = .ok (.iload_n 2, 1) := by decide +kernel
theorem dX7_pour_3 : decode cX7_pour 3 = .ok (.iload_n 3, 1) := by decide +kernel
theorem dX7_pour_4 : decode cX7_pour 4 = .ok (.iload 4, 2) := by decide +kernel
theorem dX7_pour_6 : decode cX7_pour 6 = .ok (.iload 5, 2) := by decide +kernel
theorem dX7_pour_8 : decode cX7_pour 8 = .ok (.invokevirtual 104, 3) := by decide +kernel
theorem dX7_pour_11 : decode cX7_pour 11 = .ok (.istore 6, 2) := by decide +kernel
theorem dX7_pour_13 : decode cX7_pour 13 = .ok (.iload 6, 2) := by decide +kernel
theorem dX7_pour_15 : decode cX7_pour 15 = .ok (.ifCond .eq 10, 3) := by decide +kernel
theorem dX7_pour_18 : decode cX7_pour 18 = .ok (.aload_n 0, 1) := by decide +kernel
theorem dX7_pour_19 : decode cX7_pour 19 = .ok (.iload 6, 2) := by decide +kernel
theorem dX7_pour_21 : decode cX7_pour 21 = .ok (.invokevirtual 77, 3) := by decide +kernel
theorem dX7_pour_24 : decode cX7_pour 24 = .ok (.ireturn, 1) := by decide +kernel
theorem dX7_pour_25 : decode cX7_pour 25 = .ok (.aload_n 0, 1) := by decide +kernel
theorem dX7_pour_26 : decode cX7_pour 26 = .ok (.getfield 10, 3) := by decide +kernel
theorem dX7_pour_29 : decode cX7_pour 29 = .ok (.iload_n 1, 1) := by decide +kernel
theorem dX7_pour_30 : decode cX7_pour 30 = .ok (.iload_n 2, 1) := by decide +kernel
theorem dX7_pour_31 : decode cX7_pour 31 = .ok (.iload_n 3, 1) := by decide +kernel
theorem dX7_pour_32 : decode cX7_pour 32 = .ok (.iload 4, 2) := by decide +kernel
theorem dX7_pour_34 : decode cX7_pour 34 = .ok (.iload 5, 2) := by decide +kernel
theorem dX7_pour_36 : decode cX7_pour 36 = .ok (.invokevirtual 108, 3) := by decide +kernel
theorem dX7_pour_39 : decode cX7_pour 39 = .ok (.aload_n 0, 1) := by decide +kernel
theorem dX7_pour_40 : decode cX7_pour 40 = .ok (.invokevirtual 84, 3) := by decide +kernel
theorem dX7_pour_43 : decode cX7_pour 43 = .ok (.ireturn, 1) := by decide +kernel
set_option maxRecDepth 20000 in
theorem ggX7_eye_X7_lack : GoodIn wsX7_eye wsX7_lack := goodIn_r _ [6, 7, 18, 19, 20, 21, 22, 23, 24, 25] (by decide +kernel) (by decide +kernel)
set_option maxRecDepth 20000 in
theorem gX7_eye_X7_lack : GoodIn wsX7_eye (wsV RX7 96 RX7 yX7_lack wsX7_lack) := goodIn_app (goodIn_of _ (by decide +kernel)) ggX7_eye_X7_lack
set_option maxRecDepth 20000 in
theorem ggX7_eye_X5_addEye : GoodIn wsX7_eye wsX5_addEye := goodIn_r _ [12, 13, 26, 27, 28, 29, 30] (by decide +kernel) (by decide +kernel)
set_option maxRecDepth 20000 in
theorem gX7_eye_X5_addEye : GoodIn wsX7_eye (wsV RX7 115 RX5 yX5_addEye wsX5_addEye) := goodIn_app (goodIn_of _ (by decide +kernel)) ggX7_eye_X5_addEye
set_option maxRecDepth 20000 in
theorem ggX7_eye_X7_answer : GoodIn wsX7_eye wsX7_answer := goodIn_r _ [17, 7, 18, 19, 20, 21, 22, 23, 24, 25] (by decide +kernel) (by decide +kernel)
set_option maxRecDepth 20000 in
theorem gX7_eye_X7_answer : GoodIn wsX7_eye (wsV RX7 119 RX7 yX7_answer wsX7_answer) := goodIn_app (goodIn_of _ (by decide +kernel)) ggX7_eye_X7_answer
theorem dX7_eye_0 : decode cX7_eye 0 = .ok (.aload_n 0, 1) := by decide +kernel
theorem dX7_eye_1 : decode cX7_eye 1 = .ok (.getfield 19, 3) := by decide +kernel
theorem dX7_eye_4 : decode cX7_eye 4 = .ok (.getfield 112, 3) := by decide +kernel
theorem dX7_eye_7 : decode cX7_eye 7 = .ok (.bipush 8, 2) := by decide +kernel
theorem dX7_eye_9 : decode cX7_eye 9 = .ok (.if_icmp .lt 9, 3) := by decide +kernel
theorem dX7_eye_12 : decode cX7_eye 12 = .ok (.aload_n 0, 1) := by decide +kernel
theorem dX7_eye_13 : decode cX7_eye 13 = .ok (.iconst 4, 1) := by decide +kernel
theorem dX7_eye_14 : decode cX7_eye 14 = .ok (.invokevirtual 96, 3) := by decide +kernel
theorem dX7_eye_17 : decode cX7_eye 17 = .ok (.ireturn, 1) := by decide +kernel
theorem dX7_eye_18 : decode cX7_eye 18 = .ok (.aload_n 0, 1) := by decide +kernel
theorem dX7_eye_19 : decode cX7_eye 19 = .ok (.aload_n 0, 1) := by decide +kernel
theorem dX7_eye_20 : decode cX7_eye 20 = .ok (.getfield 19, 3) := by decide +kernel
theorem dX7_eye_23 : decode cX7_eye 23 = .ok (.invokevirtual 115, 3) := by decide +kernel
theorem dX7_eye_26 : decode cX7_eye 26 = .ok (.invokevirtual 119, 3) := by decide +kernel
theorem dX7_eye_29 : decode cX7_eye 29 = .ok (.ireturn, 1) := by decide +kernel
set_option maxRecDepth 20000 in
theorem ggX7_tell_X7_isEye : GoodIn wsX7_tell wsX7_isEye := goodIn_r _ [6, 1, 54, 55, 56, 57, 58, 59, 60, 61, 62, 63, 64, 65, 66] (by decide +kernel) (by decide +kernel)
set_option maxRecDepth 20000 in
theorem gX7_tell_X7_isEye : GoodIn wsX7_tell (wsV RX7 122 RX7 yX7_isEye wsX7_isEye) := goodIn_app (goodIn_of _ (by decide +kernel)) ggX7_tell_X7_isEye
set_option maxRecDepth 20000 in
theorem ggX7_tell_X7_isDay : GoodIn wsX7_tell wsX7_isDay := goodIn_r _ [9, 10, 11, 5, 12] (by decide +kernel) (by decide +kernel)
set_option maxRecDepth 20000 in
theorem gX7_tell_X7_isDay : GoodIn wsX7_tell (va_wsS RX7 125 yX7_isDay wsX7_isDay) := goodIn_app (goodIn_of _ (by decide +kernel)) ggX7_tell_X7_isDay
set_option maxRecDepth 20000 in
theorem ggX7_tell_X5_canBeTold : GoodIn wsX7_tell wsX5_canBeTold := goodIn_r _ [16, 11, 5, 12] (by decide +kernel) (by decide +kernel)
set_option maxRecDepth 20000 in
theorem gX7_tell_X5_canBeTold : GoodIn wsX7_tell (va_wsS RX7 128 yX5_canBeTold wsX5_canBeTold) := goodIn_app (goodIn_of _ (by decide +kernel)) ggX7_tell_X5_canBeTold
set_option maxRecDepth 20000 in
theorem ggX7_tell_X7_refuse : GoodIn wsX7_tell wsX7_refuse := goodIn_r _ [20, 21, 54, 55, 56, 57, 58, 59, 60, 61] (by decide +kernel) (by decide +kernel)
set_option maxRecDepth 20000 in
theorem gX7_tell_X7_refuse : GoodIn wsX7_tell (wsV RX7 77 RX7 yX7_refuse wsX7_refuse) := goodIn_app (goodIn_of _ (by decide +kernel)) ggX7_tell_X7_refuse
set_option maxRecDepth 20000 in
theorem ggX7_tell_X5_put : GoodIn wsX7_tell wsX5_put := goodIn_r _ [25, 26, 27, 28, 29, 15, 30, 31, 32, 33, 34, 35, 36, 37, 38, 39, 40, 41, 42, 43, 44, 45, 46, 47, 48, 49, 62, 63, 64, 65, 66] (by decide +kernel) (by decide +kernel)
set_option maxRecDepth 20000 in
theorem gX7_tell_X5_put : GoodIn wsX7_tell (wsV RX7 131 RX5 yX5_put wsX5_put) := goodIn_app (goodIn_of _ (by decide +kernel)) ggX7_tell_X5_put
set_option maxRecDepth 20000 in
theorem ggX7_tell_X7_agree : GoodIn wsX7_tell wsX7_agree := goodIn_r _ [53, 21, 54, 55, 56, 57, 58, 59, 60, 61] (by decide +kernel) (by decide +kernel)
set_option maxRecDepth 20000 in
theorem gX7_tell_X7_agree : GoodIn wsX7_tell (wsV RX7 84 RX7 yX7_agree wsX7_agree) := goodIn_app (goodIn_of _ (by decide +kernel)) ggX7_tell_X7_agree
theorem dX7_tell_0 : decode cX7_tell 0 = .ok (.aload_n 0, 1) := by decide +kernel
theorem dX7_tell_1 : decode cX7_tell 1 = .ok (.iload_n 1, 1) := by decide +kernel
theorem dX7_tell_2 : decode cX7_tell 2 = .ok (.invokevirtual 122, 3) := by decide +kernel
theorem dX7_tell_5 : decode cX7_tell 5 = .ok (.ifCond .eq 19, 3) := by decide +kernel
theorem dX7_tell_8 : decode cX7_tell 8 = .ok (.iload_n 2, 1) := by decide +kernel
theorem dX7_tell_9 : decode cX7_tell 9 = .ok (.invokestatic 125, 3) := by decide +kernel
theorem dX7_tell_12 : decode cX7_tell 12 = .ok (.ifCond .eq 12, 3) := by decide +kernel
theorem dX7_tell_15 : decode cX7_tell 15 = .ok (.iload_n 3, 1) := by decide +kernel
theorem dX7_tell_16 : decode cX7_tell 16 = .ok (.iload 4, 2) := by decide +kernel
theorem dX7_tell_18 : decode cX7_tell 18 = .ok (.invokestatic 128, 3) := by decide +kernel
theorem dX7_tell_21 : decode cX7_tell 21 = .ok (.ifCond .ne 9, 3) := by decide +kernel
theorem dX7_tell_24 : decode cX7_tell 24 = .ok (.aload_n 0, 1) := by decide +kernel
theorem dX7_tell_25 : decode cX7_tell 25 = .ok (.iconst 1, 1) := by decide +kernel
theorem dX7_tell_26 : decode cX7_tell 26 = .ok (.invokevirtual 77, 3) := by decide +kernel
theorem dX7_tell_29 : decode cX7_tell 29 = .ok (.ireturn, 1) := by decide +kernel
theorem dX7_tell_30 : decode cX7_tell 30 = .ok (.aload_n 0, 1) := by decide +kernel
theorem dX7_tell_31 : decode cX7_tell 31 = .ok (.getfield 19, 3) := by decide +kernel
theorem dX7_tell_34 : decode cX7_tell 34 = .ok (.iload_n 1, 1) := by decide +kernel
theorem dX7_tell_35 : decode cX7_tell 35 = .ok (.iload_n 2, 1) := by decide +kernel
theorem dX7_tell_36 : decode cX7_tell 36 = .ok (.sipush 1000, 3) := by decide +kernel
theorem dX7_tell_39 : decode cX7_tell 39 = .ok (.iload_n 3, 1) := by decide +kernel
theorem dX7_tell_40 : decode cX7_tell 40 = .ok (.imul, 1) := by decide +kernel
theorem dX7_tell_41 : decode cX7_tell 41 = .ok (.iload 4, 2) := by decide +kernel
theorem dX7_tell_43 : decode cX7_tell 43 = .ok (.iadd, 1) := by decide +kernel
theorem dX7_tell_44 : decode cX7_tell 44 = .ok (.invokevirtual 131, 3) := by decide +kernel
theorem dX7_tell_47 : decode cX7_tell 47 = .ok (.aload_n 0, 1) := by decide +kernel
theorem dX7_tell_48 : decode cX7_tell 48 = .ok (.invokevirtual 84, 3) := by decide +kernel
theorem dX7_tell_51 : decode cX7_tell 51 = .ok (.ireturn, 1) := by decide +kernel
set_option maxRecDepth 20000 in
theorem ggX7_unsay_X7_isEye : GoodIn wsX7_unsay wsX7_isEye := goodIn_r _ [6, 1, 52, 53, 54, 55, 56, 57, 58, 59, 60, 61, 62, 63, 64] (by decide +kernel) (by decide +kernel)
set_option maxRecDepth 20000 in
theorem gX7_unsay_X7_isEye : GoodIn wsX7_unsay (wsV RX7 122 RX7 yX7_isEye wsX7_isEye) := goodIn_app (goodIn_of _ (by decide +kernel)) ggX7_unsay_X7_isEye
set_option maxRecDepth 20000 in
theorem ggX7_unsay_X7_isDay : GoodIn wsX7_unsay wsX7_isDay := goodIn_r _ [9, 10, 11, 5, 12] (by decide +kernel) (by decide +kernel)
set_option maxRecDepth 20000 in
theorem gX7_unsay_X7_isDay : GoodIn wsX7_unsay (va_wsS RX7 125 yX7_isDay wsX7_isDay) := goodIn_app (goodIn_of _ (by decide +kernel)) ggX7_unsay_X7_isDay
set_option maxRecDepth 20000 in
theorem ggX7_unsay_X7_refuse : GoodIn wsX7_unsay wsX7_refuse := goodIn_r _ [16, 17, 52, 53, 54, 55, 56, 57, 58, 59] (by decide +kernel) (by decide +kernel)
set_option maxRecDepth 20000 in
theorem gX7_unsay_X7_refuse : GoodIn wsX7_unsay (wsV RX7 77 RX7 yX7_refuse wsX7_refuse) := goodIn_app (goodIn_of _ (by decide +kernel)) ggX7_unsay_X7_refuse
set_option maxRecDepth 20000 in
theorem ggX7_unsay_X5_has : GoodIn wsX7_unsay wsX5_has := goodIn_r _ [22, 23, 60, 61, 62, 63, 64] (by decide +kernel) (by decide +kernel)
set_option maxRecDepth 20000 in
theorem gX7_unsay_X5_has : GoodIn wsX7_unsay (wsV RX7 133 RX5 yX5_has wsX5_has) := goodIn_app (goodIn_of _ (by decide +kernel)) ggX7_unsay_X5_has
set_option maxRecDepth 20000 in
theorem ggX7_unsay_X5_put : GoodIn wsX7_unsay wsX5_put := goodIn_r _ [27, 23, 28, 29, 30, 21, 31, 32, 33, 34, 35, 19, 20, 22, 36, 37, 38, 39, 40, 41, 42, 43, 44, 45, 46, 47, 60, 61, 62, 63, 64] (by decide +kernel) (by decide +kernel)
set_option maxRecDepth 20000 in
theorem gX7_unsay_X5_put : GoodIn wsX7_unsay (wsV RX7 131 RX5 yX5_put wsX5_put) := goodIn_app (goodIn_of _ (by decide +kernel)) ggX7_unsay_X5_put
set_option maxRecDepth 20000 in
theorem ggX7_unsay_X7_agree : GoodIn wsX7_unsay wsX7_agree := goodIn_r _ [51, 17, 52, 53, 54, 55, 56, 57, 58, 59] (by decide +kernel) (by decide +kernel)
set_option maxRecDepth 20000 in
theorem gX7_unsay_X7_agree : GoodIn wsX7_unsay (wsV RX7 84 RX7 yX7_agree wsX7_agree) := goodIn_app (goodIn_of _ (by decide +kernel)) ggX7_unsay_X7_agree
theorem dX7_unsay_0 : decode cX7_unsay 0 = .ok (.aload_n 0, 1) := by decide +kernel
theorem dX7_unsay_1 : decode cX7_unsay 1 = .ok (.iload_n 1, 1) := by decide +kernel
theorem dX7_unsay_2 : decode cX7_unsay 2 = .ok (.invokevirtual 122, 3) := by decide +kernel
theorem dX7_unsay_5 : decode cX7_unsay 5 = .ok (.ifCond .eq 10, 3) := by decide +kernel
theorem dX7_unsay_8 : decode cX7_unsay 8 = .ok (.iload_n 2, 1) := by decide +kernel
theorem dX7_unsay_9 : decode cX7_unsay 9 = .ok (.invokestatic 125, 3) := by decide +kernel
theorem dX7_unsay_12 : decode cX7_unsay 12 = .ok (.ifCond .ne 9, 3) := by decide +kernel
theorem dX7_unsay_15 : decode cX7_unsay 15 = .ok (.aload_n 0, 1) := by decide +kernel
theorem dX7_unsay_16 : decode cX7_unsay 16 = .ok (.iconst 1, 1) := by decide +kernel
theorem dX7_unsay_17 : decode cX7_unsay 17 = .ok (.invokevirtual 77, 3) := by decide +kernel
theorem dX7_unsay_20 : decode cX7_unsay 20 = .ok (.ireturn, 1) := by decide +kernel
theorem dX7_unsay_21 : decode cX7_unsay 21 = .ok (.aload_n 0, 1) := by decide +kernel
theorem dX7_unsay_22 : decode cX7_unsay 22 = .ok (.getfield 19, 3) := by decide +kernel
theorem dX7_unsay_25 : decode cX7_unsay 25 = .ok (.iload_n 1, 1) := by decide +kernel
theorem dX7_unsay_26 : decode cX7_unsay 26 = .ok (.iload_n 2, 1) := by decide +kernel
theorem dX7_unsay_27 : decode cX7_unsay 27 = .ok (.invokevirtual 133, 3) := by decide +kernel
theorem dX7_unsay_30 : decode cX7_unsay 30 = .ok (.ifCond .ne 9, 3) := by decide +kernel
theorem dX7_unsay_33 : decode cX7_unsay 33 = .ok (.aload_n 0, 1) := by decide +kernel
theorem dX7_unsay_34 : decode cX7_unsay 34 = .ok (.iconst 5, 1) := by decide +kernel
theorem dX7_unsay_35 : decode cX7_unsay 35 = .ok (.invokevirtual 77, 3) := by decide +kernel
theorem dX7_unsay_38 : decode cX7_unsay 38 = .ok (.ireturn, 1) := by decide +kernel
theorem dX7_unsay_39 : decode cX7_unsay 39 = .ok (.aload_n 0, 1) := by decide +kernel
theorem dX7_unsay_40 : decode cX7_unsay 40 = .ok (.getfield 19, 3) := by decide +kernel
theorem dX7_unsay_43 : decode cX7_unsay 43 = .ok (.iload_n 1, 1) := by decide +kernel
theorem dX7_unsay_44 : decode cX7_unsay 44 = .ok (.iload_n 2, 1) := by decide +kernel
theorem dX7_unsay_45 : decode cX7_unsay 45 = .ok (.iconst (-1), 1) := by decide +kernel
theorem dX7_unsay_46 : decode cX7_unsay 46 = .ok (.invokevirtual 131, 3) := by decide +kernel
theorem dX7_unsay_49 : decode cX7_unsay 49 = .ok (.aload_n 0, 1) := by decide +kernel
theorem dX7_unsay_50 : decode cX7_unsay 50 = .ok (.invokevirtual 84, 3) := by decide +kernel
theorem dX7_unsay_53 : decode cX7_unsay 53 = .ok (.ireturn, 1) := by decide +kernel
set_option maxRecDepth 20000 in
theorem ggX7_book_X7_whyNoBook : GoodIn wsX7_book wsX7_whyNoBook := goodIn_r _ [7, 2, 8, 9, 10, 6, 11, 1, 12, 13, 14, 15, 16, 17, 18, 19, 20, 21, 22, 23, 24, 25, 26, 27, 28, 29, 30, 31, 32, 33, 34, 35, 36, 37, 38, 39, 40, 41, 42, 80, 81, 82, 83, 84, 85, 86, 87, 88, 89, 90, 91, 92, 93, 94, 95] (by decide +kernel) (by decide +kernel)
set_option maxRecDepth 20000 in
theorem gX7_book_X7_whyNoBook : GoodIn wsX7_book (wsV RX7 136 RX7 yX7_whyNoBook wsX7_whyNoBook) := goodIn_app (goodIn_of _ (by decide +kernel)) ggX7_book_X7_whyNoBook
set_option maxRecDepth 20000 in
theorem ggX7_book_X7_refuse : GoodIn wsX7_book wsX7_refuse := goodIn_r _ [46, 47, 80, 81, 82, 83, 84, 85, 86, 87] (by decide +kernel) (by decide +kernel)
set_option maxRecDepth 20000 in
theorem gX7_book_X7_refuse : GoodIn wsX7_book (wsV RX7 77 RX7 yX7_refuse wsX7_refuse) := goodIn_app (goodIn_of _ (by decide +kernel)) ggX7_book_X7_refuse
set_option maxRecDepth 20000 in
theorem ggX7_book_X6_numberAt : GoodIn wsX7_book wsX6_numberAt := goodIn_r _ [32, 33, 93, 94, 95] (by decide +kernel) (by decide +kernel)
set_option maxRecDepth 20000 in
theorem gX7_book_X6_numberAt : GoodIn wsX7_book (wsV RX7 100 RX6 yX6_numberAt wsX6_numberAt) := goodIn_app (goodIn_of _ (by decide +kernel)) ggX7_book_X6_numberAt
set_option maxRecDepth 20000 in
theorem ggX7_book_X5_put : GoodIn wsX7_book wsX5_put := goodIn_r _ [51, 52, 53, 54, 55, 36, 56, 57, 58, 59, 60, 61, 62, 63, 64, 65, 66, 67, 68, 69, 70, 71, 72, 73, 74, 75, 88, 89, 90, 91, 92] (by decide +kernel) (by decide +kernel)
set_option maxRecDepth 20000 in
theorem gX7_book_X5_put : GoodIn wsX7_book (wsV RX7 131 RX5 yX5_put wsX5_put) := goodIn_app (goodIn_of _ (by decide +kernel)) ggX7_book_X5_put
set_option maxRecDepth 20000 in
theorem ggX7_book_X7_agree : GoodIn wsX7_book wsX7_agree := goodIn_r _ [79, 47, 80, 81, 82, 83, 84, 85, 86, 87] (by decide +kernel) (by decide +kernel)
