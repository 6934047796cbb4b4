theorem dX6_init_0 : decode cX6_init 0 = .ok (.aload_n 0, 1) := by decide +kernel
theorem dX6_init_1 : decode cX6_init 1 = .ok (.invokespecial 1, 3) := by decide +kernel
theorem dX6_init_4 : decode cX6_init 4 = .ok (.aload_n 0, 1) := by decide +kernel
theorem dX6_init_5 : decode cX6_init 5 = .ok (.bipush 6, 2) := by decide +kernel
theorem dX6_init_7 : decode cX6_init 7 = .ok (.newarray .int, 2) := by decide +kernel
theorem dX6_init_9 : decode cX6_init 9 = .ok (.putfield 9, 3) := by decide +kernel
theorem dX6_init_12 : decode cX6_init 12 = .ok (.aload_n 0, 1) := by decide +kernel
theorem dX6_init_13 : decode cX6_init 13 = .ok (.bipush 6, 2) := by decide +kernel
theorem dX6_init_15 : decode cX6_init 15 = .ok (.newarray .int, 2) := by decide +kernel
theorem dX6_init_17 : decode cX6_init 17 = .ok (.putfield 13, 3) := by decide +kernel
theorem dX6_init_20 : decode cX6_init 20 = .ok (.aload_n 0, 1) := by decide +kernel
theorem dX6_init_21 : decode cX6_init 21 = .ok (.bipush 72, 2) := by decide +kernel
theorem dX6_init_23 : decode cX6_init 23 = .ok (.newarray .int, 2) := by decide +kernel
theorem dX6_init_25 : decode cX6_init 25 = .ok (.putfield 16, 3) := by decide +kernel
theorem dX6_init_28 : decode cX6_init 28 = .ok (.aload_n 0, 1) := by decide +kernel
theorem dX6_init_29 : decode cX6_init 29 = .ok (.bipush 72, 2) := by decide +kernel
theorem dX6_init_31 : decode cX6_init 31 = .ok (.newarray .int, 2) := by decide +kernel
theorem dX6_init_33 : decode cX6_init 33 = .ok (.putfield 19, 3) := by decide +kernel
theorem dX6_init_36 : decode cX6_init 36 = .ok (.aload_n 0, 1) := by decide +kernel
theorem dX6_init_37 : decode cX6_init 37 = .ok (.sipush 400, 3) := by decide +kernel
theorem dX6_init_40 : decode cX6_init 40 = .ok (.newarray .boolean, 2) := by decide +kernel
theorem dX6_init_42 : decode cX6_init 42 = .ok (.putfield 22, 3) := by decide +kernel
theorem dX6_init_45 : decode cX6_init 45 = .ok (.aload_n 0, 1) := by decide +kernel
theorem dX6_init_46 : decode cX6_init 46 = .ok (.sipush 400, 3) := by decide +kernel
theorem dX6_init_49 : decode cX6_init 49 = .ok (.newarray .int, 2) := by decide +kernel
theorem dX6_init_51 : decode cX6_init 51 = .ok (.putfield 26, 3) := by decide +kernel
theorem dX6_init_54 : decode cX6_init 54 = .ok (.aload_n 0, 1) := by decide +kernel
theorem dX6_init_55 : decode cX6_init 55 = .ok (.sipush 400, 3) := by decide +kernel
theorem dX6_init_58 : decode cX6_init 58 = .ok (.newarray .boolean, 2) := by decide +kernel
theorem dX6_init_60 : decode cX6_init 60 = .ok (.putfield 29, 3) := by decide +kernel
theorem dX6_init_63 : decode cX6_init 63 = .ok (.aload_n 0, 1) := by decide +kernel
theorem dX6_init_64 : decode cX6_init 64 = .ok (.sipush 400, 3) := by decide +kernel
theorem dX6_init_67 : decode cX6_init 67 = .ok (.newarray .int, 2) := by decide +kernel
theorem dX6_init_69 : decode cX6_init 69 = .ok (.putfield 32, 3) := by decide +kernel
theorem dX6_init_72 : decode cX6_init 72 = .ok (.aload_n 0, 1) := by decide +kernel
theorem dX6_init_73 : decode cX6_init 73 = .ok (.sipush 400, 3) := by decide +kernel
theorem dX6_init_76 : decode cX6_init 76 = .ok (.newarray .boolean, 2) := by decide +kernel
theorem dX6_init_78 : decode cX6_init 78 = .ok (.putfield 35, 3) := by decide +kernel
theorem dX6_init_81 : decode cX6_init 81 = .ok (.aload_n 0, 1) := by decide +kernel
theorem dX6_init_82 : decode cX6_init 82 = .ok (.bipush 60, 2) := by decide +kernel
theorem dX6_init_84 : decode cX6_init 84 = .ok (.putfield 38, 3) := by decide +kernel
theorem dX6_init_87 : decode cX6_init 87 = .ok (.aload_n 0, 1) := by decide +kernel
theorem dX6_init_88 : decode cX6_init 88 = .ok (.iconst 5, 1) := by decide +kernel
theorem dX6_init_89 : decode cX6_init 89 = .ok (.putfield 42, 3) := by decide +kernel
theorem dX6_init_92 : decode cX6_init 92 = .ok (.aload_n 0, 1) := by decide +kernel
theorem dX6_init_93 : decode cX6_init 93 = .ok (.bipush 120, 2) := by decide +kernel
theorem dX6_init_95 : decode cX6_init 95 = .ok (.newarray .int, 2) := by decide +kernel
theorem dX6_init_97 : decode cX6_init 97 = .ok (.putfield 45, 3) := by decide +kernel
theorem dX6_init_100 : decode cX6_init 100 = .ok (.aload_n 0, 1) := by decide +kernel
theorem dX6_init_101 : decode cX6_init 101 = .ok (.sipush 400, 3) := by decide +kernel
theorem dX6_init_104 : decode cX6_init 104 = .ok (.newarray .int, 2) := by decide +kernel
theorem dX6_init_106 : decode cX6_init 106 = .ok (.putfield 48, 3) := by decide +kernel
theorem dX6_init_109 : decode cX6_init 109 = .ok (.aload_n 0, 1) := by decide +kernel
theorem dX6_init_110 : decode cX6_init 110 = .ok (.sipush 400, 3) := by decide +kernel
theorem dX6_init_113 : decode cX6_init 113 = .ok (.newarray .long, 2) := by decide +kernel
theorem dX6_init_115 : decode cX6_init 115 = .ok (.putfield 51, 3) := by decide +kernel
theorem dX6_init_118 : decode cX6_init 118 = .ok (.return_, 1) := by decide +kernel
theorem dX6_thrown_0 : decode cX6_thrown 0 = .ok (.aload_n 0, 1) := by decide +kernel
theorem dX6_thrown_1 : decode cX6_thrown 1 = .ok (.getfield 55, 3) := by decide +kernel
theorem dX6_thrown_4 : decode cX6_thrown 4 = .ok (.ireturn, 1) := by decide +kernel
theorem dX6_fail_0 : decode cX6_fail 0 = .ok (.aload_n 0, 1) := by decide +kernel
theorem dX6_fail_1 : decode cX6_fail 1 = .ok (.iload_n 1, 1) := by decide +kernel
theorem dX6_fail_2 : decode cX6_fail 2 = .ok (.putfield 55, 3) := by decide +kernel
theorem dX6_fail_5 : decode cX6_fail 5 = .ok (.iconst 0, 1) := by decide +kernel
theorem dX6_fail_6 : decode cX6_fail 6 = .ok (.ireturn, 1) := by decide +kernel
theorem dX6_isIn_0 : decode cX6_isIn 0 = .ok (.lload_n 0, 1) := by decide +kernel
theorem dX6_isIn_1 : decode cX6_isIn 1 = .ok (.lload_n 2, 1) := by decide +kernel
theorem dX6_isIn_2 : decode cX6_isIn 2 = .ok (.lcmp, 1) := by decide +kernel
theorem dX6_isIn_3 : decode cX6_isIn 3 = .ok (.ifCond .lt 14, 3) := by decide +kernel
theorem dX6_isIn_6 : decode cX6_isIn 6 = .ok (.lload_n 0, 1) := by decide +kernel
theorem dX6_isIn_7 : decode cX6_isIn 7 = .ok (.lload 4, 2) := by decide +kernel
theorem dX6_isIn_9 : decode cX6_isIn 9 = .ok (.lcmp, 1) := by decide +kernel
theorem dX6_isIn_10 : decode cX6_isIn 10 = .ok (.ifCond .gt 7, 3) := by decide +kernel
theorem dX6_isIn_13 : decode cX6_isIn 13 = .ok (.iconst 1, 1) := by decide +kernel
theorem dX6_isIn_14 : decode cX6_isIn 14 = .ok (.goto 4, 3) := by decide +kernel
theorem dX6_isIn_17 : decode cX6_isIn 17 = .ok (.iconst 0, 1) := by decide +kernel
theorem dX6_isIn_18 : decode cX6_isIn 18 = .ok (.ireturn, 1) := by decide +kernel
set_option maxRecDepth 20000 in
theorem ggX6_isDay_X6_isIn : GoodIn wsX6_isDay wsX6_isIn := goodIn_r _ [5] (by decide +kernel) (by decide +kernel)
set_option maxRecDepth 20000 in
theorem gX6_isDay_X6_isIn : GoodIn wsX6_isDay (va_wsS RX6 60 yX6_isIn wsX6_isIn) := goodIn_app (goodIn_of _ (by decide +kernel)) ggX6_isDay_X6_isIn
theorem dX6_isDay_0 : decode cX6_isDay 0 = .ok (.iload_n 0, 1) := by decide +kernel
theorem dX6_isDay_1 : decode cX6_isDay 1 = .ok (.i2l, 1) := by decide +kernel
theorem dX6_isDay_2 : decode cX6_isDay 2 = .ok (.lconst 0, 1) := by decide +kernel
theorem dX6_isDay_3 : decode cX6_isDay 3 = .ok (.ldc2_w 58, 3) := by decide +kernel
theorem dX6_isDay_6 : decode cX6_isDay 6 = .ok (.invokestatic 60, 3) := by decide +kernel
theorem dX6_isDay_9 : decode cX6_isDay 9 = .ok (.ireturn, 1) := by decide +kernel
set_option maxRecDepth 20000 in
theorem ggX6_isCurve_X6_isIn : GoodIn wsX6_isCurve wsX6_isIn := goodIn_r _ [5] (by decide +kernel) (by decide +kernel)
set_option maxRecDepth 20000 in
theorem gX6_isCurve_X6_isIn : GoodIn wsX6_isCurve (va_wsS RX6 60 yX6_isIn wsX6_isIn) := goodIn_app (goodIn_of _ (by decide +kernel)) ggX6_isCurve_X6_isIn
theorem dX6_isCurve_0 : decode cX6_isCurve 0 = .ok (.iload_n 1, 1) := by decide +kernel
theorem dX6_isCurve_1 : decode cX6_isCurve 1 = .ok (.i2l, 1) := by decide +kernel
theorem dX6_isCurve_2 : decode cX6_isCurve 2 = .ok (.lconst 0, 1) := by decide +kernel
theorem dX6_isCurve_3 : decode cX6_isCurve 3 = .ok (.aload_n 0, 1) := by decide +kernel
theorem dX6_isCurve_4 : decode cX6_isCurve 4 = .ok (.getfield 64, 3) := by decide +kernel
theorem dX6_isCurve_7 : decode cX6_isCurve 7 = .ok (.iconst 1, 1) := by decide +kernel
theorem dX6_isCurve_8 : decode cX6_isCurve 8 = .ok (.isub, 1) := by decide +kernel
theorem dX6_isCurve_9 : decode cX6_isCurve 9 = .ok (.i2l, 1) := by decide +kernel
theorem dX6_isCurve_10 : decode cX6_isCurve 10 = .ok (.invokestatic 60, 3) := by decide +kernel
theorem dX6_isCurve_13 : decode cX6_isCurve 13 = .ok (.ireturn, 1) := by decide +kernel
set_option maxRecDepth 20000 in
theorem ggX6_areDays_X6_isDay : GoodIn wsX6_areDays wsX6_isDay := goodIn_r _ [5, 6, 7, 8, 4, 9] (by decide +kernel) (by decide +kernel)
set_option maxRecDepth 20000 in
theorem gX6_areDays_X6_isDay : GoodIn wsX6_areDays (va_wsS RX6 67 yX6_isDay wsX6_isDay) := goodIn_app (goodIn_of _ (by decide +kernel)) ggX6_areDays_X6_isDay
set_option maxRecDepth 20000 in
theorem ggX6_areDays_X6_isIn : GoodIn wsX6_areDays wsX6_isIn := goodIn_r _ [9] (by decide +kernel) (by decide +kernel)
set_option maxRecDepth 20000 in
theorem gX6_areDays_X6_isIn : GoodIn wsX6_areDays (va_wsS RX6 60 yX6_isIn wsX6_isIn) := goodIn_app (goodIn_of _ (by decide +kernel)) ggX6_areDays_X6_isIn
theorem dX6_areDays_0 : decode cX6_areDays 0 = .ok (.iload_n 0, 1) := by decide +kernel
theorem dX6_areDays_1 : decode cX6_areDays 1 = .ok (.invokestatic 67, 3) := by decide +kernel
theorem dX6_areDays_4 : decode cX6_areDays 4 = .ok (.ifCond .eq 28, 3) := by decide +kernel
theorem dX6_areDays_7 : decode cX6_areDays 7 = .ok (.iload_n 1, 1) := by decide +kernel
theorem dX6_areDays_8 : decode cX6_areDays 8 = .ok (.i2l, 1) := by decide +kernel
theorem dX6_areDays_9 : decode cX6_areDays 9 = .ok (.lconst 1, 1) := by decide +kernel
theorem dX6_areDays_10 : decode cX6_areDays 10 = .ok (.ldc2_w 71, 3) := by decide +kernel
theorem dX6_areDays_13 : decode cX6_areDays 13 = .ok (.invokestatic 60, 3) := by decide +kernel
theorem dX6_areDays_16 : decode cX6_areDays 16 = .ok (.ifCond .eq 16, 3) := by decide +kernel
theorem dX6_areDays_19 : decode cX6_areDays 19 = .ok (.iload_n 0, 1) := by decide +kernel
theorem dX6_areDays_20 : decode cX6_areDays 20 = .ok (.iload_n 1, 1) := by decide +kernel
theorem dX6_areDays_21 : decode cX6_areDays 21 = .ok (.iadd, 1) := by decide +kernel
theorem dX6_areDays_22 : decode cX6_areDays 22 = .ok (.sipush 400, 3) := by decide +kernel
theorem dX6_areDays_25 : decode cX6_areDays 25 = .ok (.if_icmp .gt 7, 3) := by decide +kernel
theorem dX6_areDays_28 : decode cX6_areDays 28 = .ok (.iconst 1, 1) := by decide +kernel
theorem dX6_areDays_29 : decode cX6_areDays 29 = .ok (.goto 4, 3) := by decide +kernel
theorem dX6_areDays_32 : decode cX6_areDays 32 = .ok (.iconst 0, 1) := by decide +kernel
theorem dX6_areDays_33 : decode cX6_areDays 33 = .ok (.ireturn, 1) := by decide +kernel
set_option maxRecDepth 20000 in
theorem ggX6_addCurve_X6_isDay : GoodIn wsX6_addCurve wsX6_isDay := goodIn_r _ [9, 10, 11, 12, 8, 13] (by decide +kernel) (by decide +kernel)
set_option maxRecDepth 20000 in
theorem gX6_addCurve_X6_isDay : GoodIn wsX6_addCurve (va_wsS RX6 67 yX6_isDay wsX6_isDay) := goodIn_app (goodIn_of _ (by decide +kernel)) ggX6_addCurve_X6_isDay
set_option maxRecDepth 20000 in
theorem ggX6_addCurve_X6_fail : GoodIn wsX6_addCurve wsX6_fail := goodIn_r _ [17, 1, 18, 19, 20, 21, 22, 23, 24, 25, 26, 27, 28, 29, 30, 31, 32, 33, 34, 35, 36] (by decide +kernel) (by decide +kernel)
set_option maxRecDepth 20000 in
theorem gX6_addCurve_X6_fail : GoodIn wsX6_addCurve (wsV RX6 73 RX6 yX6_fail wsX6_fail) := goodIn_app (goodIn_of _ (by decide +kernel)) ggX6_addCurve_X6_fail
theorem dX6_addCurve_0 : decode cX6_addCurve 0 = .ok (.aload_n 0, 1) := by decide +kernel
theorem dX6_addCurve_1 : decode cX6_addCurve 1 = .ok (.iconst 0, 1) := by decide +kernel
theorem dX6_addCurve_2 : decode cX6_addCurve 2 = .ok (.putfield 55, 3) := by decide +kernel
theorem dX6_addCurve_5 : decode cX6_addCurve 5 = .ok (.iload_n 1, 1) := by decide +kernel
theorem dX6_addCurve_6 : decode cX6_addCurve 6 = .ok (.invokestatic 67, 3) := by decide +kernel
theorem dX6_addCurve_9 : decode cX6_addCurve 9 = .ok (.ifCond .ne 9, 3) := by decide +kernel
theorem dX6_addCurve_12 : decode cX6_addCurve 12 = .ok (.aload_n 0, 1) := by decide +kernel
theorem dX6_addCurve_13 : decode cX6_addCurve 13 = .ok (.iconst 1, 1) := by decide +kernel
theorem dX6_addCurve_14 : decode cX6_addCurve 14 = .ok (.invokevirtual 73, 3) := by decide +kernel
theorem dX6_addCurve_17 : decode cX6_addCurve 17 = .ok (.ireturn, 1) := by decide +kernel
theorem dX6_addCurve_18 : decode cX6_addCurve 18 = .ok (.aload_n 0, 1) := by decide +kernel
theorem dX6_addCurve_19 : decode cX6_addCurve 19 = .ok (.getfield 64, 3) := by decide +kernel
theorem dX6_addCurve_22 : decode cX6_addCurve 22 = .ok (.bipush 6, 2) := by decide +kernel
theorem dX6_addCurve_24 : decode cX6_addCurve 24 = .ok (.if_icmp .ne 7, 3) := by decide +kernel
theorem dX6_addCurve_27 : decode cX6_addCurve 27 = .ok (.iconst 1, 1) := by decide +kernel
theorem dX6_addCurve_28 : decode cX6_addCurve 28 = .ok (.goto 4, 3) := by decide +kernel
theorem dX6_addCurve_31 : decode cX6_addCurve 31 = .ok (.iconst 0, 1) := by decide +kernel
theorem dX6_addCurve_32 : decode cX6_addCurve 32 = .ok (.istore_n 2, 1) := by decide +kernel
theorem dX6_addCurve_33 : decode cX6_addCurve 33 = .ok (.iconst 0, 1) := by decide +kernel
theorem dX6_addCurve_34 : decode cX6_addCurve 34 = .ok (.istore_n 3, 1) := by decide +kernel
theorem dX6_addCurve_35 : decode cX6_addCurve 35 = .ok (.iload_n 3, 1) := by decide +kernel
theorem dX6_addCurve_36 : decode cX6_addCurve 36 = .ok (.aload_n 0, 1) := by decide +kernel
theorem dX6_addCurve_37 : decode cX6_addCurve 37 = .ok (.getfield 64, 3) := by decide +kernel
theorem dX6_addCurve_40 : decode cX6_addCurve 40 = .ok (.if_icmp .ge 29, 3) := by decide +kernel
theorem dX6_addCurve_43 : decode cX6_addCurve 43 = .ok (.iload_n 2, 1) := by decide +kernel
theorem dX6_addCurve_44 : decode cX6_addCurve 44 = .ok (.ifCond .ne 13, 3) := by decide +kernel
theorem dX6_addCurve_47 : decode cX6_addCurve 47 = .ok (.aload_n 0, 1) := by decide +kernel
theorem dX6_addCurve_48 : decode cX6_addCurve 48 = .ok (.getfield 9, 3) := by decide +kernel
theorem dX6_addCurve_51 : decode cX6_addCurve 51 = .ok (.iload_n 3, 1) := by decide +kernel
theorem dX6_addCurve_52 : decode cX6_addCurve 52 = .ok (.iaload, 1) := by decide +kernel
theorem dX6_addCurve_53 : decode cX6_addCurve 53 = .ok (.iload_n 1, 1) := by decide +kernel
theorem dX6_addCurve_54 : decode cX6_addCurve 54 = .ok (.if_icmp .ne 7, 3) := by decide +kernel
theorem dX6_addCurve_57 : decode cX6_addCurve 57 = .ok (.iconst 1, 1) := by decide +kernel
theorem dX6_addCurve_58 : decode cX6_addCurve 58 = .ok (.goto 4, 3) := by decide +kernel
theorem dX6_addCurve_61 : decode cX6_addCurve 61 = .ok (.iconst 0, 1) := by decide +kernel
theorem dX6_addCurve_62 : decode cX6_addCurve 62 = .ok (.istore_n 2, 1) := by decide +kernel
theorem dX6_addCurve_63 : decode cX6_addCurve 63 = .ok (.iinc 3 1, 3) := by decide +kernel
theorem dX6_addCurve_66 : decode cX6_addCurve 66 = .ok (.goto (-31), 3) := by decide +kernel
theorem dX6_addCurve_69 : decode cX6_addCurve 69 = .ok (.iload_n 2, 1) := by decide +kernel
theorem dX6_addCurve_70 : decode cX6_addCurve 70 = .ok (.ifCond .eq 9, 3) := by decide +kernel
theorem dX6_addCurve_73 : decode cX6_addCurve 73 = .ok (.aload_n 0, 1) := by decide +kernel
theorem dX6_addCurve_74 : decode cX6_addCurve 74 = .ok (.iconst 2, 1) := by decide +kernel
theorem dX6_addCurve_75 : decode cX6_addCurve 75 = .ok (.invokevirtual 73, 3) := by decide +kernel
theorem dX6_addCurve_78 : decode cX6_addCurve 78 = .ok (.ireturn, 1) := by decide +kernel
theorem dX6_addCurve_79 : decode cX6_addCurve 79 = .ok (.aload_n 0, 1) := by decide +kernel
theorem dX6_addCurve_80 : decode cX6_addCurve 80 = .ok (.getfield 9, 3) := by decide +kernel
theorem dX6_addCurve_83 : decode cX6_addCurve 83 = .ok (.aload_n 0, 1) := by decide +kernel
theorem dX6_addCurve_84 : decode cX6_addCurve 84 = .ok (.getfield 64, 3) := by decide +kernel
theorem dX6_addCurve_87 : decode cX6_addCurve 87 = .ok (.iload_n 1, 1) := by decide +kernel
theorem dX6_addCurve_88 : decode cX6_addCurve 88 = .ok (.iastore, 1) := by decide +kernel
theorem dX6_addCurve_89 : decode cX6_addCurve 89 = .ok (.aload_n 0, 1) := by decide +kernel
theorem dX6_addCurve_90 : decode cX6_addCurve 90 = .ok (.getfield 13, 3) := by decide +kernel
theorem dX6_addCurve_93 : decode cX6_addCurve 93 = .ok (.aload_n 0, 1) := by decide +kernel
theorem dX6_addCurve_94 : decode cX6_addCurve 94 = .ok (.getfield 64, 3) := by decide +kernel
theorem dX6_addCurve_97 : decode cX6_addCurve 97 = .ok (.iconst 0, 1) := by decide +kernel
theorem dX6_addCurve_98 : decode cX6_addCurve 98 = .ok (.iastore, 1) := by decide +kernel
theorem dX6_addCurve_99 : decode cX6_addCurve 99 = .ok (.aload_n 0, 1) := by decide +kernel
theorem dX6_addCurve_100 : decode cX6_addCurve 100 = .ok (.dup, 1) := by decide +kernel
theorem dX6_addCurve_101 : decode cX6_addCurve 101 = .ok (.getfield 64, 3) := by decide +kernel
theorem dX6_addCurve_104 : decode cX6_addCurve 104 = .ok (.iconst 1, 1) := by decide +kernel
theorem dX6_addCurve_105 : decode cX6_addCurve 105 = .ok (.iadd, 1) := by decide +kernel
theorem dX6_addCurve_106 : decode cX6_addCurve 106 = .ok (.putfield 64, 3) := by decide +kernel
theorem dX6_addCurve_109 : decode cX6_addCurve 109 = .ok (.aload_n 0, 1) := by decide +kernel
theorem dX6_addCurve_110 : decode cX6_addCurve 110 = .ok (.iconst 0, 1) := by decide +kernel
theorem dX6_addCurve_111 : decode cX6_addCurve 111 = .ok (.putfield 77, 3) := by decide +kernel
theorem dX6_addCurve_114 : decode cX6_addCurve 114 = .ok (.aload_n 0, 1) := by decide +kernel
theorem dX6_addCurve_115 : decode cX6_addCurve 115 = .ok (.getfield 64, 3) := by decide +kernel
theorem dX6_addCurve_118 : decode cX6_addCurve 118 = .ok (.iconst 1, 1) := by decide +kernel
theorem dX6_addCurve_119 : decode cX6_addCurve 119 = .ok (.isub, 1) := by decide +kernel
theorem dX6_addCurve_120 : decode cX6_addCurve 120 = .ok (.ireturn, 1) := by decide +kernel
set_option maxRecDepth 20000 in
theorem ggX6_addPoint_X6_isCurve : GoodIn wsX6_addPoint wsX6_isCurve := goodIn_r _ [13, 14, 15, 16, 12, 17, 22, 23, 24, 25, 26, 27, 28, 29, 30, 31, 32, 33, 34, 35, 36, 37, 38, 39, 40] (by decide +kernel) (by decide +kernel)
set_option maxRecDepth 20000 in
theorem gX6_addPoint_X6_isCurve : GoodIn wsX6_addPoint (wsV RX6 81 RX6 yX6_isCurve wsX6_isCurve) := goodIn_app (goodIn_of _ (by decide +kernel)) ggX6_addPoint_X6_isCurve
set_option maxRecDepth 20000 in
theorem ggX6_addPoint_X6_fail : GoodIn wsX6_addPoint wsX6_fail := goodIn_r _ [21, 1, 22, 23, 24, 25, 26, 27, 28, 29, 30, 31, 32, 33, 34, 35, 36, 37, 38, 39, 40] (by decide +kernel) (by decide +kernel)
set_option maxRecDepth 20000 in
theorem gX6_addPoint_X6_fail : GoodIn wsX6_addPoint (wsV RX6 73 RX6 yX6_fail wsX6_fail) := goodIn_app (goodIn_of _ (by decide +kernel)) ggX6_addPoint_X6_fail
set_option maxRecDepth 20000 in
theorem ggX6_addPoint_X6_isIn : GoodIn wsX6_addPoint wsX6_isIn := goodIn_r _ [17] (by decide +kernel) (by decide +kernel)
set_option maxRecDepth 20000 in
theorem gX6_addPoint_X6_isIn : GoodIn wsX6_addPoint (va_wsS RX6 60 yX6_isIn wsX6_isIn) := goodIn_app (goodIn_of _ (by decide +kernel)) ggX6_addPoint_X6_isIn
theorem dX6_addPoint_0 : decode cX6_addPoint 0 = .ok (.aload_n 0, 1) := by decide +kernel
theorem dX6_addPoint_1 : decode cX6_addPoint 1 = .ok (.iconst 0, 1) := by decide +kernel
theorem dX6_addPoint_2 : decode cX6_addPoint 2 = .ok (.putfield 55, 3) := by decide +kernel
theorem dX6_addPoint_5 : decode cX6_addPoint 5 = .ok (.aload_n 0, 1) := by decide +kernel
theorem dX6_addPoint_6 : decode cX6_addPoint 6 = .ok (.iload_n 1, 1) := by decide +kernel
theorem dX6_addPoint_7 : decode cX6_addPoint 7 = .ok (.invokevirtual 81, 3) := by decide +kernel
theorem dX6_addPoint_10 : decode cX6_addPoint 10 = .ok (.ifCond .ne 9, 3) := by decide +kernel
theorem dX6_addPoint_13 : decode cX6_addPoint 13 = .ok (.aload_n 0, 1) := by decide +kernel
theorem dX6_addPoint_14 : decode cX6_addPoint 14 = .ok (.iconst 1, 1) := by decide +kernel
theorem dX6_addPoint_15 : decode cX6_addPoint 15 = .ok (.invokevirtual 73, 3) := by decide +kernel
theorem dX6_addPoint_18 : decode cX6_addPoint 18 = .ok (.ireturn, 1) := by decide +kernel
theorem dX6_addPoint_19 : decode cX6_addPoint 19 = .ok (.iload_n 2, 1) := by decide +kernel
theorem dX6_addPoint_20 : decode cX6_addPoint 20 = .ok (.i2l, 1) := by decide +kernel
theorem dX6_addPoint_21 : decode cX6_addPoint 21 = .ok (.ldc2_w 84, 3) := by decide +kernel
theorem dX6_addPoint_24 : decode cX6_addPoint 24 = .ok (.ldc2_w 86, 3) := by decide +kernel
theorem dX6_addPoint_27 : decode cX6_addPoint 27 = .ok (.invokestatic 60, 3) := by decide +kernel
theorem dX6_addPoint_30 : decode cX6_addPoint 30 = .ok (.ifCond .eq 15, 3) := by decide +kernel
theorem dX6_addPoint_33 : decode cX6_addPoint 33 = .ok (.iload_n 3, 1) := by decide +kernel
theorem dX6_addPoint_34 : decode cX6_addPoint 34 = .ok (.i2l, 1) := by decide +kernel
theorem dX6_addPoint_35 : decode cX6_addPoint 35 = .ok (.lconst 0, 1) := by decide +kernel
theorem dX6_addPoint_36 : decode cX6_addPoint 36 = .ok (.ldc2_w 88, 3) := by decide +kernel
theorem dX6_addPoint_39 : decode cX6_addPoint 39 = .ok (.invokestatic 60, 3) := by decide +kernel
theorem dX6_addPoint_42 : decode cX6_addPoint 42 = .ok (.ifCond .ne 9, 3) := by decide +kernel
theorem dX6_addPoint_45 : decode cX6_addPoint 45 = .ok (.aload_n 0, 1) := by decide +kernel
theorem dX6_addPoint_46 : decode cX6_addPoint 46 = .ok (.iconst 2, 1) := by decide +kernel
theorem dX6_addPoint_47 : decode cX6_addPoint 47 = .ok (.invokevirtual 73, 3) := by decide +kernel
theorem dX6_addPoint_50 : decode cX6_addPoint 50 = .ok (.ireturn, 1) := by decide +kernel
theorem dX6_addPoint_51 : decode cX6_addPoint 51 = .ok (.bipush 12, 2) := by decide +kernel
theorem dX6_addPoint_53 : decode cX6_addPoint 53 = .ok (.iload_n 1, 1) := by decide +kernel
theorem dX6_addPoint_54 : decode cX6_addPoint 54 = .ok (.imul, 1) := by decide +kernel
theorem dX6_addPoint_55 : decode cX6_addPoint 55 = .ok (.istore 4, 2) := by decide +kernel
theorem dX6_addPoint_57 : decode cX6_addPoint 57 = .ok (.aload_n 0, 1) := by decide +kernel
theorem dX6_addPoint_58 : decode cX6_addPoint 58 = .ok (.getfield 13, 3) := by decide +kernel
theorem dX6_addPoint_61 : decode cX6_addPoint 61 = .ok (.iload_n 1, 1) := by decide +kernel
theorem dX6_addPoint_62 : decode cX6_addPoint 62 = .ok (.iaload, 1) := by decide +kernel
theorem dX6_addPoint_63 : decode cX6_addPoint 63 = .ok (.istore 5, 2) := by decide +kernel
theorem dX6_addPoint_65 : decode cX6_addPoint 65 = .ok (.iconst 0, 1) := by decide +kernel
theorem dX6_addPoint_66 : decode cX6_addPoint 66 = .ok (.istore 6, 2) := by decide +kernel
theorem dX6_addPoint_68 : decode cX6_addPoint 68 = .ok (.iload 6, 2) := by decide +kernel
theorem dX6_addPoint_70 : decode cX6_addPoint 70 = .ok (.iload 5, 2) := by decide +kernel
theorem dX6_addPoint_72 : decode cX6_addPoint 72 = .ok (.if_icmp .ge 23, 3) := by decide +kernel
theorem dX6_addPoint_75 : decode cX6_addPoint 75 = .ok (.aload_n 0, 1) := by decide +kernel
theorem dX6_addPoint_76 : decode cX6_addPoint 76 = .ok (.getfield 16, 3) := by decide +kernel
theorem dX6_addPoint_79 : decode cX6_addPoint 79 = .ok (.iload 4, 2) := by decide +kernel
theorem dX6_addPoint_81 : decode cX6_addPoint 81 = .ok (.iload 6, 2) := by decide +kernel
theorem dX6_addPoint_83 : decode cX6_addPoint 83 = .ok (.iadd, 1) := by decide +kernel
theorem dX6_addPoint_84 : decode cX6_addPoint 84 = .ok (.iaload, 1) := by decide +kernel
theorem dX6_addPoint_85 : decode cX6_addPoint 85 = .ok (.iload_n 2, 1) := by decide +kernel
theorem dX6_addPoint_86 : decode cX6_addPoint 86 = .ok (.if_icmp .ge 9, 3) := by decide +kernel
theorem dX6_addPoint_89 : decode cX6_addPoint 89 = .ok (.iinc 6 1, 3) := by decide +kernel
theorem dX6_addPoint_92 : decode cX6_addPoint 92 = .ok (.goto (-24), 3) := by decide +kernel
theorem dX6_addPoint_95 : decode cX6_addPoint 95 = .ok (.iload 5, 2) := by decide +kernel
theorem dX6_addPoint_97 : decode cX6_addPoint 97 = .ok (.bipush 12, 2) := by decide +kernel
theorem dX6_addPoint_99 : decode cX6_addPoint 99 = .ok (.if_icmp .ge 63, 3) := by decide +kernel
theorem dX6_addPoint_102 : decode cX6_addPoint 102 = .ok (.iload 6, 2) := by decide +kernel
theorem dX6_addPoint_104 : decode cX6_addPoint 104 = .ok (.iload 5, 2) := by decide +kernel
theorem dX6_addPoint_106 : decode cX6_addPoint 106 = .ok (.if_icmp .eq 31, 3) := by decide +kernel
theorem dX6_addPoint_109 : decode cX6_addPoint 109 = .ok (.aload_n 0, 1) := by decide +kernel
theorem dX6_addPoint_110 : decode cX6_addPoint 110 = .ok (.getfield 16, 3) := by decide +kernel
theorem dX6_addPoint_113 : decode cX6_addPoint 113 = .ok (.iload 4, 2) := by decide +kernel
theorem dX6_addPoint_115 : decode cX6_addPoint 115 = .ok (.iload 6, 2) := by decide +kernel
theorem dX6_addPoint_117 : decode cX6_addPoint 117 = .ok (.iadd, 1) := by decide +kernel
theorem dX6_addPoint_118 : decode cX6_addPoint 118 = .ok (.iaload, 1) := by decide +kernel
theorem dX6_addPoint_119 : decode cX6_addPoint 119 = .ok (.iload_n 2, 1) := by decide +kernel
theorem dX6_addPoint_120 : decode cX6_addPoint 120 = .ok (.if_icmp .le 42, 3) := by decide +kernel
theorem dX6_addPoint_123 : decode cX6_addPoint 123 = .ok (.aload_n 0, 1) := by decide +kernel
theorem dX6_addPoint_124 : decode cX6_addPoint 124 = .ok (.getfield 19, 3) := by decide +kernel
theorem dX6_addPoint_127 : decode cX6_addPoint 127 = .ok (.iload 4, 2) := by decide +kernel
theorem dX6_addPoint_129 : decode cX6_addPoint 129 = .ok (.iload 6, 2) := by decide +kernel
theorem dX6_addPoint_131 : decode cX6_addPoint 131 = .ok (.iadd, 1) := by decide +kernel
theorem dX6_addPoint_132 : decode cX6_addPoint 132 = .ok (.iaload, 1) := by decide +kernel
theorem dX6_addPoint_133 : decode cX6_addPoint 133 = .ok (.iload_n 3, 1) := by decide +kernel
theorem dX6_addPoint_134 : decode cX6_addPoint 134 = .ok (.if_icmp .le 28, 3) := by decide +kernel
theorem dX6_addPoint_137 : decode cX6_addPoint 137 = .ok (.iload 6, 2) := by decide +kernel
theorem dX6_addPoint_139 : decode cX6_addPoint 139 = .ok (.ifCond .eq 19, 3) := by decide +kernel
theorem dX6_addPoint_142 : decode cX6_addPoint 142 = .ok (.aload_n 0, 1) := by decide +kernel
theorem dX6_addPoint_143 : decode cX6_addPoint 143 = .ok (.getfield 19, 3) := by decide +kernel
theorem dX6_addPoint_146 : decode cX6_addPoint 146 = .ok (.iload 4, 2) := by decide +kernel
theorem dX6_addPoint_148 : decode cX6_addPoint 148 = .ok (.iload 6, 2) := by decide +kernel
theorem dX6_addPoint_150 : decode cX6_addPoint 150 = .ok (.iadd, 1) := by decide +kernel
theorem dX6_addPoint_151 : decode cX6_addPoint 151 = .ok (.iconst 1, 1) := by decide +kernel
theorem dX6_addPoint_152 : decode cX6_addPoint 152 = .ok (.isub, 1) := by decide +kernel
theorem dX6_addPoint_153 : decode cX6_addPoint 153 = .ok (.iaload, 1) := by decide +kernel
theorem dX6_addPoint_154 : decode cX6_addPoint 154 = .ok (.iload_n 3, 1) := by decide +kernel
theorem dX6_addPoint_155 : decode cX6_addPoint 155 = .ok (.if_icmp .ge 7, 3) := by decide +kernel
theorem dX6_addPoint_158 : decode cX6_addPoint 158 = .ok (.iconst 1, 1) := by decide +kernel
theorem dX6_addPoint_159 : decode cX6_addPoint 159 = .ok (.goto 4, 3) := by decide +kernel
theorem dX6_addPoint_162 : decode cX6_addPoint 162 = .ok (.iconst 0, 1) := by decide +kernel
theorem dX6_addPoint_163 : decode cX6_addPoint 163 = .ok (.istore 7, 2) := by decide +kernel
theorem dX6_addPoint_165 : decode cX6_addPoint 165 = .ok (.iload 7, 2) := by decide +kernel
theorem dX6_addPoint_167 : decode cX6_addPoint 167 = .ok (.ifCond .ne 9, 3) := by decide +kernel
theorem dX6_addPoint_170 : decode cX6_addPoint 170 = .ok (.aload_n 0, 1) := by decide +kernel
theorem dX6_addPoint_171 : decode cX6_addPoint 171 = .ok (.iconst 3, 1) := by decide +kernel
theorem dX6_addPoint_172 : decode cX6_addPoint 172 = .ok (.invokevirtual 73, 3) := by decide +kernel
theorem dX6_addPoint_175 : decode cX6_addPoint 175 = .ok (.ireturn, 1) := by decide +kernel
theorem dX6_addPoint_176 : decode cX6_addPoint 176 = .ok (.iload 5, 2) := by decide +kernel
theorem dX6_addPoint_178 : decode cX6_addPoint 178 = .ok (.istore 8, 2) := by decide +kernel
theorem dX6_addPoint_180 : decode cX6_addPoint 180 = .ok (.iload 8, 2) := by decide +kernel
theorem dX6_addPoint_182 : decode cX6_addPoint 182 = .ok (.iload 6, 2) := by decide +kernel
theorem dX6_addPoint_184 : decode cX6_addPoint 184 = .ok (.if_icmp .le 53, 3) := by decide +kernel
theorem dX6_addPoint_187 : decode cX6_addPoint 187 = .ok (.aload_n 0, 1) := by decide +kernel
theorem dX6_addPoint_188 : decode cX6_addPoint 188 = .ok (.getfield 16, 3) := by decide +kernel
theorem dX6_addPoint_191 : decode cX6_addPoint 191 = .ok (.iload 4, 2) := by decide +kernel
theorem dX6_addPoint_193 : decode cX6_addPoint 193 = .ok (.iload 8, 2) := by decide +kernel
theorem dX6_addPoint_195 : decode cX6_addPoint 195 = .ok (.iadd, 1) := by decide +kernel
theorem dX6_addPoint_196 : decode cX6_addPoint 196 = .ok (.aload_n 0, 1) := by decide +kernel
theorem dX6_addPoint_197 : decode cX6_addPoint 197 = .ok (.getfield 16, 3) := by decide +kernel
theorem dX6_addPoint_200 : decode cX6_addPoint 200 = .ok (.iload 4, 2) := by decide +kernel
theorem dX6_addPoint_202 : decode cX6_addPoint 202 = .ok (.iload 8, 2) := by decide +kernel
theorem dX6_addPoint_204 : decode cX6_addPoint 204 = .ok (.iadd, 1) := by decide +kernel
theorem dX6_addPoint_205 : decode cX6_addPoint 205 = .ok (.iconst 1, 1) := by decide +kernel
theorem dX6_addPoint_206 : decode cX6_addPoint 206 = .ok (.isub, 1) := by decide +kernel
theorem dX6_addPoint_207 : decode cX6_addPoint 207 = .ok (.iaload, 1) := by decide +kernel
theorem dX6_addPoint_208 : decode cX6_addPoint 208 = .ok (.iastore, 1) := by decide +kernel
theorem dX6_addPoint_209 : decode cX6_addPoint 209 = .ok (.aload_n 0, 1) := by decide +kernel
theorem dX6_addPoint_210 : decode cX6_addPoint 210 = .ok (.getfield 19, 3) := by decide +kernel
theorem dX6_addPoint_213 : decode cX6_addPoint 213 = .ok (.iload 4, 2) := by decide +kernel
theorem dX6_addPoint_215 : decode cX6_addPoint 215 = .ok (.iload 8, 2) := by decide +kernel
theorem dX6_addPoint_217 : decode cX6_addPoint 217 = .ok (.iadd, 1) := by decide +kernel
theorem dX6_addPoint_218 : decode cX6_addPoint 218 = .ok (.aload_n 0, 1) := by decide +kernel
theorem dX6_addPoint_219 : decode cX6_addPoint 219 = .ok (.getfield 19, 3) := by decide +kernel
theorem dX6_addPoint_222 : decode cX6_addPoint 222 = .ok (.iload 4, 2) := by decide +kernel
theorem dX6_addPoint_224 : decode cX6_addPoint 224 = .ok (.iload 8, 2) := by decide +kernel
theorem dX6_addPoint_226 : decode cX6_addPoint 226 = .ok (.iadd, 1) := by decide +kernel
theorem dX6_addPoint_227 : decode cX6_addPoint 227 = .ok (.iconst 1, 1) := by decide +kernel
theorem dX6_addPoint_228 : decode cX6_addPoint 228 = .ok (.isub, 1) := by decide +kernel
theorem dX6_addPoint_229 : decode cX6_addPoint 229 = .ok (.iaload, 1) := by decide +kernel
theorem dX6_addPoint_230 : decode cX6_addPoint 230 = .ok (.iastore, 1) := by decide +kernel
theorem dX6_addPoint_231 : decode cX6_addPoint 231 = .ok (.iinc 8 (-1), 3) := by decide +kernel
theorem dX6_addPoint_234 : decode cX6_addPoint 234 = .ok (.goto (-54), 3) := by decide +kernel
theorem dX6_addPoint_237 : decode cX6_addPoint 237 = .ok (.aload_n 0, 1) := by decide +kernel
theorem dX6_addPoint_238 : decode cX6_addPoint 238 = .ok (.getfield 16, 3) := by decide +kernel
theorem dX6_addPoint_241 : decode cX6_addPoint 241 = .ok (.iload 4, 2) := by decide +kernel
theorem dX6_addPoint_243 : decode cX6_addPoint 243 = .ok (.iload 6, 2) := by decide +kernel
theorem dX6_addPoint_245 : decode cX6_addPoint 245 = .ok (.iadd, 1) := by decide +kernel
theorem dX6_addPoint_246 : decode cX6_addPoint 246 = .ok (.iload_n 2, 1) := by decide +kernel
theorem dX6_addPoint_247 : decode cX6_addPoint 247 = .ok (.iastore, 1) := by decide +kernel
theorem dX6_addPoint_248 : decode cX6_addPoint 248 = .ok (.aload_n 0, 1) := by decide +kernel
theorem dX6_addPoint_249 : decode cX6_addPoint 249 = .ok (.getfield 19, 3) := by decide +kernel
theorem dX6_addPoint_252 : decode cX6_addPoint 252 = .ok (.iload 4, 2) := by decide +kernel
theorem dX6_addPoint_254 : decode cX6_addPoint 254 = .ok (.iload 6, 2) := by decide +kernel
theorem dX6_addPoint_256 : decode cX6_addPoint 256 = .ok (.iadd, 1) := by decide +kernel
theorem dX6_addPoint_257 : decode cX6_addPoint 257 = .ok (.iload_n 3, 1) := by decide +kernel
theorem dX6_addPoint_258 : decode cX6_addPoint 258 = .ok (.iastore, 1) := by decide +kernel
theorem dX6_addPoint_259 : decode cX6_addPoint 259 = .ok (.aload_n 0, 1) := by decide +kernel
theorem dX6_addPoint_260 : decode cX6_addPoint 260 = .ok (.getfield 13, 3) := by decide +kernel
theorem dX6_addPoint_263 : decode cX6_addPoint 263 = .ok (.iload_n 1, 1) := by decide +kernel
theorem dX6_addPoint_264 : decode cX6_addPoint 264 = .ok (.dup2, 1) := by decide +kernel
theorem dX6_addPoint_265 : decode cX6_addPoint 265 = .ok (.iaload, 1) := by decide +kernel
theorem dX6_addPoint_266 : decode cX6_addPoint 266 = .ok (.iconst 1, 1) := by decide +kernel
theorem dX6_addPoint_267 : decode cX6_addPoint 267 = .ok (.iadd, 1) := by decide +kernel
theorem dX6_addPoint_268 : decode cX6_addPoint 268 = .ok (.iastore, 1) := by decide +kernel
theorem dX6_addPoint_269 : decode cX6_addPoint 269 = .ok (.aload_n 0, 1) := by decide +kernel
theorem dX6_addPoint_270 : decode cX6_addPoint 270 = .ok (.iconst 0, 1) := by decide +kernel
theorem dX6_addPoint_271 : decode cX6_addPoint 271 = .ok (.putfield 77, 3) := by decide +kernel
theorem dX6_addPoint_274 : decode cX6_addPoint 274 = .ok (.aload_n 0, 1) := by decide +kernel
theorem dX6_addPoint_275 : decode cX6_addPoint 275 = .ok (.getfield 13, 3) := by decide +kernel
theorem dX6_addPoint_278 : decode cX6_addPoint 278 = .ok (.iload_n 1, 1) := by decide +kernel
theorem dX6_addPoint_279 : decode cX6_addPoint 279 = .ok (.iaload, 1) := by decide +kernel
theorem dX6_addPoint_280 : decode cX6_addPoint 280 = .ok (.ireturn, 1) := by decide +kernel
theorem dX6_isComplete_0 : decode cX6_isComplete 0 = .ok (.iload_n 1, 1) := by decide +kernel
theorem dX6_isComplete_1 : decode cX6_isComplete 1 = .ok (.iconst (-1), 1) := by decide +kernel
theorem dX6_isComplete_2 : decode cX6_isComplete 2 = .ok (.if_icmp .eq 17, 3) := by decide +kernel
theorem dX6_isComplete_5 : decode cX6_isComplete 5 = .ok (.aload_n 0, 1) := by decide +kernel
theorem dX6_isComplete_6 : decode cX6_isComplete 6 = .ok (.getfield 13, 3) := by decide +kernel
theorem dX6_isComplete_9 : decode cX6_isComplete 9 = .ok (.iload_n 1, 1) := by decide +kernel
theorem dX6_isComplete_10 : decode cX6_isComplete 10 = .ok (.iaload, 1) := by decide +kernel
theorem dX6_isComplete_11 : decode cX6_isComplete 11 = .ok (.iconst 1, 1) := by decide +kernel
theorem dX6_isComplete_12 : decode cX6_isComplete 12 = .ok (.if_icmp .le 7, 3) := by decide +kernel
theorem dX6_isComplete_15 : decode cX6_isComplete 15 = .ok (.iconst 1, 1) := by decide +kernel
theorem dX6_isComplete_16 : decode cX6_isComplete 16 = .ok (.goto 4, 3) := by decide +kernel
theorem dX6_isComplete_19 : decode cX6_isComplete 19 = .ok (.iconst 0, 1) := by decide +kernel
theorem dX6_isComplete_20 : decode cX6_isComplete 20 = .ok (.ireturn, 1) := by decide +kernel
theorem dX6_flowFor_0 : decode cX6_flowFor 0 = .ok (.bipush 12, 2) := by decide +kernel
theorem dX6_flowFor_2 : decode cX6_flowFor 2 = .ok (.iload_n 1, 1) := by decide +kernel
theorem dX6_flowFor_3 : decode cX6_flowFor 3 = .ok (.imul, 1) := by decide +kernel
theorem dX6_flowFor_4 : decode cX6_flowFor 4 = .ok (.istore_n 3, 1) := by decide +kernel
theorem dX6_flowFor_5 : decode cX6_flowFor 5 = .ok (.aload_n 0, 1) := by decide +kernel
theorem dX6_flowFor_6 : decode cX6_flowFor 6 = .ok (.getfield 13, 3) := by decide +kernel
theorem dX6_flowFor_9 : decode cX6_flowFor 9 = .ok (.iload_n 1, 1) := by decide +kernel
theorem dX6_flowFor_10 : decode cX6_flowFor 10 = .ok (.iaload, 1) := by decide +kernel
theorem dX6_flowFor_11 : decode cX6_flowFor 11 = .ok (.istore 4, 2) := by decide +kernel
theorem dX6_flowFor_13 : decode cX6_flowFor 13 = .ok (.iload_n 2, 1) := by decide +kernel
theorem dX6_flowFor_14 : decode cX6_flowFor 14 = .ok (.aload_n 0, 1) := by decide +kernel
theorem dX6_flowFor_15 : decode cX6_flowFor 15 = .ok (.getfield 16, 3) := by decide +kernel
theorem dX6_flowFor_18 : decode cX6_flowFor 18 = .ok (.iload_n 3, 1) := by decide +kernel
theorem dX6_flowFor_19 : decode cX6_flowFor 19 = .ok (.iaload, 1) := by decide +kernel
theorem dX6_flowFor_20 : decode cX6_flowFor 20 = .ok (.if_icmp .ge 5, 3) := by decide +kernel
theorem dX6_flowFor_23 : decode cX6_flowFor 23 = .ok (.lconst 0, 1) := by decide +kernel
theorem dX6_flowFor_24 : decode cX6_flowFor 24 = .ok (.lreturn, 1) := by decide +kernel
theorem dX6_flowFor_25 : decode cX6_flowFor 25 = .ok (.iload_n 3, 1) := by decide +kernel
theorem dX6_flowFor_26 : decode cX6_flowFor 26 = .ok (.istore 5, 2) := by decide +kernel
theorem dX6_flowFor_28 : decode cX6_flowFor 28 = .ok (.iload 5, 2) := by decide +kernel
theorem dX6_flowFor_30 : decode cX6_flowFor 30 = .ok (.iconst 2, 1) := by decide +kernel
theorem dX6_flowFor_31 : decode cX6_flowFor 31 = .ok (.iadd, 1) := by decide +kernel
theorem dX6_flowFor_32 : decode cX6_flowFor 32 = .ok (.iload_n 3, 1) := by decide +kernel
theorem dX6_flowFor_33 : decode cX6_flowFor 33 = .ok (.iload 4, 2) := by decide +kernel
theorem dX6_flowFor_35 : decode cX6_flowFor 35 = .ok (.iadd, 1) := by decide +kernel
theorem dX6_flowFor_36 : decode cX6_flowFor 36 = .ok (.if_icmp .ge 22, 3) := by decide +kernel
theorem dX6_flowFor_39 : decode cX6_flowFor 39 = .ok (.aload_n 0, 1) := by decide +kernel
theorem dX6_flowFor_40 : decode cX6_flowFor 40 = .ok (.getfield 16, 3) := by decide +kernel
theorem dX6_flowFor_43 : decode cX6_flowFor 43 = .ok (.iload 5, 2) := by decide +kernel
theorem dX6_flowFor_45 : decode cX6_flowFor 45 = .ok (.iconst 1, 1) := by decide +kernel
theorem dX6_flowFor_46 : decode cX6_flowFor 46 = .ok (.iadd, 1) := by decide +kernel
theorem dX6_flowFor_47 : decode cX6_flowFor 47 = .ok (.iaload, 1) := by decide +kernel
theorem dX6_flowFor_48 : decode cX6_flowFor 48 = .ok (.iload_n 2, 1) := by decide +kernel
theorem dX6_flowFor_49 : decode cX6_flowFor 49 = .ok (.if_icmp .gt 9, 3) := by decide +kernel
theorem dX6_flowFor_52 : decode cX6_flowFor 52 = .ok (.iinc 5 1, 3) := by decide +kernel
theorem dX6_flowFor_55 : decode cX6_flowFor 55 = .ok (.goto (-27), 3) := by decide +kernel
theorem dX6_flowFor_58 : decode cX6_flowFor 58 = .ok (.aload_n 0, 1) := by decide +kernel
theorem dX6_flowFor_59 : decode cX6_flowFor 59 = .ok (.getfield 19, 3) := by decide +kernel
theorem dX6_flowFor_62 : decode cX6_flowFor 62 = .ok (.iload 5, 2) := by decide +kernel
theorem dX6_flowFor_64 : decode cX6_flowFor 64 = .ok (.iaload, 1) := by decide +kernel
theorem dX6_flowFor_65 : decode cX6_flowFor 65 = .ok (.i2l, 1) := by decide +kernel
theorem dX6_flowFor_66 : decode cX6_flowFor 66 = .ok (.aload_n 0, 1) := by decide +kernel
theorem dX6_flowFor_67 : decode cX6_flowFor 67 = .ok (.getfield 19, 3) := by decide +kernel
theorem dX6_flowFor_70 : decode cX6_flowFor 70 = .ok (.iload 5, 2) := by decide +kernel
theorem dX6_flowFor_72 : decode cX6_flowFor 72 = .ok (.iconst 1, 1) := by decide +kernel
theorem dX6_flowFor_73 : decode cX6_flowFor 73 = .ok (.iadd, 1) := by decide +kernel
theorem dX6_flowFor_74 : decode cX6_flowFor 74 = .ok (.iaload, 1) := by decide +kernel
theorem dX6_flowFor_75 : decode cX6_flowFor 75 = .ok (.aload_n 0, 1) := by decide +kernel
theorem dX6_flowFor_76 : decode cX6_flowFor 76 = .ok (.getfield 19, 3) := by decide +kernel
theorem dX6_flowFor_79 : decode cX6_flowFor 79 = .ok (.iload 5, 2) := by decide +kernel
theorem dX6_flowFor_81 : decode cX6_flowFor 81 = .ok (.iaload, 1) := by decide +kernel
theorem dX6_flowFor_82 : decode cX6_flowFor 82 = .ok (.isub, 1) := by decide +kernel
theorem dX6_flowFor_83 : decode cX6_flowFor 83 = .ok (.i2l, 1) := by decide +kernel
theorem dX6_flowFor_84 : decode cX6_flowFor 84 = .ok (.iload_n 2, 1) := by decide +kernel
theorem dX6_flowFor_85 : decode cX6_flowFor 85 = .ok (.aload_n 0, 1) := by decide +kernel
theorem dX6_flowFor_86 : decode cX6_flowFor 86 = .ok (.getfield 16, 3) := by decide +kernel
theorem dX6_flowFor_89 : decode cX6_flowFor 89 = .ok (.iload 5, 2) := by decide +kernel
theorem dX6_flowFor_91 : decode cX6_flowFor 91 = .ok (.iaload, 1) := by decide +kernel
theorem dX6_flowFor_92 : decode cX6_flowFor 92 = .ok (.isub, 1) := by decide +kernel
theorem dX6_flowFor_93 : decode cX6_flowFor 93 = .ok (.i2l, 1) := by decide +kernel
theorem dX6_flowFor_94 : decode cX6_flowFor 94 = .ok (.lmul, 1) := by decide +kernel
theorem dX6_flowFor_95 : decode cX6_flowFor 95 = .ok (.aload_n 0, 1) := by decide +kernel
theorem dX6_flowFor_96 : decode cX6_flowFor 96 = .ok (.getfield 16, 3) := by decide +kernel
theorem dX6_flowFor_99 : decode cX6_flowFor 99 = .ok (.iload 5, 2) := by decide +kernel
theorem dX6_flowFor_101 : decode cX6_flowFor 101 = .ok (.iconst 1, 1) := by decide +kernel
theorem dX6_flowFor_102 : decode cX6_flowFor 102 = .ok (.iadd, 1) := by decide +kernel
theorem dX6_flowFor_103 : decode cX6_flowFor 103 = .ok (.iaload, 1) := by decide +kernel
theorem dX6_flowFor_104 : decode cX6_flowFor 104 = .ok (.aload_n 0, 1) := by decide +kernel
theorem dX6_flowFor_105 : decode cX6_flowFor 105 = .ok (.getfield 16, 3) := by decide +kernel
theorem dX6_flowFor_108 : decode cX6_flowFor 108 = .ok (.iload 5, 2) := by decide +kernel
theorem dX6_flowFor_110 : decode cX6_flowFor 110 = .ok (.iaload, 1) := by decide +kernel
theorem dX6_flowFor_111 : decode cX6_flowFor 111 = .ok (.isub, 1) := by decide +kernel
theorem dX6_flowFor_112 : decode cX6_flowFor 112 = .ok (.i2l, 1) := by decide +kernel
theorem dX6_flowFor_113 : decode cX6_flowFor 113 = .ok (.ldiv, 1) := by decide +kernel
theorem dX6_flowFor_114 : decode cX6_flowFor 114 = .ok (.ladd, 1) := by decide +kernel
theorem dX6_flowFor_115 : decode cX6_flowFor 115 = .ok (.lreturn, 1) := by decide +kernel
set_option maxRecDepth 20000 in
theorem ggX6_stageFor_X6_flowFor : GoodIn wsX6_stageFor wsX6_flowFor := goodIn_r _ [8, 1, 3, 2, 9, 10, 11, 12, 13, 14, 15, 16, 17, 18, 19, 20, 21, 22, 23, 24, 25, 26, 27] (by decide +kernel) (by decide +kernel)
set_option maxRecDepth 20000 in
theorem gX6_stageFor_X6_flowFor : GoodIn wsX6_stageFor (wsV RX6 90 RX6 yX6_flowFor wsX6_flowFor) := goodIn_app (goodIn_of _ (by decide +kernel)) ggX6_stageFor_X6_flowFor
theorem dX6_stageFor_0 : decode cX6_stageFor 0 = .ok (.bipush 12, 2) := by decide +kernel
theorem dX6_stageFor_2 : decode cX6_stageFor 2 = .ok (.iload_n 1, 1) := by decide +kernel
theorem dX6_stageFor_3 : decode cX6_stageFor 3 = .ok (.imul, 1) := by decide +kernel
theorem dX6_stageFor_4 : decode cX6_stageFor 4 = .ok (.aload_n 0, 1) := by decide +kernel
theorem dX6_stageFor_5 : decode cX6_stageFor 5 = .ok (.getfield 13, 3) := by decide +kernel
theorem dX6_stageFor_8 : decode cX6_stageFor 8 = .ok (.iload_n 1, 1) := by decide +kernel
theorem dX6_stageFor_9 : decode cX6_stageFor 9 = .ok (.iaload, 1) := by decide +kernel
theorem dX6_stageFor_10 : decode cX6_stageFor 10 = .ok (.iadd, 1) := by decide +kernel
theorem dX6_stageFor_11 : decode cX6_stageFor 11 = .ok (.iconst 1, 1) := by decide +kernel
theorem dX6_stageFor_12 : decode cX6_stageFor 12 = .ok (.isub, 1) := by decide +kernel
theorem dX6_stageFor_13 : decode cX6_stageFor 13 = .ok (.istore_n 3, 1) := by decide +kernel
theorem dX6_stageFor_14 : decode cX6_stageFor 14 = .ok (.iload_n 2, 1) := by decide +kernel
theorem dX6_stageFor_15 : decode cX6_stageFor 15 = .ok (.aload_n 0, 1) := by decide +kernel
theorem dX6_stageFor_16 : decode cX6_stageFor 16 = .ok (.getfield 19, 3) := by decide +kernel
theorem dX6_stageFor_19 : decode cX6_stageFor 19 = .ok (.iload_n 3, 1) := by decide +kernel
theorem dX6_stageFor_20 : decode cX6_stageFor 20 = .ok (.iaload, 1) := by decide +kernel
theorem dX6_stageFor_21 : decode cX6_stageFor 21 = .ok (.if_icmp .le 7, 3) := by decide +kernel
theorem dX6_stageFor_24 : decode cX6_stageFor 24 = .ok (.sipush (-9999), 3) := by decide +kernel
theorem dX6_stageFor_27 : decode cX6_stageFor 27 = .ok (.ireturn, 1) := by decide +kernel
theorem dX6_stageFor_28 : decode cX6_stageFor 28 = .ok (.aload_n 0, 1) := by decide +kernel
theorem dX6_stageFor_29 : decode cX6_stageFor 29 = .ok (.getfield 16, 3) := by decide +kernel
theorem dX6_stageFor_32 : decode cX6_stageFor 32 = .ok (.bipush 12, 2) := by decide +kernel
theorem dX6_stageFor_34 : decode cX6_stageFor 34 = .ok (.iload_n 1, 1) := by decide +kernel
theorem dX6_stageFor_35 : decode cX6_stageFor 35 = .ok (.imul, 1) := by decide +kernel
theorem dX6_stageFor_36 : decode cX6_stageFor 36 = .ok (.iaload, 1) := by decide +kernel
theorem dX6_stageFor_37 : decode cX6_stageFor 37 = .ok (.istore 4, 2) := by decide +kernel
theorem dX6_stageFor_39 : decode cX6_stageFor 39 = .ok (.aload_n 0, 1) := by decide +kernel
theorem dX6_stageFor_40 : decode cX6_stageFor 40 = .ok (.iload_n 1, 1) := by decide +kernel
theorem dX6_stageFor_41 : decode cX6_stageFor 41 = .ok (.iload 4, 2) := by decide +kernel
theorem dX6_stageFor_43 : decode cX6_stageFor 43 = .ok (.invokevirtual 90, 3) := by decide +kernel
theorem dX6_stageFor_46 : decode cX6_stageFor 46 = .ok (.iload_n 2, 1) := by decide +kernel
theorem dX6_stageFor_47 : decode cX6_stageFor 47 = .ok (.i2l, 1) := by decide +kernel
theorem dX6_stageFor_48 : decode cX6_stageFor 48 = .ok (.lcmp, 1) := by decide +kernel
theorem dX6_stageFor_49 : decode cX6_stageFor 49 = .ok (.ifCond .ge 9, 3) := by decide +kernel
theorem dX6_stageFor_52 : decode cX6_stageFor 52 = .ok (.iinc 4 1, 3) := by decide +kernel
theorem dX6_stageFor_55 : decode cX6_stageFor 55 = .ok (.goto (-16), 3) := by decide +kernel
theorem dX6_stageFor_58 : decode cX6_stageFor 58 = .ok (.iload 4, 2) := by decide +kernel
theorem dX6_stageFor_60 : decode cX6_stageFor 60 = .ok (.ireturn, 1) := by decide +kernel
set_option maxRecDepth 20000 in
theorem ggX6_why_X6_isCurve : GoodIn wsX6_why wsX6_isCurve := goodIn_r _ [5, 6, 7, 8, 4, 9, 15, 16, 17, 18, 19, 20, 21, 22, 23, 24, 25, 26, 27, 28, 29, 30, 31, 32, 33] (by decide +kernel) (by decide +kernel)
set_option maxRecDepth 20000 in
theorem gX6_why_X6_isCurve : GoodIn wsX6_why (wsV RX6 81 RX6 yX6_isCurve wsX6_isCurve) := goodIn_app (goodIn_of _ (by decide +kernel)) ggX6_why_X6_isCurve
set_option maxRecDepth 20000 in
theorem ggX6_why_X6_isComplete : GoodIn wsX6_why wsX6_isComplete := goodIn_r _ [13, 14, 15, 16, 17, 18, 19, 20, 21, 22, 23, 24, 25, 26, 27, 28, 29, 30, 31, 32, 33] (by decide +kernel) (by decide +kernel)
set_option maxRecDepth 20000 in
theorem gX6_why_X6_isComplete : GoodIn wsX6_why (wsV RX6 94 RX6 yX6_isComplete wsX6_isComplete) := goodIn_app (goodIn_of _ (by decide +kernel)) ggX6_why_X6_isComplete
theorem dX6_why_0 : decode cX6_why 0 = .ok (.aload_n 0, 1) := by decide +kernel
theorem dX6_why_1 : decode cX6_why 1 = .ok (.iload_n 1, 1) := by decide +kernel
theorem dX6_why_2 : decode cX6_why 2 = .ok (.invokevirtual 81, 3) := by decide +kernel
theorem dX6_why_5 : decode cX6_why 5 = .ok (.ifCond .ne 7, 3) := by decide +kernel
theorem dX6_why_8 : decode cX6_why 8 = .ok (.iconst 1, 1) := by decide +kernel
theorem dX6_why_9 : decode cX6_why 9 = .ok (.goto 24, 3) := by decide +kernel
theorem dX6_why_12 : decode cX6_why 12 = .ok (.iload_n 2, 1) := by decide +kernel
theorem dX6_why_13 : decode cX6_why 13 = .ok (.ifCond .ne 7, 3) := by decide +kernel
theorem dX6_why_16 : decode cX6_why 16 = .ok (.iconst 2, 1) := by decide +kernel
theorem dX6_why_17 : decode cX6_why 17 = .ok (.goto 16, 3) := by decide +kernel
theorem dX6_why_20 : decode cX6_why 20 = .ok (.aload_n 0, 1) := by decide +kernel
theorem dX6_why_21 : decode cX6_why 21 = .ok (.iload_n 1, 1) := by decide +kernel
theorem dX6_why_22 : decode cX6_why 22 = .ok (.invokevirtual 94, 3) := by decide +kernel
theorem dX6_why_25 : decode cX6_why 25 = .ok (.ifCond .ne 7, 3) := by decide +kernel
theorem dX6_why_28 : decode cX6_why 28 = .ok (.iconst 3, 1) := by decide +kernel
theorem dX6_why_29 : decode cX6_why 29 = .ok (.goto 4, 3) := by decide +kernel
theorem dX6_why_32 : decode cX6_why 32 = .ok (.iconst 0, 1) := by decide +kernel
theorem dX6_why_33 : decode cX6_why 33 = .ok (.ireturn, 1) := by decide +kernel
set_option maxRecDepth 20000 in
theorem ggX6_flowBy_X6_isIn : GoodIn wsX6_flowBy wsX6_isIn := goodIn_r _ [7] (by decide +kernel) (by decide +kernel)
set_option maxRecDepth 20000 in
theorem gX6_flowBy_X6_isIn : GoodIn wsX6_flowBy (va_wsS RX6 60 yX6_isIn wsX6_isIn) := goodIn_app (goodIn_of _ (by decide +kernel)) ggX6_flowBy_X6_isIn
set_option maxRecDepth 20000 in
theorem ggX6_flowBy_X6_why : GoodIn wsX6_flowBy wsX6_why := goodIn_r _ [11, 12, 13, 14, 6, 15, 16, 4, 5, 7, 17, 18, 19, 20, 21, 28, 29, 30, 31, 32, 33, 34, 35, 36, 37, 38, 39, 40, 41, 42, 43, 44, 45, 46] (by decide +kernel) (by decide +kernel)
set_option maxRecDepth 20000 in
theorem gX6_flowBy_X6_why : GoodIn wsX6_flowBy (wsV RX6 101 RX6 yX6_why wsX6_why) := goodIn_app (goodIn_of _ (by decide +kernel)) ggX6_flowBy_X6_why
set_option maxRecDepth 20000 in
theorem ggX6_flowBy_X6_flowFor : GoodIn wsX6_flowBy wsX6_flowFor := goodIn_r _ [25, 21, 26, 27, 28, 29, 30, 31, 32, 33, 34, 35, 36, 37, 38, 39, 40, 41, 42, 43, 44, 45, 46] (by decide +kernel) (by decide +kernel)
set_option maxRecDepth 20000 in
theorem gX6_flowBy_X6_flowFor : GoodIn wsX6_flowBy (wsV RX6 90 RX6 yX6_flowFor wsX6_flowFor) := goodIn_app (goodIn_of _ (by decide +kernel)) ggX6_flowBy_X6_flowFor
theorem dX6_flowBy_0 : decode cX6_flowBy 0 = .ok (.aload_n 0, 1) := by decide +kernel
theorem dX6_flowBy_1 : decode cX6_flowBy 1 = .ok (.aload_n 0, 1) := by decide +kernel
theorem dX6_flowBy_2 : decode cX6_flowBy 2 = .ok (.iload_n 1, 1) := by decide +kernel
theorem dX6_flowBy_3 : decode cX6_flowBy 3 = .ok (.iload_n 2, 1) := by decide +kernel
theorem dX6_flowBy_4 : decode cX6_flowBy 4 = .ok (.i2l, 1) := by decide +kernel
theorem dX6_flowBy_5 : decode cX6_flowBy 5 = .ok (.ldc2_w 97, 3) := by decide +kernel
theorem dX6_flowBy_8 : decode cX6_flowBy 8 = .ok (.ldc2_w 99, 3) := by decide +kernel
theorem dX6_flowBy_11 : decode cX6_flowBy 11 = .ok (.invokestatic 60, 3) := by decide +kernel
theorem dX6_flowBy_14 : decode cX6_flowBy 14 = .ok (.invokevirtual 101, 3) := by decide +kernel
theorem dX6_flowBy_17 : decode cX6_flowBy 17 = .ok (.putfield 55, 3) := by decide +kernel
theorem dX6_flowBy_20 : decode cX6_flowBy 20 = .ok (.aload_n 0, 1) := by decide +kernel
theorem dX6_flowBy_21 : decode cX6_flowBy 21 = .ok (.getfield 55, 3) := by decide +kernel
theorem dX6_flowBy_24 : decode cX6_flowBy 24 = .ok (.ifCond .ne 12, 3) := by decide +kernel
theorem dX6_flowBy_27 : decode cX6_flowBy 27 = .ok (.aload_n 0, 1) := by decide +kernel
theorem dX6_flowBy_28 : decode cX6_flowBy 28 = .ok (.iload_n 1, 1) := by decide +kernel
theorem dX6_flowBy_29 : decode cX6_flowBy 29 = .ok (.iload_n 2, 1) := by decide +kernel
theorem dX6_flowBy_30 : decode cX6_flowBy 30 = .ok (.invokevirtual 90, 3) := by decide +kernel
theorem dX6_flowBy_33 : decode cX6_flowBy 33 = .ok (.goto 4, 3) := by decide +kernel
theorem dX6_flowBy_36 : decode cX6_flowBy 36 = .ok (.lconst 0, 1) := by decide +kernel
theorem dX6_flowBy_37 : decode cX6_flowBy 37 = .ok (.lreturn, 1) := by decide +kernel
set_option maxRecDepth 20000 in
theorem ggX6_stageBy_X6_isIn : GoodIn wsX6_stageBy wsX6_isIn := goodIn_r _ [6] (by decide +kernel) (by decide +kernel)
set_option maxRecDepth 20000 in
theorem gX6_stageBy_X6_isIn : GoodIn wsX6_stageBy (va_wsS RX6 60 yX6_isIn wsX6_isIn) := goodIn_app (goodIn_of _ (by decide +kernel)) ggX6_stageBy_X6_isIn
set_option maxRecDepth 20000 in
theorem ggX6_stageBy_X6_why : GoodIn wsX6_stageBy wsX6_why := goodIn_r _ [10, 11, 12, 13, 5, 14, 15, 3, 4, 6, 16, 17, 18, 19, 20, 31, 32, 33, 34, 35, 36, 37, 38, 39, 40, 41, 42, 43, 44, 45, 46, 47, 48, 49] (by decide +kernel) (by decide +kernel)
set_option maxRecDepth 20000 in
theorem gX6_stageBy_X6_why : GoodIn wsX6_stageBy (wsV RX6 101 RX6 yX6_why wsX6_why) := goodIn_app (goodIn_of _ (by decide +kernel)) ggX6_stageBy_X6_why
set_option maxRecDepth 20000 in
theorem ggX6_stageBy_X6_stageFor : GoodIn wsX6_stageBy wsX6_stageFor := goodIn_r _ [24, 20, 25, 26, 27, 28, 29, 5, 30, 31, 32, 33, 34, 35, 36, 37, 38, 39, 40, 41, 42, 43, 44, 45, 46, 47, 48, 49] (by decide +kernel) (by decide +kernel)
set_option maxRecDepth 20000 in
theorem gX6_stageBy_X6_stageFor : GoodIn wsX6_stageBy (wsV RX6 105 RX6 yX6_stageFor wsX6_stageFor) := goodIn_app (goodIn_of _ (by decide +kernel)) ggX6_stageBy_X6_stageFor
theorem dX6_stageBy_0 : decode cX6_stageBy 0 = .ok (.aload_n 0, 1) := by decide +kernel
theorem dX6_stageBy_1 : decode cX6_stageBy 1 = .ok (.aload_n 0, 1) := by decide +kernel
theorem dX6_stageBy_2 : decode cX6_stageBy 2 = .ok (.iload_n 1, 1) := by decide +kernel
theorem dX6_stageBy_3 : decode cX6_stageBy 3 = .ok (.iload_n 2, 1) := by decide +kernel
theorem dX6_stageBy_4 : decode cX6_stageBy 4 = .ok (.i2l, 1) := by decide +kernel
theorem dX6_stageBy_5 : decode cX6_stageBy 5 = .ok (.lconst 0, 1) := by decide +kernel
theorem dX6_stageBy_6 : decode cX6_stageBy 6 = .ok (.ldc2_w 88, 3) := by decide +kernel
theorem dX6_stageBy_9 : decode cX6_stageBy 9 = .ok (.invokestatic 60, 3) := by decide +kernel
theorem dX6_stageBy_12 : decode cX6_stageBy 12 = .ok (.invokevirtual 101, 3) := by decide +kernel
theorem dX6_stageBy_15 : decode cX6_stageBy 15 = .ok (.putfield 55, 3) := by decide +kernel
theorem dX6_stageBy_18 : decode cX6_stageBy 18 = .ok (.aload_n 0, 1) := by decide +kernel
theorem dX6_stageBy_19 : decode cX6_stageBy 19 = .ok (.getfield 55, 3) := by decide +kernel
theorem dX6_stageBy_22 : decode cX6_stageBy 22 = .ok (.ifCond .ne 12, 3) := by decide +kernel
theorem dX6_stageBy_25 : decode cX6_stageBy 25 = .ok (.aload_n 0, 1) := by decide +kernel
theorem dX6_stageBy_26 : decode cX6_stageBy 26 = .ok (.iload_n 1, 1) := by decide +kernel
theorem dX6_stageBy_27 : decode cX6_stageBy 27 = .ok (.iload_n 2, 1) := by decide +kernel
theorem dX6_stageBy_28 : decode cX6_stageBy 28 = .ok (.invokevirtual 105, 3) := by decide +kernel
theorem dX6_stageBy_31 : decode cX6_stageBy 31 = .ok (.goto 4, 3) := by decide +kernel
theorem dX6_stageBy_34 : decode cX6_stageBy 34 = .ok (.iconst 0, 1) := by decide +kernel
theorem dX6_stageBy_35 : decode cX6_stageBy 35 = .ok (.ireturn, 1) := by decide +kernel
theorem dX6_curveAt_0 : decode cX6_curveAt 0 = .ok (.iconst (-1), 1) := by decide +kernel
theorem dX6_curveAt_1 : decode cX6_curveAt 1 = .ok (.istore_n 2, 1) := by decide +kernel
theorem dX6_curveAt_2 : decode cX6_curveAt 2 = .ok (.iconst 0, 1) := by decide +kernel
theorem dX6_curveAt_3 : decode cX6_curveAt 3 = .ok (.istore_n 3, 1) := by decide +kernel
theorem dX6_curveAt_4 : decode cX6_curveAt 4 = .ok (.iload_n 3, 1) := by decide +kernel
theorem dX6_curveAt_5 : decode cX6_curveAt 5 = .ok (.aload_n 0, 1) := by decide +kernel
theorem dX6_curveAt_6 : decode cX6_curveAt 6 = .ok (.getfield 64, 3) := by decide +kernel
theorem dX6_curveAt_9 : decode cX6_curveAt 9 = .ok (.if_icmp .ge 41, 3) := by decide +kernel
theorem dX6_curveAt_12 : decode cX6_curveAt 12 = .ok (.aload_n 0, 1) := by decide +kernel
theorem dX6_curveAt_13 : decode cX6_curveAt 13 = .ok (.getfield 9, 3) := by decide +kernel
theorem dX6_curveAt_16 : decode cX6_curveAt 16 = .ok (.iload_n 3, 1) := by decide +kernel
theorem dX6_curveAt_17 : decode cX6_curveAt 17 = .ok (.iaload, 1) := by decide +kernel
theorem dX6_curveAt_18 : decode cX6_curveAt 18 = .ok (.iload_n 1, 1) := by decide +kernel
theorem dX6_curveAt_19 : decode cX6_curveAt 19 = .ok (.if_icmp .gt 25, 3) := by decide +kernel
theorem dX6_curveAt_22 : decode cX6_curveAt 22 = .ok (.iload_n 2, 1) := by decide +kernel
theorem dX6_curveAt_23 : decode cX6_curveAt 23 = .ok (.iconst (-1), 1) := by decide +kernel
theorem dX6_curveAt_24 : decode cX6_curveAt 24 = .ok (.if_icmp .eq 18, 3) := by decide +kernel
theorem dX6_curveAt_27 : decode cX6_curveAt 27 = .ok (.aload_n 0, 1) := by decide +kernel
theorem dX6_curveAt_28 : decode cX6_curveAt 28 = .ok (.getfield 9, 3) := by decide +kernel
theorem dX6_curveAt_31 : decode cX6_curveAt 31 = .ok (.iload_n 3, 1) := by decide +kernel
theorem dX6_curveAt_32 : decode cX6_curveAt 32 = .ok (.iaload, 1) := by decide +kernel
theorem dX6_curveAt_33 : decode cX6_curveAt 33 = .ok (.aload_n 0, 1) := by decide +kernel
theorem dX6_curveAt_34 : decode cX6_curveAt 34 = .ok (.getfield 9, 3) := by decide +kernel
theorem dX6_curveAt_37 : decode cX6_curveAt 37 = .ok (.iload_n 2, 1) := by decide +kernel
theorem dX6_curveAt_38 : decode cX6_curveAt 38 = .ok (.iaload, 1) := by decide +kernel
theorem dX6_curveAt_39 : decode cX6_curveAt 39 = .ok (.if_icmp .le 5, 3) := by decide +kernel
theorem dX6_curveAt_42 : decode cX6_curveAt 42 = .ok (.iload_n 3, 1) := by decide +kernel
theorem dX6_curveAt_43 : decode cX6_curveAt 43 = .ok (.istore_n 2, 1) := by decide +kernel
theorem dX6_curveAt_44 : decode cX6_curveAt 44 = .ok (.iinc 3 1, 3) := by decide +kernel
theorem dX6_curveAt_47 : decode cX6_curveAt 47 = .ok (.goto (-43), 3) := by decide +kernel
theorem dX6_curveAt_50 : decode cX6_curveAt 50 = .ok (.iload_n 2, 1) := by decide +kernel
theorem dX6_curveAt_51 : decode cX6_curveAt 51 = .ok (.ireturn, 1) := by decide +kernel
set_option maxRecDepth 20000 in
theorem ggX6_curveOf_X6_isDay : GoodIn wsX6_curveOf wsX6_isDay := goodIn_r _ [5, 6, 7, 8, 4, 9] (by decide +kernel) (by decide +kernel)
set_option maxRecDepth 20000 in
theorem gX6_curveOf_X6_isDay : GoodIn wsX6_curveOf (va_wsS RX6 67 yX6_isDay wsX6_isDay) := goodIn_app (goodIn_of _ (by decide +kernel)) ggX6_curveOf_X6_isDay
set_option maxRecDepth 20000 in
theorem ggX6_curveOf_X6_curveAt : GoodIn wsX6_curveOf wsX6_curveAt := goodIn_r _ [13, 14, 15, 20, 21, 22, 23, 24, 25, 26, 27, 28, 29, 30, 31, 32, 33, 34, 35, 36, 37, 38] (by decide +kernel) (by decide +kernel)
set_option maxRecDepth 20000 in
theorem gX6_curveOf_X6_curveAt : GoodIn wsX6_curveOf (wsV RX6 109 RX6 yX6_curveAt wsX6_curveAt) := goodIn_app (goodIn_of _ (by decide +kernel)) ggX6_curveOf_X6_curveAt
set_option maxRecDepth 20000 in
theorem ggX6_curveOf_X6_fail : GoodIn wsX6_curveOf wsX6_fail := goodIn_r _ [19, 1, 20, 21, 22, 23, 24, 25, 26, 27, 28, 29, 30, 31, 32, 33, 34, 35, 36, 37, 38] (by decide +kernel) (by decide +kernel)
set_option maxRecDepth 20000 in
theorem gX6_curveOf_X6_fail : GoodIn wsX6_curveOf (wsV RX6 73 RX6 yX6_fail wsX6_fail) := goodIn_app (goodIn_of _ (by decide +kernel)) ggX6_curveOf_X6_fail
theorem dX6_curveOf_0 : decode cX6_curveOf 0 = .ok (.aload_n 0, 1) := by decide +kernel
theorem dX6_curveOf_1 : decode cX6_curveOf 1 = .ok (.iconst 0, 1) := by decide +kernel
theorem dX6_curveOf_2 : decode cX6_curveOf 2 = .ok (.putfield 55, 3) := by decide +kernel
theorem dX6_curveOf_5 : decode cX6_curveOf 5 = .ok (.iload_n 1, 1) := by decide +kernel
theorem dX6_curveOf_6 : decode cX6_curveOf 6 = .ok (.invokestatic 67, 3) := by decide +kernel
theorem dX6_curveOf_9 : decode cX6_curveOf 9 = .ok (.ifCond .eq 11, 3) := by decide +kernel
theorem dX6_curveOf_12 : decode cX6_curveOf 12 = .ok (.aload_n 0, 1) := by decide +kernel
theorem dX6_curveOf_13 : decode cX6_curveOf 13 = .ok (.iload_n 1, 1) := by decide +kernel
theorem dX6_curveOf_14 : decode cX6_curveOf 14 = .ok (.invokevirtual 109, 3) := by decide +kernel
theorem dX6_curveOf_17 : decode cX6_curveOf 17 = .ok (.goto 8, 3) := by decide +kernel
theorem dX6_curveOf_20 : decode cX6_curveOf 20 = .ok (.aload_n 0, 1) := by decide +kernel
theorem dX6_curveOf_21 : decode cX6_curveOf 21 = .ok (.iconst 1, 1) := by decide +kernel
theorem dX6_curveOf_22 : decode cX6_curveOf 22 = .ok (.invokevirtual 73, 3) := by decide +kernel
theorem dX6_curveOf_25 : decode cX6_curveOf 25 = .ok (.ireturn, 1) := by decide +kernel
theorem dX6_shiftAt_0 : decode cX6_shiftAt 0 = .ok (.iload_n 1, 1) := by decide +kernel
theorem dX6_shiftAt_1 : decode cX6_shiftAt 1 = .ok (.istore_n 2, 1) := by decide +kernel
theorem dX6_shiftAt_2 : decode cX6_shiftAt 2 = .ok (.iload_n 2, 1) := by decide +kernel
theorem dX6_shiftAt_3 : decode cX6_shiftAt 3 = .ok (.ifCond .lt 18, 3) := by decide +kernel
theorem dX6_shiftAt_6 : decode cX6_shiftAt 6 = .ok (.aload_n 0, 1) := by decide +kernel
theorem dX6_shiftAt_7 : decode cX6_shiftAt 7 = .ok (.getfield 22, 3) := by decide +kernel
theorem dX6_shiftAt_10 : decode cX6_shiftAt 10 = .ok (.iload_n 2, 1) := by decide +kernel
theorem dX6_shiftAt_11 : decode cX6_shiftAt 11 = .ok (.baload, 1) := by decide +kernel
theorem dX6_shiftAt_12 : decode cX6_shiftAt 12 = .ok (.ifCond .ne 9, 3) := by decide +kernel
theorem dX6_shiftAt_15 : decode cX6_shiftAt 15 = .ok (.iinc 2 (-1), 3) := by decide +kernel
theorem dX6_shiftAt_18 : decode cX6_shiftAt 18 = .ok (.goto (-16), 3) := by decide +kernel
theorem dX6_shiftAt_21 : decode cX6_shiftAt 21 = .ok (.iload_n 1, 1) := by decide +kernel
theorem dX6_shiftAt_22 : decode cX6_shiftAt 22 = .ok (.istore_n 3, 1) := by decide +kernel
theorem dX6_shiftAt_23 : decode cX6_shiftAt 23 = .ok (.iload_n 3, 1) := by decide +kernel
theorem dX6_shiftAt_24 : decode cX6_shiftAt 24 = .ok (.sipush 400, 3) := by decide +kernel
theorem dX6_shiftAt_27 : decode cX6_shiftAt 27 = .ok (.if_icmp .ge 18, 3) := by decide +kernel
theorem dX6_shiftAt_30 : decode cX6_shiftAt 30 = .ok (.aload_n 0, 1) := by decide +kernel
theorem dX6_shiftAt_31 : decode cX6_shiftAt 31 = .ok (.getfield 22, 3) := by decide +kernel
theorem dX6_shiftAt_34 : decode cX6_shiftAt 34 = .ok (.iload_n 3, 1) := by decide +kernel
theorem dX6_shiftAt_35 : decode cX6_shiftAt 35 = .ok (.baload, 1) := by decide +kernel
theorem dX6_shiftAt_36 : decode cX6_shiftAt 36 = .ok (.ifCond .ne 9, 3) := by decide +kernel
theorem dX6_shiftAt_39 : decode cX6_shiftAt 39 = .ok (.iinc 3 1, 3) := by decide +kernel
theorem dX6_shiftAt_42 : decode cX6_shiftAt 42 = .ok (.goto (-19), 3) := by decide +kernel
theorem dX6_shiftAt_45 : decode cX6_shiftAt 45 = .ok (.iload_n 2, 1) := by decide +kernel
theorem dX6_shiftAt_46 : decode cX6_shiftAt 46 = .ok (.ifCond .ge 21, 3) := by decide +kernel
theorem dX6_shiftAt_49 : decode cX6_shiftAt 49 = .ok (.iload_n 3, 1) := by decide +kernel
theorem dX6_shiftAt_50 : decode cX6_shiftAt 50 = .ok (.sipush 400, 3) := by decide +kernel
theorem dX6_shiftAt_53 : decode cX6_shiftAt 53 = .ok (.if_icmp .ne 7, 3) := by decide +kernel
theorem dX6_shiftAt_56 : decode cX6_shiftAt 56 = .ok (.iconst 0, 1) := by decide +kernel
theorem dX6_shiftAt_57 : decode cX6_shiftAt 57 = .ok (.goto 9, 3) := by decide +kernel
theorem dX6_shiftAt_60 : decode cX6_shiftAt 60 = .ok (.aload_n 0, 1) := by decide +kernel
theorem dX6_shiftAt_61 : decode cX6_shiftAt 61 = .ok (.getfield 26, 3) := by decide +kernel
theorem dX6_shiftAt_64 : decode cX6_shiftAt 64 = .ok (.iload_n 3, 1) := by decide +kernel
theorem dX6_shiftAt_65 : decode cX6_shiftAt 65 = .ok (.iaload, 1) := by decide +kernel
theorem dX6_shiftAt_66 : decode cX6_shiftAt 66 = .ok (.ireturn, 1) := by decide +kernel
theorem dX6_shiftAt_67 : decode cX6_shiftAt 67 = .ok (.iload_n 3, 1) := by decide +kernel
theorem dX6_shiftAt_68 : decode cX6_shiftAt 68 = .ok (.sipush 400, 3) := by decide +kernel
theorem dX6_shiftAt_71 : decode cX6_shiftAt 71 = .ok (.if_icmp .eq 8, 3) := by decide +kernel
theorem dX6_shiftAt_74 : decode cX6_shiftAt 74 = .ok (.iload_n 3, 1) := by decide +kernel
theorem dX6_shiftAt_75 : decode cX6_shiftAt 75 = .ok (.iload_n 2, 1) := by decide +kernel
theorem dX6_shiftAt_76 : decode cX6_shiftAt 76 = .ok (.if_icmp .ne 10, 3) := by decide +kernel
theorem dX6_shiftAt_79 : decode cX6_shiftAt 79 = .ok (.aload_n 0, 1) := by decide +kernel
theorem dX6_shiftAt_80 : decode cX6_shiftAt 80 = .ok (.getfield 26, 3) := by decide +kernel
theorem dX6_shiftAt_83 : decode cX6_shiftAt 83 = .ok (.iload_n 2, 1) := by decide +kernel
theorem dX6_shiftAt_84 : decode cX6_shiftAt 84 = .ok (.iaload, 1) := by decide +kernel
theorem dX6_shiftAt_85 : decode cX6_shiftAt 85 = .ok (.ireturn, 1) := by decide +kernel
theorem dX6_shiftAt_86 : decode cX6_shiftAt 86 = .ok (.aload_n 0, 1) := by decide +kernel
theorem dX6_shiftAt_87 : decode cX6_shiftAt 87 = .ok (.getfield 26, 3) := by decide +kernel
theorem dX6_shiftAt_90 : decode cX6_shiftAt 90 = .ok (.iload_n 2, 1) := by decide +kernel
theorem dX6_shiftAt_91 : decode cX6_shiftAt 91 = .ok (.iaload, 1) := by decide +kernel
theorem dX6_shiftAt_92 : decode cX6_shiftAt 92 = .ok (.aload_n 0, 1) := by decide +kernel
theorem dX6_shiftAt_93 : decode cX6_shiftAt 93 = .ok (.getfield 26, 3) := by decide +kernel
theorem dX6_shiftAt_96 : decode cX6_shiftAt 96 = .ok (.iload_n 3, 1) := by decide +kernel
theorem dX6_shiftAt_97 : decode cX6_shiftAt 97 = .ok (.iaload, 1) := by decide +kernel
theorem dX6_shiftAt_98 : decode cX6_shiftAt 98 = .ok (.aload_n 0, 1) := by decide +kernel
theorem dX6_shiftAt_99 : decode cX6_shiftAt 99 = .ok (.getfield 26, 3) := by decide +kernel
theorem dX6_shiftAt_102 : decode cX6_shiftAt 102 = .ok (.iload_n 2, 1) := by decide +kernel
theorem dX6_shiftAt_103 : decode cX6_shiftAt 103 = .ok (.iaload, 1) := by decide +kernel
theorem dX6_shiftAt_104 : decode cX6_shiftAt 104 = .ok (.isub, 1) := by decide +kernel
theorem dX6_shiftAt_105 : decode cX6_shiftAt 105 = .ok (.iload_n 1, 1) := by decide +kernel
theorem dX6_shiftAt_106 : decode cX6_shiftAt 106 = .ok (.iload_n 2, 1) := by decide +kernel
theorem dX6_shiftAt_107 : decode cX6_shiftAt 107 = .ok (.isub, 1) := by decide +kernel
theorem dX6_shiftAt_108 : decode cX6_shiftAt 108 = .ok (.imul, 1) := by decide +kernel
theorem dX6_shiftAt_109 : decode cX6_shiftAt 109 = .ok (.iload_n 3, 1) := by decide +kernel
theorem dX6_shiftAt_110 : decode cX6_shiftAt 110 = .ok (.iload_n 2, 1) := by decide +kernel
theorem dX6_shiftAt_111 : decode cX6_shiftAt 111 = .ok (.isub, 1) := by decide +kernel
theorem dX6_shiftAt_112 : decode cX6_shiftAt 112 = .ok (.idiv, 1) := by decide +kernel
theorem dX6_shiftAt_113 : decode cX6_shiftAt 113 = .ok (.iadd, 1) := by decide +kernel
theorem dX6_shiftAt_114 : decode cX6_shiftAt 114 = .ok (.ireturn, 1) := by decide +kernel
set_option maxRecDepth 20000 in
theorem ggX6_setShift_X6_isDay : GoodIn wsX6_setShift wsX6_isDay := goodIn_r _ [11, 12, 13, 14, 10, 15] (by decide +kernel) (by decide +kernel)
set_option maxRecDepth 20000 in
theorem gX6_setShift_X6_isDay : GoodIn wsX6_setShift (va_wsS RX6 67 yX6_isDay wsX6_isDay) := goodIn_app (goodIn_of _ (by decide +kernel)) ggX6_setShift_X6_isDay
set_option maxRecDepth 20000 in
theorem ggX6_setShift_X6_isIn : GoodIn wsX6_setShift wsX6_isIn := goodIn_r _ [15] (by decide +kernel) (by decide +kernel)
set_option maxRecDepth 20000 in
theorem gX6_setShift_X6_isIn : GoodIn wsX6_setShift (va_wsS RX6 60 yX6_isIn wsX6_isIn) := goodIn_app (goodIn_of _ (by decide +kernel)) ggX6_setShift_X6_isIn
set_option maxRecDepth 20000 in
theorem ggX6_setShift_X6_fail : GoodIn wsX6_setShift wsX6_fail := goodIn_r _ [19, 1, 24, 25, 26, 27, 28, 29, 30, 31, 32, 33, 34, 35, 36, 37, 38, 39, 40, 41, 42] (by decide +kernel) (by decide +kernel)
set_option maxRecDepth 20000 in
theorem gX6_setShift_X6_fail : GoodIn wsX6_setShift (wsV RX6 73 RX6 yX6_fail wsX6_fail) := goodIn_app (goodIn_of _ (by decide +kernel)) ggX6_setShift_X6_fail
set_option maxRecDepth 20000 in
theorem ggX6_setShift_X6_shiftAt : GoodIn wsX6_setShift wsX6_shiftAt := goodIn_r _ [23, 4, 6, 24, 25, 26, 27, 28, 29, 30, 31, 32, 33, 34, 35, 36, 37, 38, 39, 40, 41, 42] (by decide +kernel) (by decide +kernel)
set_option maxRecDepth 20000 in
theorem gX6_setShift_X6_shiftAt : GoodIn wsX6_setShift (wsV RX6 119 RX6 yX6_shiftAt wsX6_shiftAt) := goodIn_app (goodIn_of _ (by decide +kernel)) ggX6_setShift_X6_shiftAt
theorem dX6_setShift_0 : decode cX6_setShift 0 = .ok (.aload_n 0, 1) := by decide +kernel
theorem dX6_setShift_1 : decode cX6_setShift 1 = .ok (.iconst 0, 1) := by decide +kernel
theorem dX6_setShift_2 : decode cX6_setShift 2 = .ok (.putfield 55, 3) := by decide +kernel
theorem dX6_setShift_5 : decode cX6_setShift 5 = .ok (.iload_n 1, 1) := by decide +kernel
theorem dX6_setShift_6 : decode cX6_setShift 6 = .ok (.invokestatic 67, 3) := by decide +kernel
theorem dX6_setShift_9 : decode cX6_setShift 9 = .ok (.ifCond .eq 17, 3) := by decide +kernel
theorem dX6_setShift_12 : decode cX6_setShift 12 = .ok (.iload_n 2, 1) := by decide +kernel
theorem dX6_setShift_13 : decode cX6_setShift 13 = .ok (.i2l, 1) := by decide +kernel
theorem dX6_setShift_14 : decode cX6_setShift 14 = .ok (.ldc2_w 112, 3) := by decide +kernel
theorem dX6_setShift_17 : decode cX6_setShift 17 = .ok (.ldc2_w 114, 3) := by decide +kernel
theorem dX6_setShift_20 : decode cX6_setShift 20 = .ok (.invokestatic 60, 3) := by decide +kernel
theorem dX6_setShift_23 : decode cX6_setShift 23 = .ok (.ifCond .ne 9, 3) := by decide +kernel
theorem dX6_setShift_26 : decode cX6_setShift 26 = .ok (.aload_n 0, 1) := by decide +kernel
theorem dX6_setShift_27 : decode cX6_setShift 27 = .ok (.iconst 1, 1) := by decide +kernel
theorem dX6_setShift_28 : decode cX6_setShift 28 = .ok (.invokevirtual 73, 3) := by decide +kernel
theorem dX6_setShift_31 : decode cX6_setShift 31 = .ok (.ireturn, 1) := by decide +kernel
theorem dX6_setShift_32 : decode cX6_setShift 32 = .ok (.aload_n 0, 1) := by decide +kernel
theorem dX6_setShift_33 : decode cX6_setShift 33 = .ok (.getfield 22, 3) := by decide +kernel
theorem dX6_setShift_36 : decode cX6_setShift 36 = .ok (.iload_n 1, 1) := by decide +kernel
theorem dX6_setShift_37 : decode cX6_setShift 37 = .ok (.baload, 1) := by decide +kernel
theorem dX6_setShift_38 : decode cX6_setShift 38 = .ok (.ifCond .ne 18, 3) := by decide +kernel
theorem dX6_setShift_41 : decode cX6_setShift 41 = .ok (.aload_n 0, 1) := by decide +kernel
theorem dX6_setShift_42 : decode cX6_setShift 42 = .ok (.getfield 116, 3) := by decide +kernel
theorem dX6_setShift_45 : decode cX6_setShift 45 = .ok (.bipush 20, 2) := by decide +kernel
theorem dX6_setShift_47 : decode cX6_setShift 47 = .ok (.if_icmp .ne 9, 3) := by decide +kernel
theorem dX6_setShift_50 : decode cX6_setShift 50 = .ok (.aload_n 0, 1) := by decide +kernel
theorem dX6_setShift_51 : decode cX6_setShift 51 = .ok (.iconst 2, 1) := by decide +kernel
theorem dX6_setShift_52 : decode cX6_setShift 52 = .ok (.invokevirtual 73, 3) := by decide +kernel
theorem dX6_setShift_55 : decode cX6_setShift 55 = .ok (.ireturn, 1) := by decide +kernel
theorem dX6_setShift_56 : decode cX6_setShift 56 = .ok (.aload_n 0, 1) := by decide +kernel
theorem dX6_setShift_57 : decode cX6_setShift 57 = .ok (.iload_n 1, 1) := by decide +kernel
theorem dX6_setShift_58 : decode cX6_setShift 58 = .ok (.invokevirtual 119, 3) := by decide +kernel
theorem dX6_setShift_61 : decode cX6_setShift 61 = .ok (.istore_n 3, 1) := by decide +kernel
theorem dX6_setShift_62 : decode cX6_setShift 62 = .ok (.aload_n 0, 1) := by decide +kernel
theorem dX6_setShift_63 : decode cX6_setShift 63 = .ok (.getfield 22, 3) := by decide +kernel
theorem dX6_setShift_66 : decode cX6_setShift 66 = .ok (.iload_n 1, 1) := by decide +kernel
theorem dX6_setShift_67 : decode cX6_setShift 67 = .ok (.baload, 1) := by decide +kernel
theorem dX6_setShift_68 : decode cX6_setShift 68 = .ok (.ifCond .ne 13, 3) := by decide +kernel
theorem dX6_setShift_71 : decode cX6_setShift 71 = .ok (.aload_n 0, 1) := by decide +kernel
theorem dX6_setShift_72 : decode cX6_setShift 72 = .ok (.dup, 1) := by decide +kernel
theorem dX6_setShift_73 : decode cX6_setShift 73 = .ok (.getfield 116, 3) := by decide +kernel
theorem dX6_setShift_76 : decode cX6_setShift 76 = .ok (.iconst 1, 1) := by decide +kernel
theorem dX6_setShift_77 : decode cX6_setShift 77 = .ok (.iadd, 1) := by decide +kernel
theorem dX6_setShift_78 : decode cX6_setShift 78 = .ok (.putfield 116, 3) := by decide +kernel
theorem dX6_setShift_81 : decode cX6_setShift 81 = .ok (.aload_n 0, 1) := by decide +kernel
theorem dX6_setShift_82 : decode cX6_setShift 82 = .ok (.getfield 22, 3) := by decide +kernel
theorem dX6_setShift_85 : decode cX6_setShift 85 = .ok (.iload_n 1, 1) := by decide +kernel
theorem dX6_setShift_86 : decode cX6_setShift 86 = .ok (.iconst 1, 1) := by decide +kernel
theorem dX6_setShift_87 : decode cX6_setShift 87 = .ok (.bastore, 1) := by decide +kernel
theorem dX6_setShift_88 : decode cX6_setShift 88 = .ok (.aload_n 0, 1) := by decide +kernel
theorem dX6_setShift_89 : decode cX6_setShift 89 = .ok (.getfield 26, 3) := by decide +kernel
theorem dX6_setShift_92 : decode cX6_setShift 92 = .ok (.iload_n 1, 1) := by decide +kernel
theorem dX6_setShift_93 : decode cX6_setShift 93 = .ok (.iload_n 2, 1) := by decide +kernel
theorem dX6_setShift_94 : decode cX6_setShift 94 = .ok (.iastore, 1) := by decide +kernel
theorem dX6_setShift_95 : decode cX6_setShift 95 = .ok (.aload_n 0, 1) := by decide +kernel
theorem dX6_setShift_96 : decode cX6_setShift 96 = .ok (.iconst 0, 1) := by decide +kernel
theorem dX6_setShift_97 : decode cX6_setShift 97 = .ok (.putfield 77, 3) := by decide +kernel
theorem dX6_setShift_100 : decode cX6_setShift 100 = .ok (.iload_n 3, 1) := by decide +kernel
theorem dX6_setShift_101 : decode cX6_setShift 101 = .ok (.ireturn, 1) := by decide +kernel
set_option maxRecDepth 20000 in
theorem ggX6_shift_X6_isDay : GoodIn wsX6_shift wsX6_isDay := goodIn_r _ [5, 6, 7, 8, 4, 9] (by decide +kernel) (by decide +kernel)
set_option maxRecDepth 20000 in
theorem gX6_shift_X6_isDay : GoodIn wsX6_shift (va_wsS RX6 67 yX6_isDay wsX6_isDay) := goodIn_app (goodIn_of _ (by decide +kernel)) ggX6_shift_X6_isDay
set_option maxRecDepth 20000 in
theorem ggX6_shift_X6_shiftAt : GoodIn wsX6_shift wsX6_shiftAt := goodIn_r _ [13, 14, 15, 20, 21, 22, 23, 24, 25, 26, 27, 28, 29, 30, 31, 32, 33, 34, 35, 36, 37, 38] (by decide +kernel) (by decide +kernel)
set_option maxRecDepth 20000 in
theorem gX6_shift_X6_shiftAt : GoodIn wsX6_shift (wsV RX6 119 RX6 yX6_shiftAt wsX6_shiftAt) := goodIn_app (goodIn_of _ (by decide +kernel)) ggX6_shift_X6_shiftAt
set_option maxRecDepth 20000 in
theorem ggX6_shift_X6_fail : GoodIn wsX6_shift wsX6_fail := goodIn_r _ [19, 1, 20, 21, 22, 23, 24, 25, 26, 27, 28, 29, 30, 31, 32, 33, 34, 35, 36, 37, 38] (by decide +kernel) (by decide +kernel)
set_option maxRecDepth 20000 in
theorem gX6_shift_X6_fail : GoodIn wsX6_shift (wsV RX6 73 RX6 yX6_fail wsX6_fail) := goodIn_app (goodIn_of _ (by decide +kernel)) ggX6_shift_X6_fail
theorem dX6_shift_0 : decode cX6_shift 0 = .ok (.aload_n 0, 1) := by decide +kernel
theorem dX6_shift_1 : decode cX6_shift 1 = .ok (.iconst 0, 1) := by decide +kernel
theorem dX6_shift_2 : decode cX6_shift 2 = .ok (.putfield 55, 3) := by decide +kernel
theorem dX6_shift_5 : decode cX6_shift 5 = .ok (.iload_n 1, 1) := by decide +kernel
theorem dX6_shift_6 : decode cX6_shift 6 = .ok (.invokestatic 67, 3) := by decide +kernel
theorem dX6_shift_9 : decode cX6_shift 9 = .ok (.ifCond .eq 11, 3) := by decide +kernel
theorem dX6_shift_12 : decode cX6_shift 12 = .ok (.aload_n 0, 1) := by decide +kernel
theorem dX6_shift_13 : decode cX6_shift 13 = .ok (.iload_n 1, 1) := by decide +kernel
theorem dX6_shift_14 : decode cX6_shift 14 = .ok (.invokevirtual 119, 3) := by decide +kernel
theorem dX6_shift_17 : decode cX6_shift 17 = .ok (.goto 8, 3) := by decide +kernel
theorem dX6_shift_20 : decode cX6_shift 20 = .ok (.aload_n 0, 1) := by decide +kernel
theorem dX6_shift_21 : decode cX6_shift 21 = .ok (.iconst 1, 1) := by decide +kernel
theorem dX6_shift_22 : decode cX6_shift 22 = .ok (.invokevirtual 73, 3) := by decide +kernel
theorem dX6_shift_25 : decode cX6_shift 25 = .ok (.ireturn, 1) := by decide +kernel
set_option maxRecDepth 20000 in
theorem ggX6_read_X6_areDays : GoodIn wsX6_read wsX6_areDays := goodIn_r _ [10, 11, 12, 13, 9, 14, 15, 16, 17, 18] (by decide +kernel) (by decide +kernel)
set_option maxRecDepth 20000 in
theorem gX6_read_X6_areDays : GoodIn wsX6_read (va_wsS RX6 122 yX6_areDays wsX6_areDays) := goodIn_app (goodIn_of _ (by decide +kernel)) ggX6_read_X6_areDays
set_option maxRecDepth 20000 in
theorem ggX6_read_X6_isIn : GoodIn wsX6_read wsX6_isIn := goodIn_r _ [18] (by decide +kernel) (by decide +kernel)
set_option maxRecDepth 20000 in
theorem gX6_read_X6_isIn : GoodIn wsX6_read (va_wsS RX6 60 yX6_isIn wsX6_isIn) := goodIn_app (goodIn_of _ (by decide +kernel)) ggX6_read_X6_isIn
set_option maxRecDepth 20000 in
theorem ggX6_read_X6_fail : GoodIn wsX6_read wsX6_fail := goodIn_r _ [22, 1, 23, 24, 25, 26, 27, 28, 29, 30, 31, 32, 33, 34, 35, 36, 37, 38, 39, 40, 41] (by decide +kernel) (by decide +kernel)
set_option maxRecDepth 20000 in
theorem gX6_read_X6_fail : GoodIn wsX6_read (wsV RX6 73 RX6 yX6_fail wsX6_fail) := goodIn_app (goodIn_of _ (by decide +kernel)) ggX6_read_X6_fail
theorem dX6_read_0 : decode cX6_read 0 = .ok (.aload_n 0, 1) := by decide +kernel
theorem dX6_read_1 : decode cX6_read 1 = .ok (.iconst 0, 1) := by decide +kernel
theorem dX6_read_2 : decode cX6_read 2 = .ok (.putfield 55, 3) := by decide +kernel
theorem dX6_read_5 : decode cX6_read 5 = .ok (.iload_n 1, 1) := by decide +kernel
theorem dX6_read_6 : decode cX6_read 6 = .ok (.iload_n 2, 1) := by decide +kernel
theorem dX6_read_7 : decode cX6_read 7 = .ok (.invokestatic 122, 3) := by decide +kernel
theorem dX6_read_10 : decode cX6_read 10 = .ok (.ifCond .eq 40, 3) := by decide +kernel
theorem dX6_read_13 : decode cX6_read 13 = .ok (.iload_n 3, 1) := by decide +kernel
theorem dX6_read_14 : decode cX6_read 14 = .ok (.i2l, 1) := by decide +kernel
theorem dX6_read_15 : decode cX6_read 15 = .ok (.ldc2_w 84, 3) := by decide +kernel
theorem dX6_read_18 : decode cX6_read 18 = .ok (.ldc2_w 86, 3) := by decide +kernel
theorem dX6_read_21 : decode cX6_read 21 = .ok (.invokestatic 60, 3) := by decide +kernel
theorem dX6_read_24 : decode cX6_read 24 = .ok (.ifCond .eq 26, 3) := by decide +kernel
theorem dX6_read_27 : decode cX6_read 27 = .ok (.iload_n 3, 1) := by decide +kernel
theorem dX6_read_28 : decode cX6_read 28 = .ok (.i2l, 1) := by decide +kernel
theorem dX6_read_29 : decode cX6_read 29 = .ok (.iload 4, 2) := by decide +kernel
theorem dX6_read_31 : decode cX6_read 31 = .ok (.i2l, 1) := by decide +kernel
theorem dX6_read_32 : decode cX6_read 32 = .ok (.iload_n 2, 1) := by decide +kernel
theorem dX6_read_33 : decode cX6_read 33 = .ok (.iconst 1, 1) := by decide +kernel
theorem dX6_read_34 : decode cX6_read 34 = .ok (.isub, 1) := by decide +kernel
theorem dX6_read_35 : decode cX6_read 35 = .ok (.i2l, 1) := by decide +kernel
theorem dX6_read_36 : decode cX6_read 36 = .ok (.lmul, 1) := by decide +kernel
theorem dX6_read_37 : decode cX6_read 37 = .ok (.ladd, 1) := by decide +kernel
theorem dX6_read_38 : decode cX6_read 38 = .ok (.ldc2_w 84, 3) := by decide +kernel
theorem dX6_read_41 : decode cX6_read 41 = .ok (.ldc2_w 86, 3) := by decide +kernel
theorem dX6_read_44 : decode cX6_read 44 = .ok (.invokestatic 60, 3) := by decide +kernel
theorem dX6_read_47 : decode cX6_read 47 = .ok (.ifCond .ne 9, 3) := by decide +kernel
theorem dX6_read_50 : decode cX6_read 50 = .ok (.aload_n 0, 1) := by decide +kernel
theorem dX6_read_51 : decode cX6_read 51 = .ok (.iconst 1, 1) := by decide +kernel
theorem dX6_read_52 : decode cX6_read 52 = .ok (.invokevirtual 73, 3) := by decide +kernel
theorem dX6_read_55 : decode cX6_read 55 = .ok (.ireturn, 1) := by decide +kernel
theorem dX6_read_56 : decode cX6_read 56 = .ok (.iconst 0, 1) := by decide +kernel
theorem dX6_read_57 : decode cX6_read 57 = .ok (.istore 5, 2) := by decide +kernel
theorem dX6_read_59 : decode cX6_read 59 = .ok (.iconst 0, 1) := by decide +kernel
theorem dX6_read_60 : decode cX6_read 60 = .ok (.istore 6, 2) := by decide +kernel
theorem dX6_read_62 : decode cX6_read 62 = .ok (.iload 6, 2) := by decide +kernel
theorem dX6_read_64 : decode cX6_read 64 = .ok (.iload_n 2, 1) := by decide +kernel
theorem dX6_read_65 : decode cX6_read 65 = .ok (.if_icmp .ge 57, 3) := by decide +kernel
theorem dX6_read_68 : decode cX6_read 68 = .ok (.iload 5, 2) := by decide +kernel
theorem dX6_read_70 : decode cX6_read 70 = .ok (.aload_n 0, 1) := by decide +kernel
theorem dX6_read_71 : decode cX6_read 71 = .ok (.getfield 29, 3) := by decide +kernel
theorem dX6_read_74 : decode cX6_read 74 = .ok (.iload_n 1, 1) := by decide +kernel
theorem dX6_read_75 : decode cX6_read 75 = .ok (.iload 6, 2) := by decide +kernel
theorem dX6_read_77 : decode cX6_read 77 = .ok (.iadd, 1) := by decide +kernel
theorem dX6_read_78 : decode cX6_read 78 = .ok (.baload, 1) := by decide +kernel
theorem dX6_read_79 : decode cX6_read 79 = .ok (.ifCond .eq 7, 3) := by decide +kernel
theorem dX6_read_82 : decode cX6_read 82 = .ok (.iconst 1, 1) := by decide +kernel
theorem dX6_read_83 : decode cX6_read 83 = .ok (.goto 4, 3) := by decide +kernel
theorem dX6_read_86 : decode cX6_read 86 = .ok (.iconst 0, 1) := by decide +kernel
theorem dX6_read_87 : decode cX6_read 87 = .ok (.iadd, 1) := by decide +kernel
theorem dX6_read_88 : decode cX6_read 88 = .ok (.istore 5, 2) := by decide +kernel
theorem dX6_read_90 : decode cX6_read 90 = .ok (.aload_n 0, 1) := by decide +kernel
theorem dX6_read_91 : decode cX6_read 91 = .ok (.getfield 29, 3) := by decide +kernel
theorem dX6_read_94 : decode cX6_read 94 = .ok (.iload_n 1, 1) := by decide +kernel
theorem dX6_read_95 : decode cX6_read 95 = .ok (.iload 6, 2) := by decide +kernel
theorem dX6_read_97 : decode cX6_read 97 = .ok (.iadd, 1) := by decide +kernel
theorem dX6_read_98 : decode cX6_read 98 = .ok (.iconst 1, 1) := by decide +kernel
theorem dX6_read_99 : decode cX6_read 99 = .ok (.bastore, 1) := by decide +kernel
theorem dX6_read_100 : decode cX6_read 100 = .ok (.aload_n 0, 1) := by decide +kernel
theorem dX6_read_101 : decode cX6_read 101 = .ok (.getfield 32, 3) := by decide +kernel
theorem dX6_read_104 : decode cX6_read 104 = .ok (.iload_n 1, 1) := by decide +kernel
theorem dX6_read_105 : decode cX6_read 105 = .ok (.iload 6, 2) := by decide +kernel
theorem dX6_read_107 : decode cX6_read 107 = .ok (.iadd, 1) := by decide +kernel
theorem dX6_read_108 : decode cX6_read 108 = .ok (.iload_n 3, 1) := by decide +kernel
theorem dX6_read_109 : decode cX6_read 109 = .ok (.iload 4, 2) := by decide +kernel
theorem dX6_read_111 : decode cX6_read 111 = .ok (.iload 6, 2) := by decide +kernel
theorem dX6_read_113 : decode cX6_read 113 = .ok (.imul, 1) := by decide +kernel
theorem dX6_read_114 : decode cX6_read 114 = .ok (.iadd, 1) := by decide +kernel
theorem dX6_read_115 : decode cX6_read 115 = .ok (.iastore, 1) := by decide +kernel
theorem dX6_read_116 : decode cX6_read 116 = .ok (.iinc 6 1, 3) := by decide +kernel
theorem dX6_read_119 : decode cX6_read 119 = .ok (.goto (-57), 3) := by decide +kernel
theorem dX6_read_122 : decode cX6_read 122 = .ok (.aload_n 0, 1) := by decide +kernel
theorem dX6_read_123 : decode cX6_read 123 = .ok (.iconst 0, 1) := by decide +kernel
theorem dX6_read_124 : decode cX6_read 124 = .ok (.putfield 77, 3) := by decide +kernel
theorem dX6_read_127 : decode cX6_read 127 = .ok (.iload 5, 2) := by decide +kernel
theorem dX6_read_129 : decode cX6_read 129 = .ok (.ireturn, 1) := by decide +kernel
set_option maxRecDepth 20000 in
theorem ggX6_erase_X6_areDays : GoodIn wsX6_erase wsX6_areDays := goodIn_r _ [7, 8, 9, 10, 6, 11, 12, 13, 14, 15] (by decide +kernel) (by decide +kernel)
set_option maxRecDepth 20000 in
theorem gX6_erase_X6_areDays : GoodIn wsX6_erase (va_wsS RX6 122 yX6_areDays wsX6_areDays) := goodIn_app (goodIn_of _ (by decide +kernel)) ggX6_erase_X6_areDays
set_option maxRecDepth 20000 in
theorem ggX6_erase_X6_fail : GoodIn wsX6_erase wsX6_fail := goodIn_r _ [19, 1, 20, 21, 22, 23, 24, 25, 26, 27, 28, 29, 30, 31, 32, 33, 34, 35, 36, 37, 38] (by decide +kernel) (by decide +kernel)
set_option maxRecDepth 20000 in
theorem gX6_erase_X6_fail : GoodIn wsX6_erase (wsV RX6 73 RX6 yX6_fail wsX6_fail) := goodIn_app (goodIn_of _ (by decide +kernel)) ggX6_erase_X6_fail
theorem dX6_erase_0 : decode cX6_erase 0 = .ok (.aload_n 0, 1) := by decide +kernel
theorem dX6_erase_1 : decode cX6_erase 1 = .ok (.iconst 0, 1) := by decide +kernel
theorem dX6_erase_2 : decode cX6_erase 2 = .ok (.putfield 55, 3) := by decide +kernel
theorem dX6_erase_5 : decode cX6_erase 5 = .ok (.iload_n 1, 1) := by decide +kernel
theorem dX6_erase_6 : decode cX6_erase 6 = .ok (.iload_n 2, 1) := by decide +kernel
theorem dX6_erase_7 : decode cX6_erase 7 = .ok (.invokestatic 122, 3) := by decide +kernel
theorem dX6_erase_10 : decode cX6_erase 10 = .ok (.ifCond .ne 9, 3) := by decide +kernel
theorem dX6_erase_13 : decode cX6_erase 13 = .ok (.aload_n 0, 1) := by decide +kernel
theorem dX6_erase_14 : decode cX6_erase 14 = .ok (.iconst 1, 1) := by decide +kernel
theorem dX6_erase_15 : decode cX6_erase 15 = .ok (.invokevirtual 73, 3) := by decide +kernel
theorem dX6_erase_18 : decode cX6_erase 18 = .ok (.ireturn, 1) := by decide +kernel
theorem dX6_erase_19 : decode cX6_erase 19 = .ok (.iconst 0, 1) := by decide +kernel
theorem dX6_erase_20 : decode cX6_erase 20 = .ok (.istore_n 3, 1) := by decide +kernel
theorem dX6_erase_21 : decode cX6_erase 21 = .ok (.iload_n 1, 1) := by decide +kernel
theorem dX6_erase_22 : decode cX6_erase 22 = .ok (.istore 4, 2) := by decide +kernel
theorem dX6_erase_24 : decode cX6_erase 24 = .ok (.iload 4, 2) := by decide +kernel
theorem dX6_erase_26 : decode cX6_erase 26 = .ok (.iload_n 1, 1) := by decide +kernel
theorem dX6_erase_27 : decode cX6_erase 27 = .ok (.iload_n 2, 1) := by decide +kernel
theorem dX6_erase_28 : decode cX6_erase 28 = .ok (.iadd, 1) := by decide +kernel
theorem dX6_erase_29 : decode cX6_erase 29 = .ok (.if_icmp .ge 35, 3) := by decide +kernel
theorem dX6_erase_32 : decode cX6_erase 32 = .ok (.iload_n 3, 1) := by decide +kernel
theorem dX6_erase_33 : decode cX6_erase 33 = .ok (.aload_n 0, 1) := by decide +kernel
theorem dX6_erase_34 : decode cX6_erase 34 = .ok (.getfield 29, 3) := by decide +kernel
theorem dX6_erase_37 : decode cX6_erase 37 = .ok (.iload 4, 2) := by decide +kernel
theorem dX6_erase_39 : decode cX6_erase 39 = .ok (.baload, 1) := by decide +kernel
theorem dX6_erase_40 : decode cX6_erase 40 = .ok (.ifCond .eq 7, 3) := by decide +kernel
theorem dX6_erase_43 : decode cX6_erase 43 = .ok (.iconst 1, 1) := by decide +kernel
theorem dX6_erase_44 : decode cX6_erase 44 = .ok (.goto 4, 3) := by decide +kernel
theorem dX6_erase_47 : decode cX6_erase 47 = .ok (.iconst 0, 1) := by decide +kernel
theorem dX6_erase_48 : decode cX6_erase 48 = .ok (.iadd, 1) := by decide +kernel
theorem dX6_erase_49 : decode cX6_erase 49 = .ok (.istore_n 3, 1) := by decide +kernel
theorem dX6_erase_50 : decode cX6_erase 50 = .ok (.aload_n 0, 1) := by decide +kernel
theorem dX6_erase_51 : decode cX6_erase 51 = .ok (.getfield 29, 3) := by decide +kernel
theorem dX6_erase_54 : decode cX6_erase 54 = .ok (.iload 4, 2) := by decide +kernel
theorem dX6_erase_56 : decode cX6_erase 56 = .ok (.iconst 0, 1) := by decide +kernel
theorem dX6_erase_57 : decode cX6_erase 57 = .ok (.bastore, 1) := by decide +kernel
theorem dX6_erase_58 : decode cX6_erase 58 = .ok (.iinc 4 1, 3) := by decide +kernel
theorem dX6_erase_61 : decode cX6_erase 61 = .ok (.goto (-37), 3) := by decide +kernel
theorem dX6_erase_64 : decode cX6_erase 64 = .ok (.aload_n 0, 1) := by decide +kernel
theorem dX6_erase_65 : decode cX6_erase 65 = .ok (.iconst 0, 1) := by decide +kernel
theorem dX6_erase_66 : decode cX6_erase 66 = .ok (.putfield 77, 3) := by decide +kernel
theorem dX6_erase_69 : decode cX6_erase 69 = .ok (.iload_n 3, 1) := by decide +kernel
theorem dX6_erase_70 : decode cX6_erase 70 = .ok (.ireturn, 1) := by decide +kernel
set_option maxRecDepth 20000 in
theorem ggX6_freeze_X6_areDays : GoodIn wsX6_freeze wsX6_areDays := goodIn_r _ [7, 8, 9, 10, 6, 11, 12, 13, 14, 15] (by decide +kernel) (by decide +kernel)
set_option maxRecDepth 20000 in
theorem gX6_freeze_X6_areDays : GoodIn wsX6_freeze (va_wsS RX6 122 yX6_areDays wsX6_areDays) := goodIn_app (goodIn_of _ (by decide +kernel)) ggX6_freeze_X6_areDays
set_option maxRecDepth 20000 in
theorem ggX6_freeze_X6_fail : GoodIn wsX6_freeze wsX6_fail := goodIn_r _ [19, 1, 20, 21, 22, 23, 24, 25, 26, 27, 28, 29, 30, 31, 32, 33, 34, 35, 36, 37, 38] (by decide +kernel) (by decide +kernel)
set_option maxRecDepth 20000 in
theorem gX6_freeze_X6_fail : GoodIn wsX6_freeze (wsV RX6 73 RX6 yX6_fail wsX6_fail) := goodIn_app (goodIn_of _ (by decide +kernel)) ggX6_freeze_X6_fail
theorem dX6_freeze_0 : decode cX6_freeze 0 = .ok (.aload_n 0, 1) := by decide +kernel
theorem dX6_freeze_1 : decode cX6_freeze 1 = .ok (.iconst 0, 1) := by decide +kernel
theorem dX6_freeze_2 : decode cX6_freeze 2 = .ok (.putfield 55, 3) := by decide +kernel
theorem dX6_freeze_5 : decode cX6_freeze 5 = .ok (.iload_n 1, 1) := by decide +kernel
theorem dX6_freeze_6 : decode cX6_freeze 6 = .ok (.iload_n 2, 1) := by decide +kernel
theorem dX6_freeze_7 : decode cX6_freeze 7 = .ok (.invokestatic 122, 3) := by decide +kernel
theorem dX6_freeze_10 : decode cX6_freeze 10 = .ok (.ifCond .ne 9, 3) := by decide +kernel
theorem dX6_freeze_13 : decode cX6_freeze 13 = .ok (.aload_n 0, 1) := by decide +kernel
theorem dX6_freeze_14 : decode cX6_freeze 14 = .ok (.iconst 1, 1) := by decide +kernel
theorem dX6_freeze_15 : decode cX6_freeze 15 = .ok (.invokevirtual 73, 3) := by decide +kernel
theorem dX6_freeze_18 : decode cX6_freeze 18 = .ok (.ireturn, 1) := by decide +kernel
theorem dX6_freeze_19 : decode cX6_freeze 19 = .ok (.iconst 0, 1) := by decide +kernel
theorem dX6_freeze_20 : decode cX6_freeze 20 = .ok (.istore 4, 2) := by decide +kernel
theorem dX6_freeze_22 : decode cX6_freeze 22 = .ok (.iload_n 1, 1) := by decide +kernel
theorem dX6_freeze_23 : decode cX6_freeze 23 = .ok (.istore 5, 2) := by decide +kernel
theorem dX6_freeze_25 : decode cX6_freeze 25 = .ok (.iload 5, 2) := by decide +kernel
theorem dX6_freeze_27 : decode cX6_freeze 27 = .ok (.iload_n 1, 1) := by decide +kernel
theorem dX6_freeze_28 : decode cX6_freeze 28 = .ok (.iload_n 2, 1) := by decide +kernel
theorem dX6_freeze_29 : decode cX6_freeze 29 = .ok (.iadd, 1) := by decide +kernel
theorem dX6_freeze_30 : decode cX6_freeze 30 = .ok (.if_icmp .ge 38, 3) := by decide +kernel
theorem dX6_freeze_33 : decode cX6_freeze 33 = .ok (.iload 4, 2) := by decide +kernel
theorem dX6_freeze_35 : decode cX6_freeze 35 = .ok (.aload_n 0, 1) := by decide +kernel
theorem dX6_freeze_36 : decode cX6_freeze 36 = .ok (.getfield 35, 3) := by decide +kernel
theorem dX6_freeze_39 : decode cX6_freeze 39 = .ok (.iload 5, 2) := by decide +kernel
theorem dX6_freeze_41 : decode cX6_freeze 41 = .ok (.baload, 1) := by decide +kernel
theorem dX6_freeze_42 : decode cX6_freeze 42 = .ok (.iload_n 3, 1) := by decide +kernel
theorem dX6_freeze_43 : decode cX6_freeze 43 = .ok (.if_icmp .ne 7, 3) := by decide +kernel
theorem dX6_freeze_46 : decode cX6_freeze 46 = .ok (.iconst 0, 1) := by decide +kernel
theorem dX6_freeze_47 : decode cX6_freeze 47 = .ok (.goto 4, 3) := by decide +kernel
theorem dX6_freeze_50 : decode cX6_freeze 50 = .ok (.iconst 1, 1) := by decide +kernel
theorem dX6_freeze_51 : decode cX6_freeze 51 = .ok (.iadd, 1) := by decide +kernel
theorem dX6_freeze_52 : decode cX6_freeze 52 = .ok (.istore 4, 2) := by decide +kernel
theorem dX6_freeze_54 : decode cX6_freeze 54 = .ok (.aload_n 0, 1) := by decide +kernel
theorem dX6_freeze_55 : decode cX6_freeze 55 = .ok (.getfield 35, 3) := by decide +kernel
theorem dX6_freeze_58 : decode cX6_freeze 58 = .ok (.iload 5, 2) := by decide +kernel
theorem dX6_freeze_60 : decode cX6_freeze 60 = .ok (.iload_n 3, 1) := by decide +kernel
theorem dX6_freeze_61 : decode cX6_freeze 61 = .ok (.bastore, 1) := by decide +kernel
theorem dX6_freeze_62 : decode cX6_freeze 62 = .ok (.iinc 5 1, 3) := by decide +kernel
theorem dX6_freeze_65 : decode cX6_freeze 65 = .ok (.goto (-40), 3) := by decide +kernel
theorem dX6_freeze_68 : decode cX6_freeze 68 = .ok (.aload_n 0, 1) := by decide +kernel
theorem dX6_freeze_69 : decode cX6_freeze 69 = .ok (.iconst 0, 1) := by decide +kernel
theorem dX6_freeze_70 : decode cX6_freeze 70 = .ok (.putfield 77, 3) := by decide +kernel
theorem dX6_freeze_73 : decode cX6_freeze 73 = .ok (.iload 4, 2) := by decide +kernel
theorem dX6_freeze_75 : decode cX6_freeze 75 = .ok (.ireturn, 1) := by decide +kernel
set_option maxRecDepth 20000 in
theorem ggX6_setRules_X6_isIn : GoodIn wsX6_setRules wsX6_isIn := goodIn_r _ [10] (by decide +kernel) (by decide +kernel)
set_option maxRecDepth 20000 in
theorem gX6_setRules_X6_isIn : GoodIn wsX6_setRules (va_wsS RX6 60 yX6_isIn wsX6_isIn) := goodIn_app (goodIn_of _ (by decide +kernel)) ggX6_setRules_X6_isIn
set_option maxRecDepth 20000 in
theorem ggX6_setRules_X6_fail : GoodIn wsX6_setRules wsX6_fail := goodIn_r _ [14, 1, 15, 16, 17, 18, 19, 20, 21, 22, 23, 24, 25, 26, 27, 28, 29, 30, 31, 32, 33] (by decide +kernel) (by decide +kernel)
set_option maxRecDepth 20000 in
theorem gX6_setRules_X6_fail : GoodIn wsX6_setRules (wsV RX6 73 RX6 yX6_fail wsX6_fail) := goodIn_app (goodIn_of _ (by decide +kernel)) ggX6_setRules_X6_fail
theorem dX6_setRules_0 : decode cX6_setRules 0 = .ok (.aload_n 0, 1) := by decide +kernel
theorem dX6_setRules_1 : decode cX6_setRules 1 = .ok (.iconst 0, 1) := by decide +kernel
theorem dX6_setRules_2 : decode cX6_setRules 2 = .ok (.putfield 55, 3) := by decide +kernel
theorem dX6_setRules_5 : decode cX6_setRules 5 = .ok (.iload_n 1, 1) := by decide +kernel
theorem dX6_setRules_6 : decode cX6_setRules 6 = .ok (.i2l, 1) := by decide +kernel
theorem dX6_setRules_7 : decode cX6_setRules 7 = .ok (.lconst 0, 1) := by decide +kernel
theorem dX6_setRules_8 : decode cX6_setRules 8 = .ok (.ldc2_w 126, 3) := by decide +kernel
theorem dX6_setRules_11 : decode cX6_setRules 11 = .ok (.invokestatic 60, 3) := by decide +kernel
theorem dX6_setRules_14 : decode cX6_setRules 14 = .ok (.ifCond .eq 15, 3) := by decide +kernel
theorem dX6_setRules_17 : decode cX6_setRules 17 = .ok (.iload_n 2, 1) := by decide +kernel
theorem dX6_setRules_18 : decode cX6_setRules 18 = .ok (.i2l, 1) := by decide +kernel
theorem dX6_setRules_19 : decode cX6_setRules 19 = .ok (.lconst 0, 1) := by decide +kernel
theorem dX6_setRules_20 : decode cX6_setRules 20 = .ok (.ldc2_w 128, 3) := by decide +kernel
theorem dX6_setRules_23 : decode cX6_setRules 23 = .ok (.invokestatic 60, 3) := by decide +kernel
theorem dX6_setRules_26 : decode cX6_setRules 26 = .ok (.ifCond .ne 9, 3) := by decide +kernel
theorem dX6_setRules_29 : decode cX6_setRules 29 = .ok (.aload_n 0, 1) := by decide +kernel
theorem dX6_setRules_30 : decode cX6_setRules 30 = .ok (.iconst 1, 1) := by decide +kernel
theorem dX6_setRules_31 : decode cX6_setRules 31 = .ok (.invokevirtual 73, 3) := by decide +kernel
theorem dX6_setRules_34 : decode cX6_setRules 34 = .ok (.ireturn, 1) := by decide +kernel
theorem dX6_setRules_35 : decode cX6_setRules 35 = .ok (.aload_n 0, 1) := by decide +kernel
theorem dX6_setRules_36 : decode cX6_setRules 36 = .ok (.getfield 38, 3) := by decide +kernel
theorem dX6_setRules_39 : decode cX6_setRules 39 = .ok (.istore_n 3, 1) := by decide +kernel
theorem dX6_setRules_40 : decode cX6_setRules 40 = .ok (.aload_n 0, 1) := by decide +kernel
theorem dX6_setRules_41 : decode cX6_setRules 41 = .ok (.iload_n 1, 1) := by decide +kernel
theorem dX6_setRules_42 : decode cX6_setRules 42 = .ok (.putfield 38, 3) := by decide +kernel
theorem dX6_setRules_45 : decode cX6_setRules 45 = .ok (.aload_n 0, 1) := by decide +kernel
theorem dX6_setRules_46 : decode cX6_setRules 46 = .ok (.iload_n 2, 1) := by decide +kernel
theorem dX6_setRules_47 : decode cX6_setRules 47 = .ok (.putfield 42, 3) := by decide +kernel
theorem dX6_setRules_50 : decode cX6_setRules 50 = .ok (.aload_n 0, 1) := by decide +kernel
theorem dX6_setRules_51 : decode cX6_setRules 51 = .ok (.iconst 0, 1) := by decide +kernel
theorem dX6_setRules_52 : decode cX6_setRules 52 = .ok (.putfield 77, 3) := by decide +kernel
theorem dX6_setRules_55 : decode cX6_setRules 55 = .ok (.iload_n 3, 1) := by decide +kernel
theorem dX6_setRules_56 : decode cX6_setRules 56 = .ok (.ireturn, 1) := by decide +kernel
set_option maxRecDepth 20000 in
theorem ggX6_workOut_X6_curveAt : GoodIn wsX6_workOut wsX6_curveAt := goodIn_r _ [15, 16, 17, 39, 40, 41, 42, 43, 44, 45, 46, 47, 48, 49, 50, 51, 52, 53, 54, 55, 56, 57] (by decide +kernel) (by decide +kernel)
set_option maxRecDepth 20000 in
theorem gX6_workOut_X6_curveAt : GoodIn wsX6_workOut (wsV RX6 109 RX6 yX6_curveAt wsX6_curveAt) := goodIn_app (goodIn_of _ (by decide +kernel)) ggX6_workOut_X6_curveAt
set_option maxRecDepth 20000 in
theorem ggX6_workOut_X6_isComplete : GoodIn wsX6_workOut wsX6_isComplete := goodIn_r _ [21, 22, 39, 40, 41, 42, 43, 44, 45, 46, 47, 48, 49, 50, 51, 52, 53, 54, 55, 56, 57] (by decide +kernel) (by decide +kernel)
set_option maxRecDepth 20000 in
theorem gX6_workOut_X6_isComplete : GoodIn wsX6_workOut (wsV RX6 94 RX6 yX6_isComplete wsX6_isComplete) := goodIn_app (goodIn_of _ (by decide +kernel)) ggX6_workOut_X6_isComplete
set_option maxRecDepth 20000 in
theorem ggX6_workOut_X6_shiftAt : GoodIn wsX6_workOut wsX6_shiftAt := goodIn_r _ [26, 27, 28, 39, 40, 41, 42, 43, 44, 45, 46, 47, 48, 49, 50, 51, 52, 53, 54, 55, 56, 57] (by decide +kernel) (by decide +kernel)
set_option maxRecDepth 20000 in
theorem gX6_workOut_X6_shiftAt : GoodIn wsX6_workOut (wsV RX6 119 RX6 yX6_shiftAt wsX6_shiftAt) := goodIn_app (goodIn_of _ (by decide +kernel)) ggX6_workOut_X6_shiftAt
set_option maxRecDepth 20000 in
theorem ggX6_workOut_X6_flowFor : GoodIn wsX6_workOut wsX6_flowFor := goodIn_r _ [32, 22, 33, 34, 39, 40, 41, 42, 43, 44, 45, 46, 47, 48, 49, 50, 51, 52, 53, 54, 55, 56, 57] (by decide +kernel) (by decide +kernel)
set_option maxRecDepth 20000 in
theorem gX6_workOut_X6_flowFor : GoodIn wsX6_workOut (wsV RX6 90 RX6 yX6_flowFor wsX6_flowFor) := goodIn_app (goodIn_of _ (by decide +kernel)) ggX6_workOut_X6_flowFor
set_option maxRecDepth 20000 in
theorem ggX6_workOut_X6_fill : GoodIn wsX6_workOut wsX6_fill := goodIn_r _ [38, 2, 3, 39, 40, 41, 42, 43, 44, 45, 46, 47, 48, 49, 50, 51, 52, 53, 54, 55, 56, 57] (by decide +kernel) (by decide +kernel)
set_option maxRecDepth 20000 in
theorem gX6_workOut_X6_fill : GoodIn wsX6_workOut (wsV RX6 132 RX6 yX6_fill wsX6_fill) := goodIn_app (goodIn_of _ (by decide +kernel)) ggX6_workOut_X6_fill
theorem dX6_workOut_0 : decode cX6_workOut 0 = .ok (.aload_n 0, 1) := by decide +kernel
theorem dX6_workOut_1 : decode cX6_workOut 1 = .ok (.getfield 77, 3) := by decide +kernel
theorem dX6_workOut_4 : decode cX6_workOut 4 = .ok (.ifCond .eq 4, 3) := by decide +kernel
theorem dX6_workOut_7 : decode cX6_workOut 7 = .ok (.return_, 1) := by decide +kernel
theorem dX6_workOut_8 : decode cX6_workOut 8 = .ok (.aload_n 0, 1) := by decide +kernel
theorem dX6_workOut_9 : decode cX6_workOut 9 = .ok (.iconst 1, 1) := by decide +kernel
theorem dX6_workOut_10 : decode cX6_workOut 10 = .ok (.putfield 77, 3) := by decide +kernel
theorem dX6_workOut_13 : decode cX6_workOut 13 = .ok (.iconst (-1), 1) := by decide +kernel
theorem dX6_workOut_14 : decode cX6_workOut 14 = .ok (.istore_n 1, 1) := by decide +kernel
theorem dX6_workOut_15 : decode cX6_workOut 15 = .ok (.iconst 0, 1) := by decide +kernel
theorem dX6_workOut_16 : decode cX6_workOut 16 = .ok (.istore_n 2, 1) := by decide +kernel
theorem dX6_workOut_17 : decode cX6_workOut 17 = .ok (.iload_n 2, 1) := by decide +kernel
theorem dX6_workOut_18 : decode cX6_workOut 18 = .ok (.sipush 400, 3) := by decide +kernel
theorem dX6_workOut_21 : decode cX6_workOut 21 = .ok (.if_icmp .ge 151, 3) := by decide +kernel
theorem dX6_workOut_24 : decode cX6_workOut 24 = .ok (.aload_n 0, 1) := by decide +kernel
theorem dX6_workOut_25 : decode cX6_workOut 25 = .ok (.iload_n 2, 1) := by decide +kernel
theorem dX6_workOut_26 : decode cX6_workOut 26 = .ok (.invokevirtual 109, 3) := by decide +kernel
theorem dX6_workOut_29 : decode cX6_workOut 29 = .ok (.istore_n 3, 1) := by decide +kernel
theorem dX6_workOut_30 : decode cX6_workOut 30 = .ok (.aload_n 0, 1) := by decide +kernel
theorem dX6_workOut_31 : decode cX6_workOut 31 = .ok (.getfield 48, 3) := by decide +kernel
theorem dX6_workOut_34 : decode cX6_workOut 34 = .ok (.iload_n 2, 1) := by decide +kernel
theorem dX6_workOut_35 : decode cX6_workOut 35 = .ok (.iconst 0, 1) := by decide +kernel
theorem dX6_workOut_36 : decode cX6_workOut 36 = .ok (.iastore, 1) := by decide +kernel
theorem dX6_workOut_37 : decode cX6_workOut 37 = .ok (.aload_n 0, 1) := by decide +kernel
theorem dX6_workOut_38 : decode cX6_workOut 38 = .ok (.getfield 51, 3) := by decide +kernel
theorem dX6_workOut_41 : decode cX6_workOut 41 = .ok (.iload_n 2, 1) := by decide +kernel
theorem dX6_workOut_42 : decode cX6_workOut 42 = .ok (.ldc2_w 130, 3) := by decide +kernel
theorem dX6_workOut_45 : decode cX6_workOut 45 = .ok (.lastore, 1) := by decide +kernel
theorem dX6_workOut_46 : decode cX6_workOut 46 = .ok (.aload_n 0, 1) := by decide +kernel
theorem dX6_workOut_47 : decode cX6_workOut 47 = .ok (.getfield 29, 3) := by decide +kernel
theorem dX6_workOut_50 : decode cX6_workOut 50 = .ok (.iload_n 2, 1) := by decide +kernel
theorem dX6_workOut_51 : decode cX6_workOut 51 = .ok (.baload, 1) := by decide +kernel
theorem dX6_workOut_52 : decode cX6_workOut 52 = .ok (.ifCond .eq 114, 3) := by decide +kernel
theorem dX6_workOut_55 : decode cX6_workOut 55 = .ok (.aload_n 0, 1) := by decide +kernel
theorem dX6_workOut_56 : decode cX6_workOut 56 = .ok (.iload_n 3, 1) := by decide +kernel
theorem dX6_workOut_57 : decode cX6_workOut 57 = .ok (.invokevirtual 94, 3) := by decide +kernel
theorem dX6_workOut_60 : decode cX6_workOut 60 = .ok (.ifCond .ne 6, 3) := by decide +kernel
theorem dX6_workOut_63 : decode cX6_workOut 63 = .ok (.goto 103, 3) := by decide +kernel
theorem dX6_workOut_66 : decode cX6_workOut 66 = .ok (.aload_n 0, 1) := by decide +kernel
theorem dX6_workOut_67 : decode cX6_workOut 67 = .ok (.iload_n 3, 1) := by decide +kernel
theorem dX6_workOut_68 : decode cX6_workOut 68 = .ok (.aload_n 0, 1) := by decide +kernel
theorem dX6_workOut_69 : decode cX6_workOut 69 = .ok (.getfield 32, 3) := by decide +kernel
theorem dX6_workOut_72 : decode cX6_workOut 72 = .ok (.iload_n 2, 1) := by decide +kernel
theorem dX6_workOut_73 : decode cX6_workOut 73 = .ok (.iaload, 1) := by decide +kernel
theorem dX6_workOut_74 : decode cX6_workOut 74 = .ok (.aload_n 0, 1) := by decide +kernel
theorem dX6_workOut_75 : decode cX6_workOut 75 = .ok (.iload_n 2, 1) := by decide +kernel
theorem dX6_workOut_76 : decode cX6_workOut 76 = .ok (.invokevirtual 119, 3) := by decide +kernel
theorem dX6_workOut_79 : decode cX6_workOut 79 = .ok (.isub, 1) := by decide +kernel
theorem dX6_workOut_80 : decode cX6_workOut 80 = .ok (.invokevirtual 90, 3) := by decide +kernel
theorem dX6_workOut_83 : decode cX6_workOut 83 = .ok (.lstore 4, 2) := by decide +kernel
theorem dX6_workOut_85 : decode cX6_workOut 85 = .ok (.aload_n 0, 1) := by decide +kernel
theorem dX6_workOut_86 : decode cX6_workOut 86 = .ok (.getfield 48, 3) := by decide +kernel
theorem dX6_workOut_89 : decode cX6_workOut 89 = .ok (.iload_n 2, 1) := by decide +kernel
theorem dX6_workOut_90 : decode cX6_workOut 90 = .ok (.aload_n 0, 1) := by decide +kernel
theorem dX6_workOut_91 : decode cX6_workOut 91 = .ok (.getfield 35, 3) := by decide +kernel
theorem dX6_workOut_94 : decode cX6_workOut 94 = .ok (.iload_n 2, 1) := by decide +kernel
theorem dX6_workOut_95 : decode cX6_workOut 95 = .ok (.baload, 1) := by decide +kernel
theorem dX6_workOut_96 : decode cX6_workOut 96 = .ok (.ifCond .eq 7, 3) := by decide +kernel
theorem dX6_workOut_99 : decode cX6_workOut 99 = .ok (.iconst 2, 1) := by decide +kernel
theorem dX6_workOut_100 : decode cX6_workOut 100 = .ok (.goto 4, 3) := by decide +kernel
theorem dX6_workOut_103 : decode cX6_workOut 103 = .ok (.iconst 1, 1) := by decide +kernel
theorem dX6_workOut_104 : decode cX6_workOut 104 = .ok (.iastore, 1) := by decide +kernel
theorem dX6_workOut_105 : decode cX6_workOut 105 = .ok (.aload_n 0, 1) := by decide +kernel
theorem dX6_workOut_106 : decode cX6_workOut 106 = .ok (.getfield 51, 3) := by decide +kernel
theorem dX6_workOut_109 : decode cX6_workOut 109 = .ok (.iload_n 2, 1) := by decide +kernel
theorem dX6_workOut_110 : decode cX6_workOut 110 = .ok (.aload_n 0, 1) := by decide +kernel
theorem dX6_workOut_111 : decode cX6_workOut 111 = .ok (.getfield 35, 3) := by decide +kernel
theorem dX6_workOut_114 : decode cX6_workOut 114 = .ok (.iload_n 2, 1) := by decide +kernel
theorem dX6_workOut_115 : decode cX6_workOut 115 = .ok (.baload, 1) := by decide +kernel
theorem dX6_workOut_116 : decode cX6_workOut 116 = .ok (.ifCond .eq 18, 3) := by decide +kernel
theorem dX6_workOut_119 : decode cX6_workOut 119 = .ok (.lload 4, 2) := by decide +kernel
theorem dX6_workOut_121 : decode cX6_workOut 121 = .ok (.aload_n 0, 1) := by decide +kernel
theorem dX6_workOut_122 : decode cX6_workOut 122 = .ok (.getfield 38, 3) := by decide +kernel
theorem dX6_workOut_125 : decode cX6_workOut 125 = .ok (.i2l, 1) := by decide +kernel
theorem dX6_workOut_126 : decode cX6_workOut 126 = .ok (.lmul, 1) := by decide +kernel
theorem dX6_workOut_127 : decode cX6_workOut 127 = .ok (.ldc2_w 126, 3) := by decide +kernel
theorem dX6_workOut_130 : decode cX6_workOut 130 = .ok (.ldiv, 1) := by decide +kernel
theorem dX6_workOut_131 : decode cX6_workOut 131 = .ok (.goto 5, 3) := by decide +kernel
theorem dX6_workOut_134 : decode cX6_workOut 134 = .ok (.lload 4, 2) := by decide +kernel
theorem dX6_workOut_136 : decode cX6_workOut 136 = .ok (.lastore, 1) := by decide +kernel
theorem dX6_workOut_137 : decode cX6_workOut 137 = .ok (.iload_n 2, 1) := by decide +kernel
theorem dX6_workOut_138 : decode cX6_workOut 138 = .ok (.iload_n 1, 1) := by decide +kernel
theorem dX6_workOut_139 : decode cX6_workOut 139 = .ok (.isub, 1) := by decide +kernel
theorem dX6_workOut_140 : decode cX6_workOut 140 = .ok (.iconst 1, 1) := by decide +kernel
theorem dX6_workOut_141 : decode cX6_workOut 141 = .ok (.isub, 1) := by decide +kernel
theorem dX6_workOut_142 : decode cX6_workOut 142 = .ok (.istore 6, 2) := by decide +kernel
theorem dX6_workOut_144 : decode cX6_workOut 144 = .ok (.iload_n 1, 1) := by decide +kernel
theorem dX6_workOut_145 : decode cX6_workOut 145 = .ok (.iconst (-1), 1) := by decide +kernel
theorem dX6_workOut_146 : decode cX6_workOut 146 = .ok (.if_icmp .eq 18, 3) := by decide +kernel
theorem dX6_workOut_149 : decode cX6_workOut 149 = .ok (.iload 6, 2) := by decide +kernel
theorem dX6_workOut_151 : decode cX6_workOut 151 = .ok (.aload_n 0, 1) := by decide +kernel
theorem dX6_workOut_152 : decode cX6_workOut 152 = .ok (.getfield 42, 3) := by decide +kernel
theorem dX6_workOut_155 : decode cX6_workOut 155 = .ok (.if_icmp .gt 9, 3) := by decide +kernel
theorem dX6_workOut_158 : decode cX6_workOut 158 = .ok (.aload_n 0, 1) := by decide +kernel
theorem dX6_workOut_159 : decode cX6_workOut 159 = .ok (.iload_n 1, 1) := by decide +kernel
theorem dX6_workOut_160 : decode cX6_workOut 160 = .ok (.iload_n 2, 1) := by decide +kernel
theorem dX6_workOut_161 : decode cX6_workOut 161 = .ok (.invokevirtual 132, 3) := by decide +kernel
theorem dX6_workOut_164 : decode cX6_workOut 164 = .ok (.iload_n 2, 1) := by decide +kernel
theorem dX6_workOut_165 : decode cX6_workOut 165 = .ok (.istore_n 1, 1) := by decide +kernel
theorem dX6_workOut_166 : decode cX6_workOut 166 = .ok (.iinc 2 1, 3) := by decide +kernel
theorem dX6_workOut_169 : decode cX6_workOut 169 = .ok (.goto (-152), 3) := by decide +kernel
theorem dX6_workOut_172 : decode cX6_workOut 172 = .ok (.return_, 1) := by decide +kernel
theorem dX6_fill_0 : decode cX6_fill 0 = .ok (.iconst 1, 1) := by decide +kernel
theorem dX6_fill_1 : decode cX6_fill 1 = .ok (.istore_n 3, 1) := by decide +kernel
theorem dX6_fill_2 : decode cX6_fill 2 = .ok (.iload_n 1, 1) := by decide +kernel
theorem dX6_fill_3 : decode cX6_fill 3 = .ok (.iload_n 3, 1) := by decide +kernel
theorem dX6_fill_4 : decode cX6_fill 4 = .ok (.iadd, 1) := by decide +kernel
theorem dX6_fill_5 : decode cX6_fill 5 = .ok (.iload_n 2, 1) := by decide +kernel
theorem dX6_fill_6 : decode cX6_fill 6 = .ok (.if_icmp .ge 54, 3) := by decide +kernel
theorem dX6_fill_9 : decode cX6_fill 9 = .ok (.aload_n 0, 1) := by decide +kernel
theorem dX6_fill_10 : decode cX6_fill 10 = .ok (.getfield 48, 3) := by decide +kernel
theorem dX6_fill_13 : decode cX6_fill 13 = .ok (.iload_n 1, 1) := by decide +kernel
theorem dX6_fill_14 : decode cX6_fill 14 = .ok (.iload_n 3, 1) := by decide +kernel
theorem dX6_fill_15 : decode cX6_fill 15 = .ok (.iadd, 1) := by decide +kernel
theorem dX6_fill_16 : decode cX6_fill 16 = .ok (.iconst 3, 1) := by decide +kernel
theorem dX6_fill_17 : decode cX6_fill 17 = .ok (.iastore, 1) := by decide +kernel
theorem dX6_fill_18 : decode cX6_fill 18 = .ok (.aload_n 0, 1) := by decide +kernel
theorem dX6_fill_19 : decode cX6_fill 19 = .ok (.getfield 51, 3) := by decide +kernel
theorem dX6_fill_22 : decode cX6_fill 22 = .ok (.iload_n 1, 1) := by decide +kernel
theorem dX6_fill_23 : decode cX6_fill 23 = .ok (.iload_n 3, 1) := by decide +kernel
theorem dX6_fill_24 : decode cX6_fill 24 = .ok (.iadd, 1) := by decide +kernel
theorem dX6_fill_25 : decode cX6_fill 25 = .ok (.aload_n 0, 1) := by decide +kernel
theorem dX6_fill_26 : decode cX6_fill 26 = .ok (.getfield 51, 3) := by decide +kernel
theorem dX6_fill_29 : decode cX6_fill 29 = .ok (.iload_n 1, 1) := by decide +kernel
theorem dX6_fill_30 : decode cX6_fill 30 = .ok (.laload, 1) := by decide +kernel
theorem dX6_fill_31 : decode cX6_fill 31 = .ok (.aload_n 0, 1) := by decide +kernel
theorem dX6_fill_32 : decode cX6_fill 32 = .ok (.getfield 51, 3) := by decide +kernel
theorem dX6_fill_35 : decode cX6_fill 35 = .ok (.iload_n 2, 1) := by decide +kernel
theorem dX6_fill_36 : decode cX6_fill 36 = .ok (.laload, 1) := by decide +kernel
theorem dX6_fill_37 : decode cX6_fill 37 = .ok (.aload_n 0, 1) := by decide +kernel
theorem dX6_fill_38 : decode cX6_fill 38 = .ok (.getfield 51, 3) := by decide +kernel
theorem dX6_fill_41 : decode cX6_fill 41 = .ok (.iload_n 1, 1) := by decide +kernel
theorem dX6_fill_42 : decode cX6_fill 42 = .ok (.laload, 1) := by decide +kernel
theorem dX6_fill_43 : decode cX6_fill 43 = .ok (.lsub, 1) := by decide +kernel
theorem dX6_fill_44 : decode cX6_fill 44 = .ok (.iload_n 3, 1) := by decide +kernel
theorem dX6_fill_45 : decode cX6_fill 45 = .ok (.i2l, 1) := by decide +kernel
theorem dX6_fill_46 : decode cX6_fill 46 = .ok (.lmul, 1) := by decide +kernel
theorem dX6_fill_47 : decode cX6_fill 47 = .ok (.iload_n 2, 1) := by decide +kernel
theorem dX6_fill_48 : decode cX6_fill 48 = .ok (.iload_n 1, 1) := by decide +kernel
theorem dX6_fill_49 : decode cX6_fill 49 = .ok (.isub, 1) := by decide +kernel
theorem dX6_fill_50 : decode cX6_fill 50 = .ok (.i2l, 1) := by decide +kernel
theorem dX6_fill_51 : decode cX6_fill 51 = .ok (.ldiv, 1) := by decide +kernel
theorem dX6_fill_52 : decode cX6_fill 52 = .ok (.ladd, 1) := by decide +kernel
theorem dX6_fill_53 : decode cX6_fill 53 = .ok (.lastore, 1) := by decide +kernel
theorem dX6_fill_54 : decode cX6_fill 54 = .ok (.iinc 3 1, 3) := by decide +kernel
theorem dX6_fill_57 : decode cX6_fill 57 = .ok (.goto (-55), 3) := by decide +kernel
theorem dX6_fill_60 : decode cX6_fill 60 = .ok (.return_, 1) := by decide +kernel
set_option maxRecDepth 20000 in
theorem ggX6_state_X6_isDay : GoodIn wsX6_state wsX6_isDay := goodIn_r _ [6, 7, 8, 9, 5, 10] (by decide +kernel) (by decide +kernel)
set_option maxRecDepth 20000 in
theorem gX6_state_X6_isDay : GoodIn wsX6_state (va_wsS RX6 67 yX6_isDay wsX6_isDay) := goodIn_app (goodIn_of _ (by decide +kernel)) ggX6_state_X6_isDay
set_option maxRecDepth 20000 in
theorem ggX6_state_X6_fail : GoodIn wsX6_state wsX6_fail := goodIn_r _ [14, 1, 55, 56, 57, 58, 59, 60, 61, 62, 63, 64, 65, 66, 67, 68, 69, 70, 71, 72, 73] (by decide +kernel) (by decide +kernel)
set_option maxRecDepth 20000 in
theorem gX6_state_X6_fail : GoodIn wsX6_state (wsV RX6 73 RX6 yX6_fail wsX6_fail) := goodIn_app (goodIn_of _ (by decide +kernel)) ggX6_state_X6_fail
set_option maxRecDepth 20000 in
theorem ggX6_state_X6_workOut : GoodIn wsX6_state wsX6_workOut := goodIn_r _ [18, 19, 2, 20, 21, 22, 23, 24, 25, 26, 27, 28, 29, 30, 5, 31, 32, 33, 34, 35, 36, 37, 38, 39, 40, 41, 42, 43, 44, 45, 46, 47, 48, 49, 50, 51, 52, 53, 54, 55, 56, 57, 58, 59, 60, 61, 62, 63, 64, 65, 66, 67, 68, 69, 70, 71, 72, 73] (by decide +kernel) (by decide +kernel)
set_option maxRecDepth 20000 in
theorem gX6_state_X6_workOut : GoodIn wsX6_state (wsV RX6 136 RX6 yX6_workOut wsX6_workOut) := goodIn_app (goodIn_of _ (by decide +kernel)) ggX6_state_X6_workOut
theorem dX6_state_0 : decode cX6_state 0 = .ok (.aload_n 0, 1) := by decide +kernel
theorem dX6_state_1 : decode cX6_state 1 = .ok (.iconst 0, 1) := by decide +kernel
theorem dX6_state_2 : decode cX6_state 2 = .ok (.putfield 55, 3) := by decide +kernel
theorem dX6_state_5 : decode cX6_state 5 = .ok (.iload_n 1, 1) := by decide +kernel
theorem dX6_state_6 : decode cX6_state 6 = .ok (.invokestatic 67, 3) := by decide +kernel
theorem dX6_state_9 : decode cX6_state 9 = .ok (.ifCond .ne 9, 3) := by decide +kernel
theorem dX6_state_12 : decode cX6_state 12 = .ok (.aload_n 0, 1) := by decide +kernel
theorem dX6_state_13 : decode cX6_state 13 = .ok (.iconst 1, 1) := by decide +kernel
theorem dX6_state_14 : decode cX6_state 14 = .ok (.invokevirtual 73, 3) := by decide +kernel
theorem dX6_state_17 : decode cX6_state 17 = .ok (.ireturn, 1) := by decide +kernel
theorem dX6_state_18 : decode cX6_state 18 = .ok (.aload_n 0, 1) := by decide +kernel
theorem dX6_state_19 : decode cX6_state 19 = .ok (.invokevirtual 136, 3) := by decide +kernel
theorem dX6_state_22 : decode cX6_state 22 = .ok (.aload_n 0, 1) := by decide +kernel
theorem dX6_state_23 : decode cX6_state 23 = .ok (.getfield 48, 3) := by decide +kernel
theorem dX6_state_26 : decode cX6_state 26 = .ok (.iload_n 1, 1) := by decide +kernel
theorem dX6_state_27 : decode cX6_state 27 = .ok (.iaload, 1) := by decide +kernel
theorem dX6_state_28 : decode cX6_state 28 = .ok (.ireturn, 1) := by decide +kernel
set_option maxRecDepth 20000 in
theorem ggX6_flow_X6_isDay : GoodIn wsX6_flow wsX6_isDay := goodIn_r _ [6, 7, 8, 9, 5, 10] (by decide +kernel) (by decide +kernel)
set_option maxRecDepth 20000 in
theorem gX6_flow_X6_isDay : GoodIn wsX6_flow (va_wsS RX6 67 yX6_isDay wsX6_isDay) := goodIn_app (goodIn_of _ (by decide +kernel)) ggX6_flow_X6_isDay
set_option maxRecDepth 20000 in
theorem ggX6_flow_X6_workOut : GoodIn wsX6_flow wsX6_workOut := goodIn_r _ [14, 15, 16, 2, 17, 18, 19, 20, 21, 22, 23, 24, 25, 26, 5, 27, 28, 29, 30, 31, 32, 33, 34, 35, 36, 37, 38, 39, 40, 41, 42, 43, 44, 45, 46, 47, 48, 49, 50, 51, 52, 53, 54, 55, 56, 57, 58, 59, 60, 61, 62, 63, 64, 65, 66, 67, 68, 69] (by decide +kernel) (by decide +kernel)
set_option maxRecDepth 20000 in
theorem gX6_flow_X6_workOut : GoodIn wsX6_flow (wsV RX6 136 RX6 yX6_workOut wsX6_workOut) := goodIn_app (goodIn_of _ (by decide +kernel)) ggX6_flow_X6_workOut
theorem dX6_flow_0 : decode cX6_flow 0 = .ok (.aload_n 0, 1) := by decide +kernel
theorem dX6_flow_1 : decode cX6_flow 1 = .ok (.iload_n 1, 1) := by decide +kernel
theorem dX6_flow_2 : decode cX6_flow 2 = .ok (.invokestatic 67, 3) := by decide +kernel
theorem dX6_flow_5 : decode cX6_flow 5 = .ok (.ifCond .eq 7, 3) := by decide +kernel
theorem dX6_flow_8 : decode cX6_flow 8 = .ok (.iconst 0, 1) := by decide +kernel
theorem dX6_flow_9 : decode cX6_flow 9 = .ok (.goto 4, 3) := by decide +kernel
theorem dX6_flow_12 : decode cX6_flow 12 = .ok (.iconst 1, 1) := by decide +kernel
theorem dX6_flow_13 : decode cX6_flow 13 = .ok (.putfield 55, 3) := by decide +kernel
theorem dX6_flow_16 : decode cX6_flow 16 = .ok (.aload_n 0, 1) := by decide +kernel
theorem dX6_flow_17 : decode cX6_flow 17 = .ok (.getfield 55, 3) := by decide +kernel
theorem dX6_flow_20 : decode cX6_flow 20 = .ok (.ifCond .eq 5, 3) := by decide +kernel
theorem dX6_flow_23 : decode cX6_flow 23 = .ok (.lconst 0, 1) := by decide +kernel
theorem dX6_flow_24 : decode cX6_flow 24 = .ok (.lreturn, 1) := by decide +kernel
theorem dX6_flow_25 : decode cX6_flow 25 = .ok (.aload_n 0, 1) := by decide +kernel
theorem dX6_flow_26 : decode cX6_flow 26 = .ok (.invokevirtual 136, 3) := by decide +kernel
theorem dX6_flow_29 : decode cX6_flow 29 = .ok (.aload_n 0, 1) := by decide +kernel
theorem dX6_flow_30 : decode cX6_flow 30 = .ok (.getfield 51, 3) := by decide +kernel
theorem dX6_flow_33 : decode cX6_flow 33 = .ok (.iload_n 1, 1) := by decide +kernel
theorem dX6_flow_34 : decode cX6_flow 34 = .ok (.laload, 1) := by decide +kernel
theorem dX6_flow_35 : decode cX6_flow 35 = .ok (.lreturn, 1) := by decide +kernel
theorem dX6_isSpan_0 : decode cX6_isSpan 0 = .ok (.iload_n 0, 1) := by decide +kernel
theorem dX6_isSpan_1 : decode cX6_isSpan 1 = .ok (.ifCond .lt 19, 3) := by decide +kernel
theorem dX6_isSpan_4 : decode cX6_isSpan 4 = .ok (.iload_n 0, 1) := by decide +kernel
theorem dX6_isSpan_5 : decode cX6_isSpan 5 = .ok (.iload_n 1, 1) := by decide +kernel
theorem dX6_isSpan_6 : decode cX6_isSpan 6 = .ok (.if_icmp .gt 14, 3) := by decide +kernel
theorem dX6_isSpan_9 : decode cX6_isSpan 9 = .ok (.iload_n 1, 1) := by decide +kernel
theorem dX6_isSpan_10 : decode cX6_isSpan 10 = .ok (.sipush 400, 3) := by decide +kernel
theorem dX6_isSpan_13 : decode cX6_isSpan 13 = .ok (.if_icmp .ge 7, 3) := by decide +kernel
theorem dX6_isSpan_16 : decode cX6_isSpan 16 = .ok (.iconst 1, 1) := by decide +kernel
theorem dX6_isSpan_17 : decode cX6_isSpan 17 = .ok (.goto 4, 3) := by decide +kernel
theorem dX6_isSpan_20 : decode cX6_isSpan 20 = .ok (.iconst 0, 1) := by decide +kernel
theorem dX6_isSpan_21 : decode cX6_isSpan 21 = .ok (.ireturn, 1) := by decide +kernel
set_option maxRecDepth 20000 in
theorem ggX6_summed_X6_workOut : GoodIn wsX6_summed wsX6_workOut := goodIn_r _ [9, 10, 3, 4, 2, 11, 12, 13, 14, 15, 16, 17, 18, 19, 8, 20, 21, 22, 23, 24, 25, 26, 27, 28, 29, 30, 31, 32, 33, 34, 35, 36, 37, 38, 39, 40, 41, 42, 43, 44, 45, 46, 47, 48, 49, 50, 51, 52, 53, 54, 55, 56, 57, 58, 59, 60, 61, 62] (by decide +kernel) (by decide +kernel)
set_option maxRecDepth 20000 in
theorem gX6_summed_X6_workOut : GoodIn wsX6_summed (wsV RX6 136 RX6 yX6_workOut wsX6_workOut) := goodIn_app (goodIn_of _ (by decide +kernel)) ggX6_summed_X6_workOut
theorem dX6_summed_0 : decode cX6_summed 0 = .ok (.aload_n 0, 1) := by decide +kernel
theorem dX6_summed_1 : decode cX6_summed 1 = .ok (.invokevirtual 136, 3) := by decide +kernel
theorem dX6_summed_4 : decode cX6_summed 4 = .ok (.iconst 5, 1) := by decide +kernel
theorem dX6_summed_5 : decode cX6_summed 5 = .ok (.newarray .long, 2) := by decide +kernel
theorem dX6_summed_7 : decode cX6_summed 7 = .ok (.dup, 1) := by decide +kernel
theorem dX6_summed_8 : decode cX6_summed 8 = .ok (.iconst 0, 1) := by decide +kernel
theorem dX6_summed_9 : decode cX6_summed 9 = .ok (.lconst 0, 1) := by decide +kernel
theorem dX6_summed_10 : decode cX6_summed 10 = .ok (.lastore, 1) := by decide +kernel
theorem dX6_summed_11 : decode cX6_summed 11 = .ok (.dup, 1) := by decide +kernel
theorem dX6_summed_12 : decode cX6_summed 12 = .ok (.iconst 1, 1) := by decide +kernel
theorem dX6_summed_13 : decode cX6_summed 13 = .ok (.lconst 0, 1) := by decide +kernel
theorem dX6_summed_14 : decode cX6_summed 14 = .ok (.lastore, 1) := by decide +kernel
theorem dX6_summed_15 : decode cX6_summed 15 = .ok (.dup, 1) := by decide +kernel
theorem dX6_summed_16 : decode cX6_summed 16 = .ok (.iconst 2, 1) := by decide +kernel
theorem dX6_summed_17 : decode cX6_summed 17 = .ok (.ldc2_w 130, 3) := by decide +kernel
theorem dX6_summed_20 : decode cX6_summed 20 = .ok (.lastore, 1) := by decide +kernel
theorem dX6_summed_21 : decode cX6_summed 21 = .ok (.dup, 1) := by decide +kernel
theorem dX6_summed_22 : decode cX6_summed 22 = .ok (.iconst 3, 1) := by decide +kernel
theorem dX6_summed_23 : decode cX6_summed 23 = .ok (.ldc2_w 130, 3) := by decide +kernel
theorem dX6_summed_26 : decode cX6_summed 26 = .ok (.lastore, 1) := by decide +kernel
theorem dX6_summed_27 : decode cX6_summed 27 = .ok (.dup, 1) := by decide +kernel
theorem dX6_summed_28 : decode cX6_summed 28 = .ok (.iconst 4, 1) := by decide +kernel
theorem dX6_summed_29 : decode cX6_summed 29 = .ok (.ldc2_w 130, 3) := by decide +kernel
theorem dX6_summed_32 : decode cX6_summed 32 = .ok (.lastore, 1) := by decide +kernel
theorem dX6_summed_33 : decode cX6_summed 33 = .ok (.astore 4, 2) := by decide +kernel
theorem dX6_summed_35 : decode cX6_summed 35 = .ok (.iload_n 1, 1) := by decide +kernel
theorem dX6_summed_36 : decode cX6_summed 36 = .ok (.istore 5, 2) := by decide +kernel
theorem dX6_summed_38 : decode cX6_summed 38 = .ok (.iload 5, 2) := by decide +kernel
theorem dX6_summed_40 : decode cX6_summed 40 = .ok (.iload_n 2, 1) := by decide +kernel
theorem dX6_summed_41 : decode cX6_summed 41 = .ok (.if_icmp .gt 125, 3) := by decide +kernel
theorem dX6_summed_44 : decode cX6_summed 44 = .ok (.aload_n 0, 1) := by decide +kernel
theorem dX6_summed_45 : decode cX6_summed 45 = .ok (.getfield 48, 3) := by decide +kernel
theorem dX6_summed_48 : decode cX6_summed 48 = .ok (.iload 5, 2) := by decide +kernel
theorem dX6_summed_50 : decode cX6_summed 50 = .ok (.iaload, 1) := by decide +kernel
theorem dX6_summed_51 : decode cX6_summed 51 = .ok (.ifCond .ne 6, 3) := by decide +kernel
theorem dX6_summed_54 : decode cX6_summed 54 = .ok (.goto 106, 3) := by decide +kernel
theorem dX6_summed_57 : decode cX6_summed 57 = .ok (.aload 4, 2) := by decide +kernel
theorem dX6_summed_59 : decode cX6_summed 59 = .ok (.iconst 0, 1) := by decide +kernel
theorem dX6_summed_60 : decode cX6_summed 60 = .ok (.dup2, 1) := by decide +kernel
theorem dX6_summed_61 : decode cX6_summed 61 = .ok (.laload, 1) := by decide +kernel
theorem dX6_summed_62 : decode cX6_summed 62 = .ok (.lconst 1, 1) := by decide +kernel
theorem dX6_summed_63 : decode cX6_summed 63 = .ok (.ladd, 1) := by decide +kernel
theorem dX6_summed_64 : decode cX6_summed 64 = .ok (.lastore, 1) := by decide +kernel
theorem dX6_summed_65 : decode cX6_summed 65 = .ok (.aload 4, 2) := by decide +kernel
theorem dX6_summed_67 : decode cX6_summed 67 = .ok (.iconst 1, 1) := by decide +kernel
theorem dX6_summed_68 : decode cX6_summed 68 = .ok (.dup2, 1) := by decide +kernel
theorem dX6_summed_69 : decode cX6_summed 69 = .ok (.laload, 1) := by decide +kernel
theorem dX6_summed_70 : decode cX6_summed 70 = .ok (.aload_n 0, 1) := by decide +kernel
theorem dX6_summed_71 : decode cX6_summed 71 = .ok (.getfield 51, 3) := by decide +kernel
theorem dX6_summed_74 : decode cX6_summed 74 = .ok (.iload 5, 2) := by decide +kernel
theorem dX6_summed_76 : decode cX6_summed 76 = .ok (.laload, 1) := by decide +kernel
theorem dX6_summed_77 : decode cX6_summed 77 = .ok (.ladd, 1) := by decide +kernel
theorem dX6_summed_78 : decode cX6_summed 78 = .ok (.lastore, 1) := by decide +kernel
theorem dX6_summed_79 : decode cX6_summed 79 = .ok (.aload 4, 2) := by decide +kernel
theorem dX6_summed_81 : decode cX6_summed 81 = .ok (.iconst 2, 1) := by decide +kernel
theorem dX6_summed_82 : decode cX6_summed 82 = .ok (.laload, 1) := by decide +kernel
theorem dX6_summed_83 : decode cX6_summed 83 = .ok (.ldc2_w 130, 3) := by decide +kernel
theorem dX6_summed_86 : decode cX6_summed 86 = .ok (.lcmp, 1) := by decide +kernel
theorem dX6_summed_87 : decode cX6_summed 87 = .ok (.ifCond .eq 18, 3) := by decide +kernel
theorem dX6_summed_90 : decode cX6_summed 90 = .ok (.aload_n 0, 1) := by decide +kernel
theorem dX6_summed_91 : decode cX6_summed 91 = .ok (.getfield 51, 3) := by decide +kernel
theorem dX6_summed_94 : decode cX6_summed 94 = .ok (.iload 5, 2) := by decide +kernel
theorem dX6_summed_96 : decode cX6_summed 96 = .ok (.laload, 1) := by decide +kernel
theorem dX6_summed_97 : decode cX6_summed 97 = .ok (.aload 4, 2) := by decide +kernel
theorem dX6_summed_99 : decode cX6_summed 99 = .ok (.iconst 2, 1) := by decide +kernel
theorem dX6_summed_100 : decode cX6_summed 100 = .ok (.laload, 1) := by decide +kernel
theorem dX6_summed_101 : decode cX6_summed 101 = .ok (.lcmp, 1) := by decide +kernel
theorem dX6_summed_102 : decode cX6_summed 102 = .ok (.ifCond .le 21, 3) := by decide +kernel
theorem dX6_summed_105 : decode cX6_summed 105 = .ok (.aload 4, 2) := by decide +kernel
theorem dX6_summed_107 : decode cX6_summed 107 = .ok (.iconst 2, 1) := by decide +kernel
theorem dX6_summed_108 : decode cX6_summed 108 = .ok (.aload_n 0, 1) := by decide +kernel
theorem dX6_summed_109 : decode cX6_summed 109 = .ok (.getfield 51, 3) := by decide +kernel
theorem dX6_summed_112 : decode cX6_summed 112 = .ok (.iload 5, 2) := by decide +kernel
theorem dX6_summed_114 : decode cX6_summed 114 = .ok (.laload, 1) := by decide +kernel
theorem dX6_summed_115 : decode cX6_summed 115 = .ok (.lastore, 1) := by decide +kernel
theorem dX6_summed_116 : decode cX6_summed 116 = .ok (.aload 4, 2) := by decide +kernel
theorem dX6_summed_118 : decode cX6_summed 118 = .ok (.iconst 4, 1) := by decide +kernel
theorem dX6_summed_119 : decode cX6_summed 119 = .ok (.iload 5, 2) := by decide +kernel
theorem dX6_summed_121 : decode cX6_summed 121 = .ok (.i2l, 1) := by decide +kernel
theorem dX6_summed_122 : decode cX6_summed 122 = .ok (.lastore, 1) := by decide +kernel
theorem dX6_summed_123 : decode cX6_summed 123 = .ok (.aload 4, 2) := by decide +kernel
theorem dX6_summed_125 : decode cX6_summed 125 = .ok (.iconst 3, 1) := by decide +kernel
theorem dX6_summed_126 : decode cX6_summed 126 = .ok (.laload, 1) := by decide +kernel
theorem dX6_summed_127 : decode cX6_summed 127 = .ok (.ldc2_w 130, 3) := by decide +kernel
theorem dX6_summed_130 : decode cX6_summed 130 = .ok (.lcmp, 1) := by decide +kernel
theorem dX6_summed_131 : decode cX6_summed 131 = .ok (.ifCond .eq 18, 3) := by decide +kernel
theorem dX6_summed_134 : decode cX6_summed 134 = .ok (.aload_n 0, 1) := by decide +kernel
theorem dX6_summed_135 : decode cX6_summed 135 = .ok (.getfield 51, 3) := by decide +kernel
theorem dX6_summed_138 : decode cX6_summed 138 = .ok (.iload 5, 2) := by decide +kernel
theorem dX6_summed_140 : decode cX6_summed 140 = .ok (.laload, 1) := by decide +kernel
theorem dX6_summed_141 : decode cX6_summed 141 = .ok (.aload 4, 2) := by decide +kernel
theorem dX6_summed_143 : decode cX6_summed 143 = .ok (.iconst 3, 1) := by decide +kernel
theorem dX6_summed_144 : decode cX6_summed 144 = .ok (.laload, 1) := by decide +kernel
theorem dX6_summed_145 : decode cX6_summed 145 = .ok (.lcmp, 1) := by decide +kernel
theorem dX6_summed_146 : decode cX6_summed 146 = .ok (.ifCond .ge 14, 3) := by decide +kernel
theorem dX6_summed_149 : decode cX6_summed 149 = .ok (.aload 4, 2) := by decide +kernel
theorem dX6_summed_151 : decode cX6_summed 151 = .ok (.iconst 3, 1) := by decide +kernel
theorem dX6_summed_152 : decode cX6_summed 152 = .ok (.aload_n 0, 1) := by decide +kernel
theorem dX6_summed_153 : decode cX6_summed 153 = .ok (.getfield 51, 3) := by decide +kernel
theorem dX6_summed_156 : decode cX6_summed 156 = .ok (.iload 5, 2) := by decide +kernel
theorem dX6_summed_158 : decode cX6_summed 158 = .ok (.laload, 1) := by decide +kernel
theorem dX6_summed_159 : decode cX6_summed 159 = .ok (.lastore, 1) := by decide +kernel
theorem dX6_summed_160 : decode cX6_summed 160 = .ok (.iinc 5 1, 3) := by decide +kernel
theorem dX6_summed_163 : decode cX6_summed 163 = .ok (.goto (-125), 3) := by decide +kernel
theorem dX6_summed_166 : decode cX6_summed 166 = .ok (.aload 4, 2) := by decide +kernel
theorem dX6_summed_168 : decode cX6_summed 168 = .ok (.iload_n 3, 1) := by decide +kernel
theorem dX6_summed_169 : decode cX6_summed 169 = .ok (.laload, 1) := by decide +kernel
theorem dX6_summed_170 : decode cX6_summed 170 = .ok (.lreturn, 1) := by decide +kernel
set_option maxRecDepth 20000 in
theorem ggX6_sum_X6_isIn : GoodIn wsX6_sum wsX6_isIn := goodIn_r _ [6] (by decide +kernel) (by decide +kernel)
set_option maxRecDepth 20000 in
theorem gX6_sum_X6_isIn : GoodIn wsX6_sum (va_wsS RX6 60 yX6_isIn wsX6_isIn) := goodIn_app (goodIn_of _ (by decide +kernel)) ggX6_sum_X6_isIn
set_option maxRecDepth 20000 in
theorem ggX6_sum_X6_isSpan : GoodIn wsX6_sum wsX6_isSpan := goodIn_r _ [9] (by decide +kernel) (by decide +kernel)
set_option maxRecDepth 20000 in
theorem gX6_sum_X6_isSpan : GoodIn wsX6_sum (va_wsS RX6 141 yX6_isSpan wsX6_isSpan) := goodIn_app (goodIn_of _ (by decide +kernel)) ggX6_sum_X6_isSpan
set_option maxRecDepth 20000 in
theorem ggX6_sum_X6_summed : GoodIn wsX6_sum wsX6_summed := goodIn_r _ [13, 14, 15, 16, 17, 18, 19, 20, 5, 21, 22, 23, 24, 25, 26, 27, 28, 29, 30, 31, 32, 33, 34, 35, 36, 37, 38, 39, 40, 41, 42, 43, 44, 45, 46, 47, 48, 49, 50, 51, 52, 53, 54, 55, 56, 57, 58, 59, 60, 61, 62, 63, 64, 65, 66, 67, 68, 69, 70, 71, 72, 73, 74] (by decide +kernel) (by decide +kernel)
set_option maxRecDepth 20000 in
theorem gX6_sum_X6_summed : GoodIn wsX6_sum (wsV RX6 144 RX6 yX6_summed wsX6_summed) := goodIn_app (goodIn_of _ (by decide +kernel)) ggX6_sum_X6_summed
theorem dX6_sum_0 : decode cX6_sum 0 = .ok (.aload_n 0, 1) := by decide +kernel
theorem dX6_sum_1 : decode cX6_sum 1 = .ok (.iload_n 3, 1) := by decide +kernel
theorem dX6_sum_2 : decode cX6_sum 2 = .ok (.i2l, 1) := by decide +kernel
theorem dX6_sum_3 : decode cX6_sum 3 = .ok (.lconst 0, 1) := by decide +kernel
theorem dX6_sum_4 : decode cX6_sum 4 = .ok (.ldc2_w 139, 3) := by decide +kernel
theorem dX6_sum_7 : decode cX6_sum 7 = .ok (.invokestatic 60, 3) := by decide +kernel
theorem dX6_sum_10 : decode cX6_sum 10 = .ok (.ifCond .ne 7, 3) := by decide +kernel
theorem dX6_sum_13 : decode cX6_sum 13 = .ok (.iconst 1, 1) := by decide +kernel
theorem dX6_sum_14 : decode cX6_sum 14 = .ok (.goto 16, 3) := by decide +kernel
theorem dX6_sum_17 : decode cX6_sum 17 = .ok (.iload_n 1, 1) := by decide +kernel
theorem dX6_sum_18 : decode cX6_sum 18 = .ok (.iload_n 2, 1) := by decide +kernel
theorem dX6_sum_19 : decode cX6_sum 19 = .ok (.invokestatic 141, 3) := by decide +kernel
theorem dX6_sum_22 : decode cX6_sum 22 = .ok (.ifCond .ne 7, 3) := by decide +kernel
theorem dX6_sum_25 : decode cX6_sum 25 = .ok (.iconst 2, 1) := by decide +kernel
theorem dX6_sum_26 : decode cX6_sum 26 = .ok (.goto 4, 3) := by decide +kernel
theorem dX6_sum_29 : decode cX6_sum 29 = .ok (.iconst 0, 1) := by decide +kernel
theorem dX6_sum_30 : decode cX6_sum 30 = .ok (.putfield 55, 3) := by decide +kernel
theorem dX6_sum_33 : decode cX6_sum 33 = .ok (.aload_n 0, 1) := by decide +kernel
theorem dX6_sum_34 : decode cX6_sum 34 = .ok (.getfield 55, 3) := by decide +kernel
theorem dX6_sum_37 : decode cX6_sum 37 = .ok (.ifCond .ne 13, 3) := by decide +kernel
theorem dX6_sum_40 : decode cX6_sum 40 = .ok (.aload_n 0, 1) := by decide +kernel
theorem dX6_sum_41 : decode cX6_sum 41 = .ok (.iload_n 1, 1) := by decide +kernel
theorem dX6_sum_42 : decode cX6_sum 42 = .ok (.iload_n 2, 1) := by decide +kernel
theorem dX6_sum_43 : decode cX6_sum 43 = .ok (.iload_n 3, 1) := by decide +kernel
theorem dX6_sum_44 : decode cX6_sum 44 = .ok (.invokevirtual 144, 3) := by decide +kernel
theorem dX6_sum_47 : decode cX6_sum 47 = .ok (.goto 4, 3) := by decide +kernel
theorem dX6_sum_50 : decode cX6_sum 50 = .ok (.lconst 0, 1) := by decide +kernel
theorem dX6_sum_51 : decode cX6_sum 51 = .ok (.lreturn, 1) := by decide +kernel
set_option maxRecDepth 20000 in
theorem ggX6_mean_X6_isSpan : GoodIn wsX6_mean wsX6_isSpan := goodIn_r _ [5] (by decide +kernel) (by decide +kernel)
set_option maxRecDepth 20000 in
theorem gX6_mean_X6_isSpan : GoodIn wsX6_mean (va_wsS RX6 141 yX6_isSpan wsX6_isSpan) := goodIn_app (goodIn_of _ (by decide +kernel)) ggX6_mean_X6_isSpan
set_option maxRecDepth 20000 in
theorem ggX6_mean_X6_summed : GoodIn wsX6_mean wsX6_summed := goodIn_r _ [9, 10, 11, 12, 13, 14, 15, 16, 4, 17, 18, 19, 20, 21, 22, 23, 24, 25, 26, 27, 28, 29, 30, 31, 32, 33, 34, 35, 36, 37, 38, 39, 40, 41, 42, 43, 44, 45, 46, 47, 48, 49, 50, 51, 52, 53, 54, 55, 56, 57, 58, 59, 60, 61, 62, 63, 64, 65, 66, 67, 68, 69, 70] (by decide +kernel) (by decide +kernel)
set_option maxRecDepth 20000 in
theorem gX6_mean_X6_summed : GoodIn wsX6_mean (wsV RX6 144 RX6 yX6_summed wsX6_summed) := goodIn_app (goodIn_of _ (by decide +kernel)) ggX6_mean_X6_summed
theorem dX6_mean_0 : decode cX6_mean 0 = .ok (.aload_n 0, 1) := by decide +kernel
theorem dX6_mean_1 : decode cX6_mean 1 = .ok (.iload_n 1, 1) := by decide +kernel
theorem dX6_mean_2 : decode cX6_mean 2 = .ok (.iload_n 2, 1) := by decide +kernel
theorem dX6_mean_3 : decode cX6_mean 3 = .ok (.invokestatic 141, 3) := by decide +kernel
theorem dX6_mean_6 : decode cX6_mean 6 = .ok (.ifCond .eq 7, 3) := by decide +kernel
theorem dX6_mean_9 : decode cX6_mean 9 = .ok (.iconst 0, 1) := by decide +kernel
theorem dX6_mean_10 : decode cX6_mean 10 = .ok (.goto 4, 3) := by decide +kernel
theorem dX6_mean_13 : decode cX6_mean 13 = .ok (.iconst 1, 1) := by decide +kernel
theorem dX6_mean_14 : decode cX6_mean 14 = .ok (.putfield 55, 3) := by decide +kernel
theorem dX6_mean_17 : decode cX6_mean 17 = .ok (.aload_n 0, 1) := by decide +kernel
theorem dX6_mean_18 : decode cX6_mean 18 = .ok (.getfield 55, 3) := by decide +kernel
theorem dX6_mean_21 : decode cX6_mean 21 = .ok (.ifCond .eq 5, 3) := by decide +kernel
theorem dX6_mean_24 : decode cX6_mean 24 = .ok (.dconst 0, 1) := by decide +kernel
theorem dX6_mean_25 : decode cX6_mean 25 = .ok (.dreturn, 1) := by decide +kernel
theorem dX6_mean_26 : decode cX6_mean 26 = .ok (.aload_n 0, 1) := by decide +kernel
theorem dX6_mean_27 : decode cX6_mean 27 = .ok (.iload_n 1, 1) := by decide +kernel
theorem dX6_mean_28 : decode cX6_mean 28 = .ok (.iload_n 2, 1) := by decide +kernel
theorem dX6_mean_29 : decode cX6_mean 29 = .ok (.iconst 0, 1) := by decide +kernel
theorem dX6_mean_30 : decode cX6_mean 30 = .ok (.invokevirtual 144, 3) := by decide +kernel
theorem dX6_mean_33 : decode cX6_mean 33 = .ok (.lstore_n 3, 1) := by decide +kernel
theorem dX6_mean_34 : decode cX6_mean 34 = .ok (.lload_n 3, 1) := by decide +kernel
theorem dX6_mean_35 : decode cX6_mean 35 = .ok (.lconst 0, 1) := by decide +kernel
theorem dX6_mean_36 : decode cX6_mean 36 = .ok (.lcmp, 1) := by decide +kernel
theorem dX6_mean_37 : decode cX6_mean 37 = .ok (.ifCond .ne 7, 3) := by decide +kernel
theorem dX6_mean_40 : decode cX6_mean 40 = .ok (.dconst 0, 1) := by decide +kernel
theorem dX6_mean_41 : decode cX6_mean 41 = .ok (.goto 14, 3) := by decide +kernel
theorem dX6_mean_44 : decode cX6_mean 44 = .ok (.aload_n 0, 1) := by decide +kernel
theorem dX6_mean_45 : decode cX6_mean 45 = .ok (.iload_n 1, 1) := by decide +kernel
theorem dX6_mean_46 : decode cX6_mean 46 = .ok (.iload_n 2, 1) := by decide +kernel
theorem dX6_mean_47 : decode cX6_mean 47 = .ok (.iconst 1, 1) := by decide +kernel
theorem dX6_mean_48 : decode cX6_mean 48 = .ok (.invokevirtual 144, 3) := by decide +kernel
theorem dX6_mean_51 : decode cX6_mean 51 = .ok (.l2d, 1) := by decide +kernel
theorem dX6_mean_52 : decode cX6_mean 52 = .ok (.lload_n 3, 1) := by decide +kernel
theorem dX6_mean_53 : decode cX6_mean 53 = .ok (.l2d, 1) := by decide +kernel
theorem dX6_mean_54 : decode cX6_mean 54 = .ok (.ddiv, 1) := by decide +kernel
theorem dX6_mean_55 : decode cX6_mean 55 = .ok (.dreturn, 1) := by decide +kernel
set_option maxRecDepth 20000 in
theorem ggX6_reached_X6_isIn : GoodIn wsX6_reached wsX6_isIn := goodIn_r _ [13] (by decide +kernel) (by decide +kernel)
set_option maxRecDepth 20000 in
theorem gX6_reached_X6_isIn : GoodIn wsX6_reached (va_wsS RX6 60 yX6_isIn wsX6_isIn) := goodIn_app (goodIn_of _ (by decide +kernel)) ggX6_reached_X6_isIn
set_option maxRecDepth 20000 in
theorem ggX6_reached_X6_summed : GoodIn wsX6_reached wsX6_summed := goodIn_r _ [17, 18, 7, 8, 9, 19, 20, 21, 12, 22, 23, 24, 25, 26, 27, 1, 28, 29, 30, 31, 32, 33, 34, 35, 36, 37, 38, 39, 40, 41, 42, 43, 44, 45, 46, 47, 48, 49, 50, 51, 52, 53, 54, 55, 56, 57, 58, 59, 60, 61, 62, 63, 64, 65, 66, 67, 68, 69, 70, 71, 72, 73, 74] (by decide +kernel) (by decide +kernel)
set_option maxRecDepth 20000 in
theorem gX6_reached_X6_summed : GoodIn wsX6_reached (wsV RX6 144 RX6 yX6_summed wsX6_summed) := goodIn_app (goodIn_of _ (by decide +kernel)) ggX6_reached_X6_summed
theorem dX6_reached_0 : decode cX6_reached 0 = .ok (.aload_n 0, 1) := by decide +kernel
theorem dX6_reached_1 : decode cX6_reached 1 = .ok (.iload_n 1, 1) := by decide +kernel
theorem dX6_reached_2 : decode cX6_reached 2 = .ok (.i2l, 1) := by decide +kernel
theorem dX6_reached_3 : decode cX6_reached 3 = .ok (.lconst 1, 1) := by decide +kernel
theorem dX6_reached_4 : decode cX6_reached 4 = .ok (.ldc2_w 126, 3) := by decide +kernel
theorem dX6_reached_7 : decode cX6_reached 7 = .ok (.invokestatic 60, 3) := by decide +kernel
theorem dX6_reached_10 : decode cX6_reached 10 = .ok (.ifCond .eq 7, 3) := by decide +kernel
theorem dX6_reached_13 : decode cX6_reached 13 = .ok (.iconst 0, 1) := by decide +kernel
theorem dX6_reached_14 : decode cX6_reached 14 = .ok (.goto 4, 3) := by decide +kernel
theorem dX6_reached_17 : decode cX6_reached 17 = .ok (.iconst 1, 1) := by decide +kernel
theorem dX6_reached_18 : decode cX6_reached 18 = .ok (.putfield 55, 3) := by decide +kernel
theorem dX6_reached_21 : decode cX6_reached 21 = .ok (.aload_n 0, 1) := by decide +kernel
theorem dX6_reached_22 : decode cX6_reached 22 = .ok (.getfield 55, 3) := by decide +kernel
theorem dX6_reached_25 : decode cX6_reached 25 = .ok (.ifCond .eq 5, 3) := by decide +kernel
theorem dX6_reached_28 : decode cX6_reached 28 = .ok (.lconst 0, 1) := by decide +kernel
theorem dX6_reached_29 : decode cX6_reached 29 = .ok (.lreturn, 1) := by decide +kernel
theorem dX6_reached_30 : decode cX6_reached 30 = .ok (.aload_n 0, 1) := by decide +kernel
theorem dX6_reached_31 : decode cX6_reached 31 = .ok (.iconst 0, 1) := by decide +kernel
theorem dX6_reached_32 : decode cX6_reached 32 = .ok (.sipush 399, 3) := by decide +kernel
theorem dX6_reached_35 : decode cX6_reached 35 = .ok (.iconst 0, 1) := by decide +kernel
theorem dX6_reached_36 : decode cX6_reached 36 = .ok (.invokevirtual 144, 3) := by decide +kernel
theorem dX6_reached_39 : decode cX6_reached 39 = .ok (.l2i, 1) := by decide +kernel
theorem dX6_reached_40 : decode cX6_reached 40 = .ok (.istore_n 2, 1) := by decide +kernel
theorem dX6_reached_41 : decode cX6_reached 41 = .ok (.iconst 1, 1) := by decide +kernel
theorem dX6_reached_42 : decode cX6_reached 42 = .ok (.iload_n 2, 1) := by decide +kernel
theorem dX6_reached_43 : decode cX6_reached 43 = .ok (.iload_n 1, 1) := by decide +kernel
theorem dX6_reached_44 : decode cX6_reached 44 = .ok (.imul, 1) := by decide +kernel
theorem dX6_reached_45 : decode cX6_reached 45 = .ok (.bipush 100, 2) := by decide +kernel
theorem dX6_reached_47 : decode cX6_reached 47 = .ok (.idiv, 1) := by decide +kernel
theorem dX6_reached_48 : decode cX6_reached 48 = .ok (.invokestatic 148, 3) := by decide +kernel
theorem dX6_reached_51 : decode cX6_reached 51 = .ok (.istore_n 3, 1) := by decide +kernel
theorem dX6_reached_52 : decode cX6_reached 52 = .ok (.ldc2_w 130, 3) := by decide +kernel
theorem dX6_reached_55 : decode cX6_reached 55 = .ok (.lstore 4, 2) := by decide +kernel
theorem dX6_reached_57 : decode cX6_reached 57 = .ok (.iconst 0, 1) := by decide +kernel
theorem dX6_reached_58 : decode cX6_reached 58 = .ok (.istore 6, 2) := by decide +kernel
theorem dX6_reached_60 : decode cX6_reached 60 = .ok (.iload 6, 2) := by decide +kernel
theorem dX6_reached_62 : decode cX6_reached 62 = .ok (.sipush 400, 3) := by decide +kernel
theorem dX6_reached_65 : decode cX6_reached 65 = .ok (.if_icmp .ge 108, 3) := by decide +kernel
theorem dX6_reached_68 : decode cX6_reached 68 = .ok (.aload_n 0, 1) := by decide +kernel
theorem dX6_reached_69 : decode cX6_reached 69 = .ok (.getfield 48, 3) := by decide +kernel
theorem dX6_reached_72 : decode cX6_reached 72 = .ok (.iload 6, 2) := by decide +kernel
theorem dX6_reached_74 : decode cX6_reached 74 = .ok (.iaload, 1) := by decide +kernel
theorem dX6_reached_75 : decode cX6_reached 75 = .ok (.ifCond .eq 92, 3) := by decide +kernel
theorem dX6_reached_78 : decode cX6_reached 78 = .ok (.aload_n 0, 1) := by decide +kernel
theorem dX6_reached_79 : decode cX6_reached 79 = .ok (.getfield 51, 3) := by decide +kernel
theorem dX6_reached_82 : decode cX6_reached 82 = .ok (.iload 6, 2) := by decide +kernel
theorem dX6_reached_84 : decode cX6_reached 84 = .ok (.laload, 1) := by decide +kernel
theorem dX6_reached_85 : decode cX6_reached 85 = .ok (.lload 4, 2) := by decide +kernel
theorem dX6_reached_87 : decode cX6_reached 87 = .ok (.lcmp, 1) := by decide +kernel
theorem dX6_reached_88 : decode cX6_reached 88 = .ok (.ifCond .gt 6, 3) := by decide +kernel
theorem dX6_reached_91 : decode cX6_reached 91 = .ok (.goto 76, 3) := by decide +kernel
theorem dX6_reached_94 : decode cX6_reached 94 = .ok (.iconst 0, 1) := by decide +kernel
theorem dX6_reached_95 : decode cX6_reached 95 = .ok (.istore 7, 2) := by decide +kernel
theorem dX6_reached_97 : decode cX6_reached 97 = .ok (.iconst 0, 1) := by decide +kernel
theorem dX6_reached_98 : decode cX6_reached 98 = .ok (.istore 8, 2) := by decide +kernel
theorem dX6_reached_100 : decode cX6_reached 100 = .ok (.iload 8, 2) := by decide +kernel
theorem dX6_reached_102 : decode cX6_reached 102 = .ok (.sipush 400, 3) := by decide +kernel
theorem dX6_reached_105 : decode cX6_reached 105 = .ok (.if_icmp .ge 47, 3) := by decide +kernel
theorem dX6_reached_108 : decode cX6_reached 108 = .ok (.iload 7, 2) := by decide +kernel
theorem dX6_reached_110 : decode cX6_reached 110 = .ok (.aload_n 0, 1) := by decide +kernel
theorem dX6_reached_111 : decode cX6_reached 111 = .ok (.getfield 48, 3) := by decide +kernel
theorem dX6_reached_114 : decode cX6_reached 114 = .ok (.iload 8, 2) := by decide +kernel
theorem dX6_reached_116 : decode cX6_reached 116 = .ok (.iaload, 1) := by decide +kernel
theorem dX6_reached_117 : decode cX6_reached 117 = .ok (.ifCond .eq 25, 3) := by decide +kernel
theorem dX6_reached_120 : decode cX6_reached 120 = .ok (.aload_n 0, 1) := by decide +kernel
theorem dX6_reached_121 : decode cX6_reached 121 = .ok (.getfield 51, 3) := by decide +kernel
theorem dX6_reached_124 : decode cX6_reached 124 = .ok (.iload 8, 2) := by decide +kernel
theorem dX6_reached_126 : decode cX6_reached 126 = .ok (.laload, 1) := by decide +kernel
theorem dX6_reached_127 : decode cX6_reached 127 = .ok (.aload_n 0, 1) := by decide +kernel
theorem dX6_reached_128 : decode cX6_reached 128 = .ok (.getfield 51, 3) := by decide +kernel
theorem dX6_reached_131 : decode cX6_reached 131 = .ok (.iload 6, 2) := by decide +kernel
theorem dX6_reached_133 : decode cX6_reached 133 = .ok (.laload, 1) := by decide +kernel
theorem dX6_reached_134 : decode cX6_reached 134 = .ok (.lcmp, 1) := by decide +kernel
theorem dX6_reached_135 : decode cX6_reached 135 = .ok (.ifCond .lt 7, 3) := by decide +kernel
theorem dX6_reached_138 : decode cX6_reached 138 = .ok (.iconst 1, 1) := by decide +kernel
theorem dX6_reached_139 : decode cX6_reached 139 = .ok (.goto 4, 3) := by decide +kernel
theorem dX6_reached_142 : decode cX6_reached 142 = .ok (.iconst 0, 1) := by decide +kernel
theorem dX6_reached_143 : decode cX6_reached 143 = .ok (.iadd, 1) := by decide +kernel
theorem dX6_reached_144 : decode cX6_reached 144 = .ok (.istore 7, 2) := by decide +kernel
theorem dX6_reached_146 : decode cX6_reached 146 = .ok (.iinc 8 1, 3) := by decide +kernel
theorem dX6_reached_149 : decode cX6_reached 149 = .ok (.goto (-49), 3) := by decide +kernel
theorem dX6_reached_152 : decode cX6_reached 152 = .ok (.iload 7, 2) := by decide +kernel
theorem dX6_reached_154 : decode cX6_reached 154 = .ok (.iload_n 3, 1) := by decide +kernel
theorem dX6_reached_155 : decode cX6_reached 155 = .ok (.if_icmp .lt 12, 3) := by decide +kernel
theorem dX6_reached_158 : decode cX6_reached 158 = .ok (.aload_n 0, 1) := by decide +kernel
theorem dX6_reached_159 : decode cX6_reached 159 = .ok (.getfield 51, 3) := by decide +kernel
theorem dX6_reached_162 : decode cX6_reached 162 = .ok (.iload 6, 2) := by decide +kernel
theorem dX6_reached_164 : decode cX6_reached 164 = .ok (.laload, 1) := by decide +kernel
theorem dX6_reached_165 : decode cX6_reached 165 = .ok (.lstore 4, 2) := by decide +kernel
theorem dX6_reached_167 : decode cX6_reached 167 = .ok (.iinc 6 1, 3) := by decide +kernel
theorem dX6_reached_170 : decode cX6_reached 170 = .ok (.goto (-110), 3) := by decide +kernel
theorem dX6_reached_173 : decode cX6_reached 173 = .ok (.lload 4, 2) := by decide +kernel
theorem dX6_reached_175 : decode cX6_reached 175 = .ok (.lreturn, 1) := by decide +kernel
set_option maxRecDepth 20000 in
theorem ggX6_peaks_X6_isIn : GoodIn wsX6_peaks wsX6_isIn := goodIn_r _ [13] (by decide +kernel) (by decide +kernel)
set_option maxRecDepth 20000 in
theorem gX6_peaks_X6_isIn : GoodIn wsX6_peaks (va_wsS RX6 60 yX6_isIn wsX6_isIn) := goodIn_app (goodIn_of _ (by decide +kernel)) ggX6_peaks_X6_isIn
set_option maxRecDepth 20000 in
theorem ggX6_peaks_X6_fail : GoodIn wsX6_peaks wsX6_fail := goodIn_r _ [17, 1, 56, 57, 58, 59, 60, 61, 62, 63, 64, 65, 66, 67, 68, 69, 70, 71, 72, 73, 74] (by decide +kernel) (by decide +kernel)
set_option maxRecDepth 20000 in
theorem gX6_peaks_X6_fail : GoodIn wsX6_peaks (wsV RX6 73 RX6 yX6_fail wsX6_fail) := goodIn_app (goodIn_of _ (by decide +kernel)) ggX6_peaks_X6_fail
set_option maxRecDepth 20000 in
theorem ggX6_peaks_X6_workOut : GoodIn wsX6_peaks wsX6_workOut := goodIn_r _ [21, 22, 4, 5, 23, 24, 25, 26, 27, 2, 28, 29, 30, 31, 12, 32, 33, 34, 35, 36, 37, 38, 39, 40, 41, 42, 43, 44, 45, 46, 47, 48, 49, 50, 51, 52, 53, 54, 55, 56, 57, 58, 59, 60, 61, 62, 63, 64, 65, 66, 67, 68, 69, 70, 71, 72, 73, 74] (by decide +kernel) (by decide +kernel)
set_option maxRecDepth 20000 in
theorem gX6_peaks_X6_workOut : GoodIn wsX6_peaks (wsV RX6 136 RX6 yX6_workOut wsX6_workOut) := goodIn_app (goodIn_of _ (by decide +kernel)) ggX6_peaks_X6_workOut
theorem dX6_peaks_0 : decode cX6_peaks 0 = .ok (.aload_n 0, 1) := by decide +kernel
theorem dX6_peaks_1 : decode cX6_peaks 1 = .ok (.iconst 0, 1) := by decide +kernel
theorem dX6_peaks_2 : decode cX6_peaks 2 = .ok (.putfield 55, 3) := by decide +kernel
theorem dX6_peaks_5 : decode cX6_peaks 5 = .ok (.lload_n 1, 1) := by decide +kernel
theorem dX6_peaks_6 : decode cX6_peaks 6 = .ok (.lconst 0, 1) := by decide +kernel
theorem dX6_peaks_7 : decode cX6_peaks 7 = .ok (.lcmp, 1) := by decide +kernel
theorem dX6_peaks_8 : decode cX6_peaks 8 = .ok (.ifCond .lt 15, 3) := by decide +kernel
theorem dX6_peaks_11 : decode cX6_peaks 11 = .ok (.iload_n 3, 1) := by decide +kernel
theorem dX6_peaks_12 : decode cX6_peaks 12 = .ok (.i2l, 1) := by decide +kernel
theorem dX6_peaks_13 : decode cX6_peaks 13 = .ok (.lconst 1, 1) := by decide +kernel
theorem dX6_peaks_14 : decode cX6_peaks 14 = .ok (.ldc2_w 126, 3) := by decide +kernel
theorem dX6_peaks_17 : decode cX6_peaks 17 = .ok (.invokestatic 60, 3) := by decide +kernel
theorem dX6_peaks_20 : decode cX6_peaks 20 = .ok (.ifCond .ne 9, 3) := by decide +kernel
theorem dX6_peaks_23 : decode cX6_peaks 23 = .ok (.aload_n 0, 1) := by decide +kernel
theorem dX6_peaks_24 : decode cX6_peaks 24 = .ok (.iconst 1, 1) := by decide +kernel
theorem dX6_peaks_25 : decode cX6_peaks 25 = .ok (.invokevirtual 73, 3) := by decide +kernel
theorem dX6_peaks_28 : decode cX6_peaks 28 = .ok (.ireturn, 1) := by decide +kernel
theorem dX6_peaks_29 : decode cX6_peaks 29 = .ok (.aload_n 0, 1) := by decide +kernel
theorem dX6_peaks_30 : decode cX6_peaks 30 = .ok (.invokevirtual 136, 3) := by decide +kernel
theorem dX6_peaks_33 : decode cX6_peaks 33 = .ok (.sipush 400, 3) := by decide +kernel
theorem dX6_peaks_36 : decode cX6_peaks 36 = .ok (.newarray .boolean, 2) := by decide +kernel
theorem dX6_peaks_38 : decode cX6_peaks 38 = .ok (.astore 4, 2) := by decide +kernel
theorem dX6_peaks_40 : decode cX6_peaks 40 = .ok (.iconst 0, 1) := by decide +kernel
theorem dX6_peaks_41 : decode cX6_peaks 41 = .ok (.istore 5, 2) := by decide +kernel
theorem dX6_peaks_43 : decode cX6_peaks 43 = .ok (.iconst 0, 1) := by decide +kernel
theorem dX6_peaks_44 : decode cX6_peaks 44 = .ok (.istore 6, 2) := by decide +kernel
theorem dX6_peaks_46 : decode cX6_peaks 46 = .ok (.iload 6, 2) := by decide +kernel
theorem dX6_peaks_48 : decode cX6_peaks 48 = .ok (.iconst (-1), 1) := by decide +kernel
theorem dX6_peaks_49 : decode cX6_peaks 49 = .ok (.if_icmp .eq 153, 3) := by decide +kernel
theorem dX6_peaks_52 : decode cX6_peaks 52 = .ok (.iconst (-1), 1) := by decide +kernel
theorem dX6_peaks_53 : decode cX6_peaks 53 = .ok (.istore 6, 2) := by decide +kernel
theorem dX6_peaks_55 : decode cX6_peaks 55 = .ok (.iconst 0, 1) := by decide +kernel
theorem dX6_peaks_56 : decode cX6_peaks 56 = .ok (.istore 7, 2) := by decide +kernel
theorem dX6_peaks_58 : decode cX6_peaks 58 = .ok (.iload 7, 2) := by decide +kernel
theorem dX6_peaks_60 : decode cX6_peaks 60 = .ok (.sipush 400, 3) := by decide +kernel
theorem dX6_peaks_63 : decode cX6_peaks 63 = .ok (.if_icmp .ge 67, 3) := by decide +kernel
theorem dX6_peaks_66 : decode cX6_peaks 66 = .ok (.aload 4, 2) := by decide +kernel
theorem dX6_peaks_68 : decode cX6_peaks 68 = .ok (.iload 7, 2) := by decide +kernel
theorem dX6_peaks_70 : decode cX6_peaks 70 = .ok (.baload, 1) := by decide +kernel
theorem dX6_peaks_71 : decode cX6_peaks 71 = .ok (.ifCond .ne 53, 3) := by decide +kernel
theorem dX6_peaks_74 : decode cX6_peaks 74 = .ok (.aload_n 0, 1) := by decide +kernel
theorem dX6_peaks_75 : decode cX6_peaks 75 = .ok (.getfield 48, 3) := by decide +kernel
theorem dX6_peaks_78 : decode cX6_peaks 78 = .ok (.iload 7, 2) := by decide +kernel
theorem dX6_peaks_80 : decode cX6_peaks 80 = .ok (.iaload, 1) := by decide +kernel
theorem dX6_peaks_81 : decode cX6_peaks 81 = .ok (.ifCond .eq 43, 3) := by decide +kernel
theorem dX6_peaks_84 : decode cX6_peaks 84 = .ok (.aload_n 0, 1) := by decide +kernel
theorem dX6_peaks_85 : decode cX6_peaks 85 = .ok (.getfield 51, 3) := by decide +kernel
theorem dX6_peaks_88 : decode cX6_peaks 88 = .ok (.iload 7, 2) := by decide +kernel
theorem dX6_peaks_90 : decode cX6_peaks 90 = .ok (.laload, 1) := by decide +kernel
theorem dX6_peaks_91 : decode cX6_peaks 91 = .ok (.lload_n 1, 1) := by decide +kernel
theorem dX6_peaks_92 : decode cX6_peaks 92 = .ok (.lcmp, 1) := by decide +kernel
theorem dX6_peaks_93 : decode cX6_peaks 93 = .ok (.ifCond .lt 31, 3) := by decide +kernel
theorem dX6_peaks_96 : decode cX6_peaks 96 = .ok (.iload 6, 2) := by decide +kernel
theorem dX6_peaks_98 : decode cX6_peaks 98 = .ok (.iconst (-1), 1) := by decide +kernel
theorem dX6_peaks_99 : decode cX6_peaks 99 = .ok (.if_icmp .eq 21, 3) := by decide +kernel
theorem dX6_peaks_102 : decode cX6_peaks 102 = .ok (.aload_n 0, 1) := by decide +kernel
theorem dX6_peaks_103 : decode cX6_peaks 103 = .ok (.getfield 51, 3) := by decide +kernel
theorem dX6_peaks_106 : decode cX6_peaks 106 = .ok (.iload 7, 2) := by decide +kernel
theorem dX6_peaks_108 : decode cX6_peaks 108 = .ok (.laload, 1) := by decide +kernel
theorem dX6_peaks_109 : decode cX6_peaks 109 = .ok (.aload_n 0, 1) := by decide +kernel
theorem dX6_peaks_110 : decode cX6_peaks 110 = .ok (.getfield 51, 3) := by decide +kernel
theorem dX6_peaks_113 : decode cX6_peaks 113 = .ok (.iload 6, 2) := by decide +kernel
theorem dX6_peaks_115 : decode cX6_peaks 115 = .ok (.laload, 1) := by decide +kernel
theorem dX6_peaks_116 : decode cX6_peaks 116 = .ok (.lcmp, 1) := by decide +kernel
theorem dX6_peaks_117 : decode cX6_peaks 117 = .ok (.ifCond .le 7, 3) := by decide +kernel
theorem dX6_peaks_120 : decode cX6_peaks 120 = .ok (.iload 7, 2) := by decide +kernel
theorem dX6_peaks_122 : decode cX6_peaks 122 = .ok (.istore 6, 2) := by decide +kernel
theorem dX6_peaks_124 : decode cX6_peaks 124 = .ok (.iinc 7 1, 3) := by decide +kernel
theorem dX6_peaks_127 : decode cX6_peaks 127 = .ok (.goto (-69), 3) := by decide +kernel
theorem dX6_peaks_130 : decode cX6_peaks 130 = .ok (.iconst 0, 1) := by decide +kernel
theorem dX6_peaks_131 : decode cX6_peaks 131 = .ok (.istore 7, 2) := by decide +kernel
theorem dX6_peaks_133 : decode cX6_peaks 133 = .ok (.iload 7, 2) := by decide +kernel
theorem dX6_peaks_135 : decode cX6_peaks 135 = .ok (.sipush 400, 3) := by decide +kernel
theorem dX6_peaks_138 : decode cX6_peaks 138 = .ok (.if_icmp .ge 45, 3) := by decide +kernel
theorem dX6_peaks_141 : decode cX6_peaks 141 = .ok (.iload 6, 2) := by decide +kernel
theorem dX6_peaks_143 : decode cX6_peaks 143 = .ok (.iconst (-1), 1) := by decide +kernel
theorem dX6_peaks_144 : decode cX6_peaks 144 = .ok (.if_icmp .eq 39, 3) := by decide +kernel
theorem dX6_peaks_147 : decode cX6_peaks 147 = .ok (.aload 4, 2) := by decide +kernel
theorem dX6_peaks_149 : decode cX6_peaks 149 = .ok (.iload 7, 2) := by decide +kernel
theorem dX6_peaks_151 : decode cX6_peaks 151 = .ok (.aload 4, 2) := by decide +kernel
theorem dX6_peaks_153 : decode cX6_peaks 153 = .ok (.iload 7, 2) := by decide +kernel
theorem dX6_peaks_155 : decode cX6_peaks 155 = .ok (.baload, 1) := by decide +kernel
theorem dX6_peaks_156 : decode cX6_peaks 156 = .ok (.ifCond .ne 15, 3) := by decide +kernel
theorem dX6_peaks_159 : decode cX6_peaks 159 = .ok (.iload 7, 2) := by decide +kernel
theorem dX6_peaks_161 : decode cX6_peaks 161 = .ok (.iload 6, 2) := by decide +kernel
theorem dX6_peaks_163 : decode cX6_peaks 163 = .ok (.isub, 1) := by decide +kernel
theorem dX6_peaks_164 : decode cX6_peaks 164 = .ok (.invokestatic 153, 3) := by decide +kernel
theorem dX6_peaks_167 : decode cX6_peaks 167 = .ok (.iload_n 3, 1) := by decide +kernel
theorem dX6_peaks_168 : decode cX6_peaks 168 = .ok (.if_icmp .ge 7, 3) := by decide +kernel
theorem dX6_peaks_171 : decode cX6_peaks 171 = .ok (.iconst 1, 1) := by decide +kernel
theorem dX6_peaks_172 : decode cX6_peaks 172 = .ok (.goto 4, 3) := by decide +kernel
theorem dX6_peaks_175 : decode cX6_peaks 175 = .ok (.iconst 0, 1) := by decide +kernel
theorem dX6_peaks_176 : decode cX6_peaks 176 = .ok (.bastore, 1) := by decide +kernel
theorem dX6_peaks_177 : decode cX6_peaks 177 = .ok (.iinc 7 1, 3) := by decide +kernel
theorem dX6_peaks_180 : decode cX6_peaks 180 = .ok (.goto (-47), 3) := by decide +kernel
theorem dX6_peaks_183 : decode cX6_peaks 183 = .ok (.iload 5, 2) := by decide +kernel
theorem dX6_peaks_185 : decode cX6_peaks 185 = .ok (.iload 6, 2) := by decide +kernel
theorem dX6_peaks_187 : decode cX6_peaks 187 = .ok (.iconst (-1), 1) := by decide +kernel
theorem dX6_peaks_188 : decode cX6_peaks 188 = .ok (.if_icmp .ne 7, 3) := by decide +kernel
theorem dX6_peaks_191 : decode cX6_peaks 191 = .ok (.iconst 0, 1) := by decide +kernel
theorem dX6_peaks_192 : decode cX6_peaks 192 = .ok (.goto 4, 3) := by decide +kernel
theorem dX6_peaks_195 : decode cX6_peaks 195 = .ok (.iconst 1, 1) := by decide +kernel
theorem dX6_peaks_196 : decode cX6_peaks 196 = .ok (.iadd, 1) := by decide +kernel
theorem dX6_peaks_197 : decode cX6_peaks 197 = .ok (.istore 5, 2) := by decide +kernel
theorem dX6_peaks_199 : decode cX6_peaks 199 = .ok (.goto (-153), 3) := by decide +kernel
theorem dX6_peaks_202 : decode cX6_peaks 202 = .ok (.iload 5, 2) := by decide +kernel
theorem dX6_peaks_204 : decode cX6_peaks 204 = .ok (.ireturn, 1) := by decide +kernel
set_option maxRecDepth 20000 in
theorem ggX6_spell_X6_fail : GoodIn wsX6_spell wsX6_fail := goodIn_r _ [12, 1, 52, 53, 54, 55, 56, 57, 58, 59, 60, 61, 62, 63, 64, 65, 66, 67, 68, 69, 70] (by decide +kernel) (by decide +kernel)
set_option maxRecDepth 20000 in
theorem gX6_spell_X6_fail : GoodIn wsX6_spell (wsV RX6 73 RX6 yX6_fail wsX6_fail) := goodIn_app (goodIn_of _ (by decide +kernel)) ggX6_spell_X6_fail
set_option maxRecDepth 20000 in
theorem ggX6_spell_X6_workOut : GoodIn wsX6_spell wsX6_workOut := goodIn_r _ [16, 17, 2, 3, 18, 19, 20, 21, 22, 23, 24, 25, 26, 27, 11, 28, 29, 30, 31, 32, 33, 34, 35, 36, 37, 38, 39, 40, 41, 42, 43, 44, 45, 46, 47, 48, 49, 50, 51, 52, 53, 54, 55, 56, 57, 58, 59, 60, 61, 62, 63, 64, 65, 66, 67, 68, 69, 70] (by decide +kernel) (by decide +kernel)
set_option maxRecDepth 20000 in
theorem gX6_spell_X6_workOut : GoodIn wsX6_spell (wsV RX6 136 RX6 yX6_workOut wsX6_workOut) := goodIn_app (goodIn_of _ (by decide +kernel)) ggX6_spell_X6_workOut
theorem dX6_spell_0 : decode cX6_spell 0 = .ok (.aload_n 0, 1) := by decide +kernel
theorem dX6_spell_1 : decode cX6_spell 1 = .ok (.iconst 0, 1) := by decide +kernel
theorem dX6_spell_2 : decode cX6_spell 2 = .ok (.putfield 55, 3) := by decide +kernel
theorem dX6_spell_5 : decode cX6_spell 5 = .ok (.lload_n 1, 1) := by decide +kernel
theorem dX6_spell_6 : decode cX6_spell 6 = .ok (.lconst 0, 1) := by decide +kernel
theorem dX6_spell_7 : decode cX6_spell 7 = .ok (.lcmp, 1) := by decide +kernel
theorem dX6_spell_8 : decode cX6_spell 8 = .ok (.ifCond .ge 9, 3) := by decide +kernel
theorem dX6_spell_11 : decode cX6_spell 11 = .ok (.aload_n 0, 1) := by decide +kernel
theorem dX6_spell_12 : decode cX6_spell 12 = .ok (.iconst 1, 1) := by decide +kernel
theorem dX6_spell_13 : decode cX6_spell 13 = .ok (.invokevirtual 73, 3) := by decide +kernel
theorem dX6_spell_16 : decode cX6_spell 16 = .ok (.ireturn, 1) := by decide +kernel
theorem dX6_spell_17 : decode cX6_spell 17 = .ok (.aload_n 0, 1) := by decide +kernel
theorem dX6_spell_18 : decode cX6_spell 18 = .ok (.invokevirtual 136, 3) := by decide +kernel
theorem dX6_spell_21 : decode cX6_spell 21 = .ok (.iconst 0, 1) := by decide +kernel
theorem dX6_spell_22 : decode cX6_spell 22 = .ok (.istore_n 3, 1) := by decide +kernel
theorem dX6_spell_23 : decode cX6_spell 23 = .ok (.iconst 0, 1) := by decide +kernel
theorem dX6_spell_24 : decode cX6_spell 24 = .ok (.istore 4, 2) := by decide +kernel
theorem dX6_spell_26 : decode cX6_spell 26 = .ok (.iconst 0, 1) := by decide +kernel
theorem dX6_spell_27 : decode cX6_spell 27 = .ok (.istore 5, 2) := by decide +kernel
theorem dX6_spell_29 : decode cX6_spell 29 = .ok (.iload 5, 2) := by decide +kernel
theorem dX6_spell_31 : decode cX6_spell 31 = .ok (.sipush 400, 3) := by decide +kernel
theorem dX6_spell_34 : decode cX6_spell 34 = .ok (.if_icmp .ge 47, 3) := by decide +kernel
theorem dX6_spell_37 : decode cX6_spell 37 = .ok (.aload_n 0, 1) := by decide +kernel
theorem dX6_spell_38 : decode cX6_spell 38 = .ok (.getfield 48, 3) := by decide +kernel
theorem dX6_spell_41 : decode cX6_spell 41 = .ok (.iload 5, 2) := by decide +kernel
theorem dX6_spell_43 : decode cX6_spell 43 = .ok (.iaload, 1) := by decide +kernel
theorem dX6_spell_44 : decode cX6_spell 44 = .ok (.ifCond .eq 21, 3) := by decide +kernel
theorem dX6_spell_47 : decode cX6_spell 47 = .ok (.aload_n 0, 1) := by decide +kernel
theorem dX6_spell_48 : decode cX6_spell 48 = .ok (.getfield 51, 3) := by decide +kernel
theorem dX6_spell_51 : decode cX6_spell 51 = .ok (.iload 5, 2) := by decide +kernel
theorem dX6_spell_53 : decode cX6_spell 53 = .ok (.laload, 1) := by decide +kernel
theorem dX6_spell_54 : decode cX6_spell 54 = .ok (.lload_n 1, 1) := by decide +kernel
theorem dX6_spell_55 : decode cX6_spell 55 = .ok (.lcmp, 1) := by decide +kernel
theorem dX6_spell_56 : decode cX6_spell 56 = .ok (.ifCond .ge 9, 3) := by decide +kernel
theorem dX6_spell_59 : decode cX6_spell 59 = .ok (.iload_n 3, 1) := by decide +kernel
theorem dX6_spell_60 : decode cX6_spell 60 = .ok (.iconst 1, 1) := by decide +kernel
theorem dX6_spell_61 : decode cX6_spell 61 = .ok (.iadd, 1) := by decide +kernel
theorem dX6_spell_62 : decode cX6_spell 62 = .ok (.goto 4, 3) := by decide +kernel
theorem dX6_spell_65 : decode cX6_spell 65 = .ok (.iconst 0, 1) := by decide +kernel
theorem dX6_spell_66 : decode cX6_spell 66 = .ok (.istore_n 3, 1) := by decide +kernel
theorem dX6_spell_67 : decode cX6_spell 67 = .ok (.iload 4, 2) := by decide +kernel
theorem dX6_spell_69 : decode cX6_spell 69 = .ok (.iload_n 3, 1) := by decide +kernel
theorem dX6_spell_70 : decode cX6_spell 70 = .ok (.invokestatic 148, 3) := by decide +kernel
theorem dX6_spell_73 : decode cX6_spell 73 = .ok (.istore 4, 2) := by decide +kernel
theorem dX6_spell_75 : decode cX6_spell 75 = .ok (.iinc 5 1, 3) := by decide +kernel
theorem dX6_spell_78 : decode cX6_spell 78 = .ok (.goto (-49), 3) := by decide +kernel
theorem dX6_spell_81 : decode cX6_spell 81 = .ok (.iload 4, 2) := by decide +kernel
theorem dX6_spell_83 : decode cX6_spell 83 = .ok (.ireturn, 1) := by decide +kernel
set_option maxRecDepth 20000 in
theorem ggX6_measure_X6_isDay : GoodIn wsX6_measure wsX6_isDay := goodIn_r _ [15, 16, 17, 18, 14, 19] (by decide +kernel) (by decide +kernel)
set_option maxRecDepth 20000 in
theorem gX6_measure_X6_isDay : GoodIn wsX6_measure (va_wsS RX6 67 yX6_isDay wsX6_isDay) := goodIn_app (goodIn_of _ (by decide +kernel)) ggX6_measure_X6_isDay
set_option maxRecDepth 20000 in
theorem ggX6_measure_X6_isIn : GoodIn wsX6_measure wsX6_isIn := goodIn_r _ [19] (by decide +kernel) (by decide +kernel)
set_option maxRecDepth 20000 in
theorem gX6_measure_X6_isIn : GoodIn wsX6_measure (va_wsS RX6 60 yX6_isIn wsX6_isIn) := goodIn_app (goodIn_of _ (by decide +kernel)) ggX6_measure_X6_isIn
set_option maxRecDepth 20000 in
theorem ggX6_measure_X6_fail : GoodIn wsX6_measure wsX6_fail := goodIn_r _ [23, 1, 24, 25, 26, 27, 28, 29, 30, 31, 32, 33, 34, 35, 36, 37, 38, 39, 40, 41, 42] (by decide +kernel) (by decide +kernel)
set_option maxRecDepth 20000 in
theorem gX6_measure_X6_fail : GoodIn wsX6_measure (wsV RX6 73 RX6 yX6_fail wsX6_fail) := goodIn_app (goodIn_of _ (by decide +kernel)) ggX6_measure_X6_fail
theorem dX6_measure_0 : decode cX6_measure 0 = .ok (.aload_n 0, 1) := by decide +kernel
theorem dX6_measure_1 : decode cX6_measure 1 = .ok (.iconst 0, 1) := by decide +kernel
theorem dX6_measure_2 : decode cX6_measure 2 = .ok (.putfield 55, 3) := by decide +kernel
theorem dX6_measure_5 : decode cX6_measure 5 = .ok (.iload_n 1, 1) := by decide +kernel
theorem dX6_measure_6 : decode cX6_measure 6 = .ok (.invokestatic 67, 3) := by decide +kernel
theorem dX6_measure_9 : decode cX6_measure 9 = .ok (.ifCond .eq 29, 3) := by decide +kernel
theorem dX6_measure_12 : decode cX6_measure 12 = .ok (.iload_n 2, 1) := by decide +kernel
theorem dX6_measure_13 : decode cX6_measure 13 = .ok (.i2l, 1) := by decide +kernel
theorem dX6_measure_14 : decode cX6_measure 14 = .ok (.ldc2_w 84, 3) := by decide +kernel
theorem dX6_measure_17 : decode cX6_measure 17 = .ok (.ldc2_w 86, 3) := by decide +kernel
theorem dX6_measure_20 : decode cX6_measure 20 = .ok (.invokestatic 60, 3) := by decide +kernel
theorem dX6_measure_23 : decode cX6_measure 23 = .ok (.ifCond .eq 15, 3) := by decide +kernel
theorem dX6_measure_26 : decode cX6_measure 26 = .ok (.iload_n 3, 1) := by decide +kernel
theorem dX6_measure_27 : decode cX6_measure 27 = .ok (.i2l, 1) := by decide +kernel
theorem dX6_measure_28 : decode cX6_measure 28 = .ok (.lconst 0, 1) := by decide +kernel
theorem dX6_measure_29 : decode cX6_measure 29 = .ok (.ldc2_w 88, 3) := by decide +kernel
theorem dX6_measure_32 : decode cX6_measure 32 = .ok (.invokestatic 60, 3) := by decide +kernel
theorem dX6_measure_35 : decode cX6_measure 35 = .ok (.ifCond .ne 9, 3) := by decide +kernel
theorem dX6_measure_38 : decode cX6_measure 38 = .ok (.aload_n 0, 1) := by decide +kernel
theorem dX6_measure_39 : decode cX6_measure 39 = .ok (.iconst 1, 1) := by decide +kernel
theorem dX6_measure_40 : decode cX6_measure 40 = .ok (.invokevirtual 73, 3) := by decide +kernel
theorem dX6_measure_43 : decode cX6_measure 43 = .ok (.ireturn, 1) := by decide +kernel
theorem dX6_measure_44 : decode cX6_measure 44 = .ok (.aload_n 0, 1) := by decide +kernel
theorem dX6_measure_45 : decode cX6_measure 45 = .ok (.getfield 156, 3) := by decide +kernel
theorem dX6_measure_48 : decode cX6_measure 48 = .ok (.bipush 40, 2) := by decide +kernel
theorem dX6_measure_50 : decode cX6_measure 50 = .ok (.if_icmp .ne 9, 3) := by decide +kernel
theorem dX6_measure_53 : decode cX6_measure 53 = .ok (.aload_n 0, 1) := by decide +kernel
theorem dX6_measure_54 : decode cX6_measure 54 = .ok (.iconst 2, 1) := by decide +kernel
theorem dX6_measure_55 : decode cX6_measure 55 = .ok (.invokevirtual 73, 3) := by decide +kernel
theorem dX6_measure_58 : decode cX6_measure 58 = .ok (.ireturn, 1) := by decide +kernel
theorem dX6_measure_59 : decode cX6_measure 59 = .ok (.iconst 3, 1) := by decide +kernel
theorem dX6_measure_60 : decode cX6_measure 60 = .ok (.newarray .int, 2) := by decide +kernel
theorem dX6_measure_62 : decode cX6_measure 62 = .ok (.dup, 1) := by decide +kernel
theorem dX6_measure_63 : decode cX6_measure 63 = .ok (.iconst 0, 1) := by decide +kernel
theorem dX6_measure_64 : decode cX6_measure 64 = .ok (.iload_n 1, 1) := by decide +kernel
theorem dX6_measure_65 : decode cX6_measure 65 = .ok (.iastore, 1) := by decide +kernel
theorem dX6_measure_66 : decode cX6_measure 66 = .ok (.dup, 1) := by decide +kernel
theorem dX6_measure_67 : decode cX6_measure 67 = .ok (.iconst 1, 1) := by decide +kernel
theorem dX6_measure_68 : decode cX6_measure 68 = .ok (.iload_n 2, 1) := by decide +kernel
theorem dX6_measure_69 : decode cX6_measure 69 = .ok (.iastore, 1) := by decide +kernel
theorem dX6_measure_70 : decode cX6_measure 70 = .ok (.dup, 1) := by decide +kernel
theorem dX6_measure_71 : decode cX6_measure 71 = .ok (.iconst 2, 1) := by decide +kernel
theorem dX6_measure_72 : decode cX6_measure 72 = .ok (.iload_n 3, 1) := by decide +kernel
theorem dX6_measure_73 : decode cX6_measure 73 = .ok (.iastore, 1) := by decide +kernel
theorem dX6_measure_74 : decode cX6_measure 74 = .ok (.astore 4, 2) := by decide +kernel
theorem dX6_measure_76 : decode cX6_measure 76 = .ok (.aload 4, 2) := by decide +kernel
theorem dX6_measure_78 : decode cX6_measure 78 = .ok (.iconst 0, 1) := by decide +kernel
theorem dX6_measure_79 : decode cX6_measure 79 = .ok (.aload_n 0, 1) := by decide +kernel
theorem dX6_measure_80 : decode cX6_measure 80 = .ok (.getfield 45, 3) := by decide +kernel
theorem dX6_measure_83 : decode cX6_measure 83 = .ok (.iconst 3, 1) := by decide +kernel
theorem dX6_measure_84 : decode cX6_measure 84 = .ok (.aload_n 0, 1) := by decide +kernel
theorem dX6_measure_85 : decode cX6_measure 85 = .ok (.getfield 156, 3) := by decide +kernel
theorem dX6_measure_88 : decode cX6_measure 88 = .ok (.imul, 1) := by decide +kernel
theorem dX6_measure_89 : decode cX6_measure 89 = .ok (.iconst 3, 1) := by decide +kernel
theorem dX6_measure_90 : decode cX6_measure 90 = .ok (.invokestatic 159, 3) := by decide +kernel
theorem dX6_measure_93 : decode cX6_measure 93 = .ok (.aload_n 0, 1) := by decide +kernel
theorem dX6_measure_94 : decode cX6_measure 94 = .ok (.dup, 1) := by decide +kernel
theorem dX6_measure_95 : decode cX6_measure 95 = .ok (.getfield 156, 3) := by decide +kernel
theorem dX6_measure_98 : decode cX6_measure 98 = .ok (.iconst 1, 1) := by decide +kernel
theorem dX6_measure_99 : decode cX6_measure 99 = .ok (.iadd, 1) := by decide +kernel
theorem dX6_measure_100 : decode cX6_measure 100 = .ok (.putfield 156, 3) := by decide +kernel
theorem dX6_measure_103 : decode cX6_measure 103 = .ok (.aload_n 0, 1) := by decide +kernel
theorem dX6_measure_104 : decode cX6_measure 104 = .ok (.getfield 156, 3) := by decide +kernel
theorem dX6_measure_107 : decode cX6_measure 107 = .ok (.ireturn, 1) := by decide +kernel
set_option maxRecDepth 20000 in
theorem ggX6_whyMeasurement_X6_isIn : GoodIn wsX6_whyMeasurement wsX6_isIn := goodIn_r _ [6] (by decide +kernel) (by decide +kernel)
set_option maxRecDepth 20000 in
theorem gX6_whyMeasurement_X6_isIn : GoodIn wsX6_whyMeasurement (va_wsS RX6 60 yX6_isIn wsX6_isIn) := goodIn_app (goodIn_of _ (by decide +kernel)) ggX6_whyMeasurement_X6_isIn
set_option maxRecDepth 20000 in
theorem ggX6_whyMeasurement_X6_curveAt : GoodIn wsX6_whyMeasurement wsX6_curveAt := goodIn_r _ [10, 11, 12, 18, 19, 20, 21, 22, 23, 24, 25, 26, 27, 28, 29, 30, 31, 32, 33, 34, 35, 36] (by decide +kernel) (by decide +kernel)
set_option maxRecDepth 20000 in
theorem gX6_whyMeasurement_X6_curveAt : GoodIn wsX6_whyMeasurement (wsV RX6 109 RX6 yX6_curveAt wsX6_curveAt) := goodIn_app (goodIn_of _ (by decide +kernel)) ggX6_whyMeasurement_X6_curveAt
set_option maxRecDepth 20000 in
theorem ggX6_whyMeasurement_X6_isComplete : GoodIn wsX6_whyMeasurement wsX6_isComplete := goodIn_r _ [16, 17, 18, 19, 20, 21, 22, 23, 24, 25, 26, 27, 28, 29, 30, 31, 32, 33, 34, 35, 36] (by decide +kernel) (by decide +kernel)
set_option maxRecDepth 20000 in
theorem gX6_whyMeasurement_X6_isComplete : GoodIn wsX6_whyMeasurement (wsV RX6 94 RX6 yX6_isComplete wsX6_isComplete) := goodIn_app (goodIn_of _ (by decide +kernel)) ggX6_whyMeasurement_X6_isComplete
theorem dX6_whyMeasurement_0 : decode cX6_whyMeasurement 0 = .ok (.iload_n 1, 1) := by decide +kernel
theorem dX6_whyMeasurement_1 : decode cX6_whyMeasurement 1 = .ok (.i2l, 1) := by decide +kernel
theorem dX6_whyMeasurement_2 : decode cX6_whyMeasurement 2 = .ok (.lconst 0, 1) := by decide +kernel
theorem dX6_whyMeasurement_3 : decode cX6_whyMeasurement 3 = .ok (.aload_n 0, 1) := by decide +kernel
theorem dX6_whyMeasurement_4 : decode cX6_whyMeasurement 4 = .ok (.getfield 156, 3) := by decide +kernel
theorem dX6_whyMeasurement_7 : decode cX6_whyMeasurement 7 = .ok (.iconst 1, 1) := by decide +kernel
theorem dX6_whyMeasurement_8 : decode cX6_whyMeasurement 8 = .ok (.isub, 1) := by decide +kernel
theorem dX6_whyMeasurement_9 : decode cX6_whyMeasurement 9 = .ok (.i2l, 1) := by decide +kernel
theorem dX6_whyMeasurement_10 : decode cX6_whyMeasurement 10 = .ok (.invokestatic 60, 3) := by decide +kernel
theorem dX6_whyMeasurement_13 : decode cX6_whyMeasurement 13 = .ok (.ifCond .ne 7, 3) := by decide +kernel
theorem dX6_whyMeasurement_16 : decode cX6_whyMeasurement 16 = .ok (.iconst 1, 1) := by decide +kernel
theorem dX6_whyMeasurement_17 : decode cX6_whyMeasurement 17 = .ok (.goto 27, 3) := by decide +kernel
theorem dX6_whyMeasurement_20 : decode cX6_whyMeasurement 20 = .ok (.aload_n 0, 1) := by decide +kernel
theorem dX6_whyMeasurement_21 : decode cX6_whyMeasurement 21 = .ok (.aload_n 0, 1) := by decide +kernel
theorem dX6_whyMeasurement_22 : decode cX6_whyMeasurement 22 = .ok (.aload_n 0, 1) := by decide +kernel
theorem dX6_whyMeasurement_23 : decode cX6_whyMeasurement 23 = .ok (.getfield 45, 3) := by decide +kernel
theorem dX6_whyMeasurement_26 : decode cX6_whyMeasurement 26 = .ok (.iconst 3, 1) := by decide +kernel
theorem dX6_whyMeasurement_27 : decode cX6_whyMeasurement 27 = .ok (.iload_n 1, 1) := by decide +kernel
theorem dX6_whyMeasurement_28 : decode cX6_whyMeasurement 28 = .ok (.imul, 1) := by decide +kernel
theorem dX6_whyMeasurement_29 : decode cX6_whyMeasurement 29 = .ok (.iaload, 1) := by decide +kernel
theorem dX6_whyMeasurement_30 : decode cX6_whyMeasurement 30 = .ok (.invokevirtual 109, 3) := by decide +kernel
theorem dX6_whyMeasurement_33 : decode cX6_whyMeasurement 33 = .ok (.invokevirtual 94, 3) := by decide +kernel
theorem dX6_whyMeasurement_36 : decode cX6_whyMeasurement 36 = .ok (.ifCond .ne 7, 3) := by decide +kernel
theorem dX6_whyMeasurement_39 : decode cX6_whyMeasurement 39 = .ok (.iconst 2, 1) := by decide +kernel
theorem dX6_whyMeasurement_40 : decode cX6_whyMeasurement 40 = .ok (.goto 4, 3) := by decide +kernel
theorem dX6_whyMeasurement_43 : decode cX6_whyMeasurement 43 = .ok (.iconst 0, 1) := by decide +kernel
theorem dX6_whyMeasurement_44 : decode cX6_whyMeasurement 44 = .ok (.ireturn, 1) := by decide +kernel
set_option maxRecDepth 20000 in
theorem ggX6_deviation_X6_whyMeasurement : GoodIn wsX6_deviation wsX6_whyMeasurement := goodIn_r _ [7, 8, 2, 9, 10, 6, 11, 12, 13, 14, 15, 16, 17, 18, 19, 20, 21, 22, 35, 36, 37, 38, 39, 40, 41, 42, 43, 44, 45, 46, 47, 48, 49, 50, 51, 52, 53] (by decide +kernel) (by decide +kernel)
set_option maxRecDepth 20000 in
theorem gX6_deviation_X6_whyMeasurement : GoodIn wsX6_deviation (wsV RX6 165 RX6 yX6_whyMeasurement wsX6_whyMeasurement) := goodIn_app (goodIn_of _ (by decide +kernel)) ggX6_deviation_X6_whyMeasurement
set_option maxRecDepth 20000 in
theorem ggX6_deviation_X6_curveAt : GoodIn wsX6_deviation wsX6_curveAt := goodIn_r _ [15, 16, 17, 35, 36, 37, 38, 39, 40, 41, 42, 43, 44, 45, 46, 47, 48, 49, 50, 51, 52, 53] (by decide +kernel) (by decide +kernel)
set_option maxRecDepth 20000 in
theorem gX6_deviation_X6_curveAt : GoodIn wsX6_deviation (wsV RX6 109 RX6 yX6_curveAt wsX6_curveAt) := goodIn_app (goodIn_of _ (by decide +kernel)) ggX6_deviation_X6_curveAt
set_option maxRecDepth 20000 in
theorem ggX6_deviation_X6_shiftAt : GoodIn wsX6_deviation wsX6_shiftAt := goodIn_r _ [26, 27, 28, 35, 36, 37, 38, 39, 40, 41, 42, 43, 44, 45, 46, 47, 48, 49, 50, 51, 52, 53] (by decide +kernel) (by decide +kernel)
set_option maxRecDepth 20000 in
theorem gX6_deviation_X6_shiftAt : GoodIn wsX6_deviation (wsV RX6 119 RX6 yX6_shiftAt wsX6_shiftAt) := goodIn_app (goodIn_of _ (by decide +kernel)) ggX6_deviation_X6_shiftAt
set_option maxRecDepth 20000 in
theorem ggX6_deviation_X6_flowFor : GoodIn wsX6_deviation wsX6_flowFor := goodIn_r _ [32, 22, 33, 34, 35, 36, 37, 38, 39, 40, 41, 42, 43, 44, 45, 46, 47, 48, 49, 50, 51, 52, 53] (by decide +kernel) (by decide +kernel)
set_option maxRecDepth 20000 in
theorem gX6_deviation_X6_flowFor : GoodIn wsX6_deviation (wsV RX6 90 RX6 yX6_flowFor wsX6_flowFor) := goodIn_app (goodIn_of _ (by decide +kernel)) ggX6_deviation_X6_flowFor
theorem dX6_deviation_0 : decode cX6_deviation 0 = .ok (.aload_n 0, 1) := by decide +kernel
theorem dX6_deviation_1 : decode cX6_deviation 1 = .ok (.aload_n 0, 1) := by decide +kernel
theorem dX6_deviation_2 : decode cX6_deviation 2 = .ok (.iload_n 1, 1) := by decide +kernel
theorem dX6_deviation_3 : decode cX6_deviation 3 = .ok (.invokevirtual 165, 3) := by decide +kernel
theorem dX6_deviation_6 : decode cX6_deviation 6 = .ok (.putfield 55, 3) := by decide +kernel
theorem dX6_deviation_9 : decode cX6_deviation 9 = .ok (.aload_n 0, 1) := by decide +kernel
theorem dX6_deviation_10 : decode cX6_deviation 10 = .ok (.getfield 55, 3) := by decide +kernel
theorem dX6_deviation_13 : decode cX6_deviation 13 = .ok (.ifCond .eq 5, 3) := by decide +kernel
theorem dX6_deviation_16 : decode cX6_deviation 16 = .ok (.lconst 0, 1) := by decide +kernel
theorem dX6_deviation_17 : decode cX6_deviation 17 = .ok (.lreturn, 1) := by decide +kernel
theorem dX6_deviation_18 : decode cX6_deviation 18 = .ok (.aload_n 0, 1) := by decide +kernel
theorem dX6_deviation_19 : decode cX6_deviation 19 = .ok (.getfield 45, 3) := by decide +kernel
theorem dX6_deviation_22 : decode cX6_deviation 22 = .ok (.iconst 3, 1) := by decide +kernel
theorem dX6_deviation_23 : decode cX6_deviation 23 = .ok (.iload_n 1, 1) := by decide +kernel
theorem dX6_deviation_24 : decode cX6_deviation 24 = .ok (.imul, 1) := by decide +kernel
theorem dX6_deviation_25 : decode cX6_deviation 25 = .ok (.iaload, 1) := by decide +kernel
theorem dX6_deviation_26 : decode cX6_deviation 26 = .ok (.istore_n 2, 1) := by decide +kernel
theorem dX6_deviation_27 : decode cX6_deviation 27 = .ok (.aload_n 0, 1) := by decide +kernel
theorem dX6_deviation_28 : decode cX6_deviation 28 = .ok (.getfield 45, 3) := by decide +kernel
theorem dX6_deviation_31 : decode cX6_deviation 31 = .ok (.iconst 3, 1) := by decide +kernel
theorem dX6_deviation_32 : decode cX6_deviation 32 = .ok (.iload_n 1, 1) := by decide +kernel
theorem dX6_deviation_33 : decode cX6_deviation 33 = .ok (.imul, 1) := by decide +kernel
theorem dX6_deviation_34 : decode cX6_deviation 34 = .ok (.iconst 2, 1) := by decide +kernel
theorem dX6_deviation_35 : decode cX6_deviation 35 = .ok (.iadd, 1) := by decide +kernel
theorem dX6_deviation_36 : decode cX6_deviation 36 = .ok (.iaload, 1) := by decide +kernel
theorem dX6_deviation_37 : decode cX6_deviation 37 = .ok (.i2l, 1) := by decide +kernel
theorem dX6_deviation_38 : decode cX6_deviation 38 = .ok (.aload_n 0, 1) := by decide +kernel
theorem dX6_deviation_39 : decode cX6_deviation 39 = .ok (.aload_n 0, 1) := by decide +kernel
theorem dX6_deviation_40 : decode cX6_deviation 40 = .ok (.iload_n 2, 1) := by decide +kernel
theorem dX6_deviation_41 : decode cX6_deviation 41 = .ok (.invokevirtual 109, 3) := by decide +kernel
theorem dX6_deviation_44 : decode cX6_deviation 44 = .ok (.aload_n 0, 1) := by decide +kernel
theorem dX6_deviation_45 : decode cX6_deviation 45 = .ok (.getfield 45, 3) := by decide +kernel
theorem dX6_deviation_48 : decode cX6_deviation 48 = .ok (.iconst 3, 1) := by decide +kernel
theorem dX6_deviation_49 : decode cX6_deviation 49 = .ok (.iload_n 1, 1) := by decide +kernel
theorem dX6_deviation_50 : decode cX6_deviation 50 = .ok (.imul, 1) := by decide +kernel
theorem dX6_deviation_51 : decode cX6_deviation 51 = .ok (.iconst 1, 1) := by decide +kernel
theorem dX6_deviation_52 : decode cX6_deviation 52 = .ok (.iadd, 1) := by decide +kernel
theorem dX6_deviation_53 : decode cX6_deviation 53 = .ok (.iaload, 1) := by decide +kernel
theorem dX6_deviation_54 : decode cX6_deviation 54 = .ok (.aload_n 0, 1) := by decide +kernel
theorem dX6_deviation_55 : decode cX6_deviation 55 = .ok (.iload_n 2, 1) := by decide +kernel
theorem dX6_deviation_56 : decode cX6_deviation 56 = .ok (.invokevirtual 119, 3) := by decide +kernel
theorem dX6_deviation_59 : decode cX6_deviation 59 = .ok (.isub, 1) := by decide +kernel
theorem dX6_deviation_60 : decode cX6_deviation 60 = .ok (.invokevirtual 90, 3) := by decide +kernel
theorem dX6_deviation_63 : decode cX6_deviation 63 = .ok (.lsub, 1) := by decide +kernel
theorem dX6_deviation_64 : decode cX6_deviation 64 = .ok (.lreturn, 1) := by decide +kernel
set_option maxRecDepth 20000 in
theorem ggX6_wouldShift_X6_whyMeasurement : GoodIn wsX6_wouldShift wsX6_whyMeasurement := goodIn_r _ [7, 8, 2, 9, 10, 6, 11, 12, 13, 14, 15, 16, 17, 18, 19, 20, 21, 22, 37, 38, 39, 40, 41, 42, 43, 44, 45, 46, 47, 48, 49, 50, 51, 52, 53, 54, 55] (by decide +kernel) (by decide +kernel)
set_option maxRecDepth 20000 in
theorem gX6_wouldShift_X6_whyMeasurement : GoodIn wsX6_wouldShift (wsV RX6 165 RX6 yX6_whyMeasurement wsX6_whyMeasurement) := goodIn_app (goodIn_of _ (by decide +kernel)) ggX6_wouldShift_X6_whyMeasurement
set_option maxRecDepth 20000 in
theorem ggX6_wouldShift_X6_curveAt : GoodIn wsX6_wouldShift wsX6_curveAt := goodIn_r _ [15, 16, 17, 37, 38, 39, 40, 41, 42, 43, 44, 45, 46, 47, 48, 49, 50, 51, 52, 53, 54, 55] (by decide +kernel) (by decide +kernel)
set_option maxRecDepth 20000 in
theorem gX6_wouldShift_X6_curveAt : GoodIn wsX6_wouldShift (wsV RX6 109 RX6 yX6_curveAt wsX6_curveAt) := goodIn_app (goodIn_of _ (by decide +kernel)) ggX6_wouldShift_X6_curveAt
set_option maxRecDepth 20000 in
theorem ggX6_wouldShift_X6_stageFor : GoodIn wsX6_wouldShift wsX6_stageFor := goodIn_r _ [26, 22, 27, 28, 29, 30, 31, 6, 32, 37, 38, 39, 40, 41, 42, 43, 44, 45, 46, 47, 48, 49, 50, 51, 52, 53, 54, 55] (by decide +kernel) (by decide +kernel)
set_option maxRecDepth 20000 in
theorem gX6_wouldShift_X6_stageFor : GoodIn wsX6_wouldShift (wsV RX6 105 RX6 yX6_stageFor wsX6_stageFor) := goodIn_app (goodIn_of _ (by decide +kernel)) ggX6_wouldShift_X6_stageFor
set_option maxRecDepth 20000 in
theorem ggX6_wouldShift_X6_fail : GoodIn wsX6_wouldShift wsX6_fail := goodIn_r _ [36, 1, 37, 38, 39, 40, 41, 42, 43, 44, 45, 46, 47, 48, 49, 50, 51, 52, 53, 54, 55] (by decide +kernel) (by decide +kernel)
set_option maxRecDepth 20000 in
theorem gX6_wouldShift_X6_fail : GoodIn wsX6_wouldShift (wsV RX6 73 RX6 yX6_fail wsX6_fail) := goodIn_app (goodIn_of _ (by decide +kernel)) ggX6_wouldShift_X6_fail
theorem dX6_wouldShift_0 : decode cX6_wouldShift 0 = .ok (.aload_n 0, 1) := by decide +kernel
theorem dX6_wouldShift_1 : decode cX6_wouldShift 1 = .ok (.aload_n 0, 1) := by decide +kernel
theorem dX6_wouldShift_2 : decode cX6_wouldShift 2 = .ok (.iload_n 1, 1) := by decide +kernel
theorem dX6_wouldShift_3 : decode cX6_wouldShift 3 = .ok (.invokevirtual 165, 3) := by decide +kernel
theorem dX6_wouldShift_6 : decode cX6_wouldShift 6 = .ok (.putfield 55, 3) := by decide +kernel
theorem dX6_wouldShift_9 : decode cX6_wouldShift 9 = .ok (.aload_n 0, 1) := by decide +kernel
theorem dX6_wouldShift_10 : decode cX6_wouldShift 10 = .ok (.getfield 55, 3) := by decide +kernel
theorem dX6_wouldShift_13 : decode cX6_wouldShift 13 = .ok (.ifCond .eq 5, 3) := by decide +kernel
theorem dX6_wouldShift_16 : decode cX6_wouldShift 16 = .ok (.iconst 0, 1) := by decide +kernel
theorem dX6_wouldShift_17 : decode cX6_wouldShift 17 = .ok (.ireturn, 1) := by decide +kernel
theorem dX6_wouldShift_18 : decode cX6_wouldShift 18 = .ok (.aload_n 0, 1) := by decide +kernel
theorem dX6_wouldShift_19 : decode cX6_wouldShift 19 = .ok (.aload_n 0, 1) := by decide +kernel
theorem dX6_wouldShift_20 : decode cX6_wouldShift 20 = .ok (.aload_n 0, 1) := by decide +kernel
theorem dX6_wouldShift_21 : decode cX6_wouldShift 21 = .ok (.getfield 45, 3) := by decide +kernel
theorem dX6_wouldShift_24 : decode cX6_wouldShift 24 = .ok (.iconst 3, 1) := by decide +kernel
theorem dX6_wouldShift_25 : decode cX6_wouldShift 25 = .ok (.iload_n 1, 1) := by decide +kernel
theorem dX6_wouldShift_26 : decode cX6_wouldShift 26 = .ok (.imul, 1) := by decide +kernel
theorem dX6_wouldShift_27 : decode cX6_wouldShift 27 = .ok (.iaload, 1) := by decide +kernel
theorem dX6_wouldShift_28 : decode cX6_wouldShift 28 = .ok (.invokevirtual 109, 3) := by decide +kernel
theorem dX6_wouldShift_31 : decode cX6_wouldShift 31 = .ok (.aload_n 0, 1) := by decide +kernel
theorem dX6_wouldShift_32 : decode cX6_wouldShift 32 = .ok (.getfield 45, 3) := by decide +kernel
theorem dX6_wouldShift_35 : decode cX6_wouldShift 35 = .ok (.iconst 3, 1) := by decide +kernel
theorem dX6_wouldShift_36 : decode cX6_wouldShift 36 = .ok (.iload_n 1, 1) := by decide +kernel
theorem dX6_wouldShift_37 : decode cX6_wouldShift 37 = .ok (.imul, 1) := by decide +kernel
theorem dX6_wouldShift_38 : decode cX6_wouldShift 38 = .ok (.iconst 2, 1) := by decide +kernel
theorem dX6_wouldShift_39 : decode cX6_wouldShift 39 = .ok (.iadd, 1) := by decide +kernel
theorem dX6_wouldShift_40 : decode cX6_wouldShift 40 = .ok (.iaload, 1) := by decide +kernel
theorem dX6_wouldShift_41 : decode cX6_wouldShift 41 = .ok (.invokevirtual 105, 3) := by decide +kernel
theorem dX6_wouldShift_44 : decode cX6_wouldShift 44 = .ok (.istore_n 2, 1) := by decide +kernel
theorem dX6_wouldShift_45 : decode cX6_wouldShift 45 = .ok (.iload_n 2, 1) := by decide +kernel
theorem dX6_wouldShift_46 : decode cX6_wouldShift 46 = .ok (.sipush (-9999), 3) := by decide +kernel
theorem dX6_wouldShift_49 : decode cX6_wouldShift 49 = .ok (.if_icmp .ne 11, 3) := by decide +kernel
theorem dX6_wouldShift_52 : decode cX6_wouldShift 52 = .ok (.aload_n 0, 1) := by decide +kernel
theorem dX6_wouldShift_53 : decode cX6_wouldShift 53 = .ok (.iconst 2, 1) := by decide +kernel
theorem dX6_wouldShift_54 : decode cX6_wouldShift 54 = .ok (.invokevirtual 73, 3) := by decide +kernel
theorem dX6_wouldShift_57 : decode cX6_wouldShift 57 = .ok (.goto 15, 3) := by decide +kernel
theorem dX6_wouldShift_60 : decode cX6_wouldShift 60 = .ok (.aload_n 0, 1) := by decide +kernel
theorem dX6_wouldShift_61 : decode cX6_wouldShift 61 = .ok (.getfield 45, 3) := by decide +kernel
theorem dX6_wouldShift_64 : decode cX6_wouldShift 64 = .ok (.iconst 3, 1) := by decide +kernel
theorem dX6_wouldShift_65 : decode cX6_wouldShift 65 = .ok (.iload_n 1, 1) := by decide +kernel
theorem dX6_wouldShift_66 : decode cX6_wouldShift 66 = .ok (.imul, 1) := by decide +kernel
theorem dX6_wouldShift_67 : decode cX6_wouldShift 67 = .ok (.iconst 1, 1) := by decide +kernel
theorem dX6_wouldShift_68 : decode cX6_wouldShift 68 = .ok (.iadd, 1) := by decide +kernel
theorem dX6_wouldShift_69 : decode cX6_wouldShift 69 = .ok (.iaload, 1) := by decide +kernel
theorem dX6_wouldShift_70 : decode cX6_wouldShift 70 = .ok (.iload_n 2, 1) := by decide +kernel
theorem dX6_wouldShift_71 : decode cX6_wouldShift 71 = .ok (.isub, 1) := by decide +kernel
theorem dX6_wouldShift_72 : decode cX6_wouldShift 72 = .ok (.ireturn, 1) := by decide +kernel
theorem dX6_counted_0 : decode cX6_counted 0 = .ok (.iconst 0, 1) := by decide +kernel
theorem dX6_counted_1 : decode cX6_counted 1 = .ok (.istore_n 2, 1) := by decide +kernel
theorem dX6_counted_2 : decode cX6_counted 2 = .ok (.iconst 0, 1) := by decide +kernel
theorem dX6_counted_3 : decode cX6_counted 3 = .ok (.istore_n 3, 1) := by decide +kernel
theorem dX6_counted_4 : decode cX6_counted 4 = .ok (.iload_n 3, 1) := by decide +kernel
theorem dX6_counted_5 : decode cX6_counted 5 = .ok (.sipush 400, 3) := by decide +kernel
theorem dX6_counted_8 : decode cX6_counted 8 = .ok (.if_icmp .ge 45, 3) := by decide +kernel
theorem dX6_counted_11 : decode cX6_counted 11 = .ok (.iload_n 2, 1) := by decide +kernel
theorem dX6_counted_12 : decode cX6_counted 12 = .ok (.iload_n 1, 1) := by decide +kernel
theorem dX6_counted_13 : decode cX6_counted 13 = .ok (.iconst 2, 1) := by decide +kernel
theorem dX6_counted_14 : decode cX6_counted 14 = .ok (.if_icmp .ne 12, 3) := by decide +kernel
theorem dX6_counted_17 : decode cX6_counted 17 = .ok (.aload_n 0, 1) := by decide +kernel
theorem dX6_counted_18 : decode cX6_counted 18 = .ok (.getfield 29, 3) := by decide +kernel
theorem dX6_counted_21 : decode cX6_counted 21 = .ok (.iload_n 3, 1) := by decide +kernel
theorem dX6_counted_22 : decode cX6_counted 22 = .ok (.baload, 1) := by decide +kernel
theorem dX6_counted_23 : decode cX6_counted 23 = .ok (.ifCond .ne 17, 3) := by decide +kernel
theorem dX6_counted_26 : decode cX6_counted 26 = .ok (.iload_n 1, 1) := by decide +kernel
theorem dX6_counted_27 : decode cX6_counted 27 = .ok (.iconst 3, 1) := by decide +kernel
theorem dX6_counted_28 : decode cX6_counted 28 = .ok (.if_icmp .ne 16, 3) := by decide +kernel
theorem dX6_counted_31 : decode cX6_counted 31 = .ok (.aload_n 0, 1) := by decide +kernel
theorem dX6_counted_32 : decode cX6_counted 32 = .ok (.getfield 35, 3) := by decide +kernel
theorem dX6_counted_35 : decode cX6_counted 35 = .ok (.iload_n 3, 1) := by decide +kernel
theorem dX6_counted_36 : decode cX6_counted 36 = .ok (.baload, 1) := by decide +kernel
theorem dX6_counted_37 : decode cX6_counted 37 = .ok (.ifCond .eq 7, 3) := by decide +kernel
theorem dX6_counted_40 : decode cX6_counted 40 = .ok (.iconst 1, 1) := by decide +kernel
theorem dX6_counted_41 : decode cX6_counted 41 = .ok (.goto 4, 3) := by decide +kernel
theorem dX6_counted_44 : decode cX6_counted 44 = .ok (.iconst 0, 1) := by decide +kernel
theorem dX6_counted_45 : decode cX6_counted 45 = .ok (.iadd, 1) := by decide +kernel
theorem dX6_counted_46 : decode cX6_counted 46 = .ok (.istore_n 2, 1) := by decide +kernel
theorem dX6_counted_47 : decode cX6_counted 47 = .ok (.iinc 3 1, 3) := by decide +kernel
theorem dX6_counted_50 : decode cX6_counted 50 = .ok (.goto (-46), 3) := by decide +kernel
theorem dX6_counted_53 : decode cX6_counted 53 = .ok (.iload_n 1, 1) := by decide +kernel
theorem dX6_counted_54 : decode cX6_counted 54 = .ok (.ifCond .ne 10, 3) := by decide +kernel
theorem dX6_counted_57 : decode cX6_counted 57 = .ok (.aload_n 0, 1) := by decide +kernel
theorem dX6_counted_58 : decode cX6_counted 58 = .ok (.getfield 64, 3) := by decide +kernel
theorem dX6_counted_61 : decode cX6_counted 61 = .ok (.goto 28, 3) := by decide +kernel
theorem dX6_counted_64 : decode cX6_counted 64 = .ok (.iload_n 1, 1) := by decide +kernel
theorem dX6_counted_65 : decode cX6_counted 65 = .ok (.iconst 1, 1) := by decide +kernel
theorem dX6_counted_66 : decode cX6_counted 66 = .ok (.if_icmp .ne 10, 3) := by decide +kernel
theorem dX6_counted_69 : decode cX6_counted 69 = .ok (.aload_n 0, 1) := by decide +kernel
theorem dX6_counted_70 : decode cX6_counted 70 = .ok (.getfield 116, 3) := by decide +kernel
theorem dX6_counted_73 : decode cX6_counted 73 = .ok (.goto 16, 3) := by decide +kernel
theorem dX6_counted_76 : decode cX6_counted 76 = .ok (.iload_n 1, 1) := by decide +kernel
theorem dX6_counted_77 : decode cX6_counted 77 = .ok (.iconst 4, 1) := by decide +kernel
theorem dX6_counted_78 : decode cX6_counted 78 = .ok (.if_icmp .ne 10, 3) := by decide +kernel
theorem dX6_counted_81 : decode cX6_counted 81 = .ok (.aload_n 0, 1) := by decide +kernel
theorem dX6_counted_82 : decode cX6_counted 82 = .ok (.getfield 156, 3) := by decide +kernel
theorem dX6_counted_85 : decode cX6_counted 85 = .ok (.goto 4, 3) := by decide +kernel
theorem dX6_counted_88 : decode cX6_counted 88 = .ok (.iload_n 2, 1) := by decide +kernel
theorem dX6_counted_89 : decode cX6_counted 89 = .ok (.ireturn, 1) := by decide +kernel
set_option maxRecDepth 20000 in
theorem ggX6_count_X6_isIn : GoodIn wsX6_count wsX6_isIn := goodIn_r _ [6] (by decide +kernel) (by decide +kernel)
set_option maxRecDepth 20000 in
theorem gX6_count_X6_isIn : GoodIn wsX6_count (va_wsS RX6 60 yX6_isIn wsX6_isIn) := goodIn_app (goodIn_of _ (by decide +kernel)) ggX6_count_X6_isIn
set_option maxRecDepth 20000 in
theorem ggX6_count_X6_counted : GoodIn wsX6_count wsX6_counted := goodIn_r _ [10, 11, 12, 13, 14, 15, 20, 21, 22, 23, 24, 25, 26, 27, 28, 29, 30, 31, 32, 33, 34, 35, 36, 37, 38] (by decide +kernel) (by decide +kernel)
set_option maxRecDepth 20000 in
theorem gX6_count_X6_counted : GoodIn wsX6_count (wsV RX6 168 RX6 yX6_counted wsX6_counted) := goodIn_app (goodIn_of _ (by decide +kernel)) ggX6_count_X6_counted
set_option maxRecDepth 20000 in
theorem ggX6_count_X6_fail : GoodIn wsX6_count wsX6_fail := goodIn_r _ [19, 1, 20, 21, 22, 23, 24, 25, 26, 27, 28, 29, 30, 31, 32, 33, 34, 35, 36, 37, 38] (by decide +kernel) (by decide +kernel)
set_option maxRecDepth 20000 in
theorem gX6_count_X6_fail : GoodIn wsX6_count (wsV RX6 73 RX6 yX6_fail wsX6_fail) := goodIn_app (goodIn_of _ (by decide +kernel)) ggX6_count_X6_fail
theorem dX6_count_0 : decode cX6_count 0 = .ok (.aload_n 0, 1) := by decide +kernel
theorem dX6_count_1 : decode cX6_count 1 = .ok (.iconst 0, 1) := by decide +kernel
theorem dX6_count_2 : decode cX6_count 2 = .ok (.putfield 55, 3) := by decide +kernel
theorem dX6_count_5 : decode cX6_count 5 = .ok (.iload_n 1, 1) := by decide +kernel
theorem dX6_count_6 : decode cX6_count 6 = .ok (.i2l, 1) := by decide +kernel
theorem dX6_count_7 : decode cX6_count 7 = .ok (.lconst 0, 1) := by decide +kernel
theorem dX6_count_8 : decode cX6_count 8 = .ok (.ldc2_w 139, 3) := by decide +kernel
theorem dX6_count_11 : decode cX6_count 11 = .ok (.invokestatic 60, 3) := by decide +kernel
theorem dX6_count_14 : decode cX6_count 14 = .ok (.ifCond .eq 11, 3) := by decide +kernel
theorem dX6_count_17 : decode cX6_count 17 = .ok (.aload_n 0, 1) := by decide +kernel
theorem dX6_count_18 : decode cX6_count 18 = .ok (.iload_n 1, 1) := by decide +kernel
theorem dX6_count_19 : decode cX6_count 19 = .ok (.invokevirtual 168, 3) := by decide +kernel
theorem dX6_count_22 : decode cX6_count 22 = .ok (.goto 8, 3) := by decide +kernel
theorem dX6_count_25 : decode cX6_count 25 = .ok (.aload_n 0, 1) := by decide +kernel
theorem dX6_count_26 : decode cX6_count 26 = .ok (.iconst 1, 1) := by decide +kernel
theorem dX6_count_27 : decode cX6_count 27 = .ok (.invokevirtual 73, 3) := by decide +kernel
theorem dX6_count_30 : decode cX6_count 30 = .ok (.ireturn, 1) := by decide +kernel
set_option maxRecDepth 20000 in
theorem ggX6_digest_X6_workOut : GoodIn wsX6_digest wsX6_workOut := goodIn_r _ [12, 13, 6, 7, 14, 15, 16, 17, 4, 18, 5, 19, 20, 21, 11, 22, 23, 24, 25, 26, 27, 28, 29, 30, 31, 32, 33, 34, 35, 36, 37, 38, 39, 40, 41, 42, 43, 44, 45, 52, 53, 54, 55, 56, 57, 58, 59, 60, 61, 62, 63, 64, 65, 66, 67, 68, 69, 70] (by decide +kernel) (by decide +kernel)
set_option maxRecDepth 20000 in
theorem gX6_digest_X6_workOut : GoodIn wsX6_digest (wsV RX6 136 RX6 yX6_workOut wsX6_workOut) := goodIn_app (goodIn_of _ (by decide +kernel)) ggX6_digest_X6_workOut
set_option maxRecDepth 20000 in
theorem ggX6_digest_X6_counted : GoodIn wsX6_digest wsX6_counted := goodIn_r _ [49, 15, 17, 23, 50, 51, 52, 53, 54, 55, 56, 57, 58, 59, 60, 61, 62, 63, 64, 65, 66, 67, 68, 69, 70] (by decide +kernel) (by decide +kernel)
set_option maxRecDepth 20000 in
theorem gX6_digest_X6_counted : GoodIn wsX6_digest (wsV RX6 168 RX6 yX6_counted wsX6_counted) := goodIn_app (goodIn_of _ (by decide +kernel)) ggX6_digest_X6_counted
set_option maxRecDepth 20000 in
theorem ggX6_digest_X6_shiftAt : GoodIn wsX6_digest wsX6_shiftAt := goodIn_r _ [33, 34, 35, 52, 53, 54, 55, 56, 57, 58, 59, 60, 61, 62, 63, 64, 65, 66, 67, 68, 69, 70] (by decide +kernel) (by decide +kernel)
set_option maxRecDepth 20000 in
theorem gX6_digest_X6_shiftAt : GoodIn wsX6_digest (wsV RX6 119 RX6 yX6_shiftAt wsX6_shiftAt) := goodIn_app (goodIn_of _ (by decide +kernel)) ggX6_digest_X6_shiftAt
theorem dX6_digest_0 : decode cX6_digest 0 = .ok (.aload_n 0, 1) := by decide +kernel
theorem dX6_digest_1 : decode cX6_digest 1 = .ok (.iconst 0, 1) := by decide +kernel
theorem dX6_digest_2 : decode cX6_digest 2 = .ok (.putfield 55, 3) := by decide +kernel
theorem dX6_digest_5 : decode cX6_digest 5 = .ok (.aload_n 0, 1) := by decide +kernel
theorem dX6_digest_6 : decode cX6_digest 6 = .ok (.invokevirtual 136, 3) := by decide +kernel
theorem dX6_digest_9 : decode cX6_digest 9 = .ok (.ldc2_w 171, 3) := by decide +kernel
theorem dX6_digest_12 : decode cX6_digest 12 = .ok (.lstore_n 1, 1) := by decide +kernel
theorem dX6_digest_13 : decode cX6_digest 13 = .ok (.iconst 0, 1) := by decide +kernel
theorem dX6_digest_14 : decode cX6_digest 14 = .ok (.istore_n 3, 1) := by decide +kernel
theorem dX6_digest_15 : decode cX6_digest 15 = .ok (.iload_n 3, 1) := by decide +kernel
theorem dX6_digest_16 : decode cX6_digest 16 = .ok (.iconst 5, 1) := by decide +kernel
theorem dX6_digest_17 : decode cX6_digest 17 = .ok (.if_icmp .ge 22, 3) := by decide +kernel
theorem dX6_digest_20 : decode cX6_digest 20 = .ok (.lload_n 1, 1) := by decide +kernel
theorem dX6_digest_21 : decode cX6_digest 21 = .ok (.ldc2_w 173, 3) := by decide +kernel
theorem dX6_digest_24 : decode cX6_digest 24 = .ok (.lmul, 1) := by decide +kernel
theorem dX6_digest_25 : decode cX6_digest 25 = .ok (.aload_n 0, 1) := by decide +kernel
theorem dX6_digest_26 : decode cX6_digest 26 = .ok (.iload_n 3, 1) := by decide +kernel
theorem dX6_digest_27 : decode cX6_digest 27 = .ok (.invokevirtual 168, 3) := by decide +kernel
theorem dX6_digest_30 : decode cX6_digest 30 = .ok (.i2l, 1) := by decide +kernel
theorem dX6_digest_31 : decode cX6_digest 31 = .ok (.ladd, 1) := by decide +kernel
theorem dX6_digest_32 : decode cX6_digest 32 = .ok (.lstore_n 1, 1) := by decide +kernel
theorem dX6_digest_33 : decode cX6_digest 33 = .ok (.iinc 3 1, 3) := by decide +kernel
theorem dX6_digest_36 : decode cX6_digest 36 = .ok (.goto (-21), 3) := by decide +kernel
theorem dX6_digest_39 : decode cX6_digest 39 = .ok (.lload_n 1, 1) := by decide +kernel
theorem dX6_digest_40 : decode cX6_digest 40 = .ok (.ldc2_w 173, 3) := by decide +kernel
theorem dX6_digest_43 : decode cX6_digest 43 = .ok (.lmul, 1) := by decide +kernel
theorem dX6_digest_44 : decode cX6_digest 44 = .ok (.aload_n 0, 1) := by decide +kernel
theorem dX6_digest_45 : decode cX6_digest 45 = .ok (.getfield 38, 3) := by decide +kernel
theorem dX6_digest_48 : decode cX6_digest 48 = .ok (.i2l, 1) := by decide +kernel
theorem dX6_digest_49 : decode cX6_digest 49 = .ok (.ladd, 1) := by decide +kernel
theorem dX6_digest_50 : decode cX6_digest 50 = .ok (.ldc2_w 173, 3) := by decide +kernel
theorem dX6_digest_53 : decode cX6_digest 53 = .ok (.lmul, 1) := by decide +kernel
theorem dX6_digest_54 : decode cX6_digest 54 = .ok (.aload_n 0, 1) := by decide +kernel
theorem dX6_digest_55 : decode cX6_digest 55 = .ok (.getfield 42, 3) := by decide +kernel
theorem dX6_digest_58 : decode cX6_digest 58 = .ok (.i2l, 1) := by decide +kernel
theorem dX6_digest_59 : decode cX6_digest 59 = .ok (.ladd, 1) := by decide +kernel
theorem dX6_digest_60 : decode cX6_digest 60 = .ok (.lstore_n 1, 1) := by decide +kernel
theorem dX6_digest_61 : decode cX6_digest 61 = .ok (.iconst 0, 1) := by decide +kernel
theorem dX6_digest_62 : decode cX6_digest 62 = .ok (.istore_n 3, 1) := by decide +kernel
theorem dX6_digest_63 : decode cX6_digest 63 = .ok (.iload_n 3, 1) := by decide +kernel
theorem dX6_digest_64 : decode cX6_digest 64 = .ok (.sipush 400, 3) := by decide +kernel
theorem dX6_digest_67 : decode cX6_digest 67 = .ok (.if_icmp .ge 45, 3) := by decide +kernel
theorem dX6_digest_70 : decode cX6_digest 70 = .ok (.lload_n 1, 1) := by decide +kernel
theorem dX6_digest_71 : decode cX6_digest 71 = .ok (.ldc2_w 173, 3) := by decide +kernel
theorem dX6_digest_74 : decode cX6_digest 74 = .ok (.lmul, 1) := by decide +kernel
theorem dX6_digest_75 : decode cX6_digest 75 = .ok (.aload_n 0, 1) := by decide +kernel
theorem dX6_digest_76 : decode cX6_digest 76 = .ok (.iload_n 3, 1) := by decide +kernel
theorem dX6_digest_77 : decode cX6_digest 77 = .ok (.invokevirtual 119, 3) := by decide +kernel
theorem dX6_digest_80 : decode cX6_digest 80 = .ok (.i2l, 1) := by decide +kernel
theorem dX6_digest_81 : decode cX6_digest 81 = .ok (.ladd, 1) := by decide +kernel
theorem dX6_digest_82 : decode cX6_digest 82 = .ok (.ldc2_w 173, 3) := by decide +kernel
theorem dX6_digest_85 : decode cX6_digest 85 = .ok (.lmul, 1) := by decide +kernel
theorem dX6_digest_86 : decode cX6_digest 86 = .ok (.aload_n 0, 1) := by decide +kernel
theorem dX6_digest_87 : decode cX6_digest 87 = .ok (.getfield 48, 3) := by decide +kernel
theorem dX6_digest_90 : decode cX6_digest 90 = .ok (.iload_n 3, 1) := by decide +kernel
theorem dX6_digest_91 : decode cX6_digest 91 = .ok (.iaload, 1) := by decide +kernel
theorem dX6_digest_92 : decode cX6_digest 92 = .ok (.i2l, 1) := by decide +kernel
theorem dX6_digest_93 : decode cX6_digest 93 = .ok (.ladd, 1) := by decide +kernel
theorem dX6_digest_94 : decode cX6_digest 94 = .ok (.ldc2_w 173, 3) := by decide +kernel
theorem dX6_digest_97 : decode cX6_digest 97 = .ok (.lmul, 1) := by decide +kernel
theorem dX6_digest_98 : decode cX6_digest 98 = .ok (.aload_n 0, 1) := by decide +kernel
theorem dX6_digest_99 : decode cX6_digest 99 = .ok (.getfield 51, 3) := by decide +kernel
theorem dX6_digest_102 : decode cX6_digest 102 = .ok (.iload_n 3, 1) := by decide +kernel
theorem dX6_digest_103 : decode cX6_digest 103 = .ok (.laload, 1) := by decide +kernel
theorem dX6_digest_104 : decode cX6_digest 104 = .ok (.ladd, 1) := by decide +kernel
theorem dX6_digest_105 : decode cX6_digest 105 = .ok (.lstore_n 1, 1) := by decide +kernel
theorem dX6_digest_106 : decode cX6_digest 106 = .ok (.iinc 3 1, 3) := by decide +kernel
theorem dX6_digest_109 : decode cX6_digest 109 = .ok (.goto (-46), 3) := by decide +kernel
theorem dX6_digest_112 : decode cX6_digest 112 = .ok (.lload_n 1, 1) := by decide +kernel
theorem dX6_digest_113 : decode cX6_digest 113 = .ok (.lreturn, 1) := by decide +kernel
theorem dJ9_abs_0f7a4_0 : decode cJ9_abs_0f7a4 0 = .ok (.iload_n 0, 1) := by decide +kernel
theorem dJ9_abs_0f7a4_1 : decode cJ9_abs_0f7a4 1 = .ok (.ifCond .ge 8, 3) := by decide +kernel
theorem dJ9_abs_0f7a4_4 : decode cJ9_abs_0f7a4 4 = .ok (.iload_n 0, 1) := by decide +kernel
theorem dJ9_abs_0f7a4_5 : decode cJ9_abs_0f7a4 5 = .ok (.ineg, 1) := by decide +kernel
theorem dJ9_abs_0f7a4_6 : decode cJ9_abs_0f7a4 6 = .ok (.goto 4, 3) := by decide +kernel
theorem dJ9_abs_0f7a4_9 : decode cJ9_abs_0f7a4 9 = .ok (.iload_n 0, 1) := by decide +kernel
theorem dJ9_abs_0f7a4_10 : decode cJ9_abs_0f7a4 10 = .ok (.ireturn, 1) := by decide +kernel
theorem dJ9_max_7cf53_0 : decode cJ9_max_7cf53 0 = .ok (.iload_n 0, 1) := by decide +kernel
theorem dJ9_max_7cf53_1 : decode cJ9_max_7cf53 1 = .ok (.iload_n 1, 1) := by decide +kernel
theorem dJ9_max_7cf53_2 : decode cJ9_max_7cf53 2 = .ok (.if_icmp .lt 7, 3) := by decide +kernel
theorem dJ9_max_7cf53_5 : decode cJ9_max_7cf53 5 = .ok (.iload_n 0, 1) := by decide +kernel
theorem dJ9_max_7cf53_6 : decode cJ9_max_7cf53 6 = .ok (.goto 4, 3) := by decide +kernel
theorem dJ9_max_7cf53_9 : decode cJ9_max_7cf53 9 = .ok (.iload_n 1, 1) := by decide +kernel
theorem dJ9_max_7cf53_10 : decode cJ9_max_7cf53 10 = .ok (.ireturn, 1) := by decide +kernel
theorem dJ9_min_7cf53_0 : decode cJ9_min_7cf53 0 = .ok (.iload_n 0, 1) := by decide +kernel
theorem dJ9_min_7cf53_1 : decode cJ9_min_7cf53 1 = .ok (.iload_n 1, 1) := by decide +kernel
theorem dJ9_min_7cf53_2 : decode cJ9_min_7cf53 2 = .ok (.if_icmp .gt 7, 3) := by decide +kernel
theorem dJ9_min_7cf53_5 : decode cJ9_min_7cf53 5 = .ok (.iload_n 0, 1) := by decide +kernel
theorem dJ9_min_7cf53_6 : decode cJ9_min_7cf53 6 = .ok (.goto 4, 3) := by decide +kernel
theorem dJ9_min_7cf53_9 : decode cJ9_min_7cf53 9 = .ok (.iload_n 1, 1) := by decide +kernel
theorem dJ9_min_7cf53_10 : decode cJ9_min_7cf53 10 = .ok (.ireturn, 1) := by decide +kernel
set_option maxRecDepth 20000 in
theorem ggL_addCurve_X5_addCurve : GoodIn wsL_addCurve wsX5_addCurve := goodIn_ca (goodIn_ca (goodIn_r _ [7, 8, 9, 10, 11, 12, 13, 14, 15, 16, 17, 6, 18, 19, 20, 21, 22, 23, 24, 25, 26, 27, 28, 29, 30, 31, 32, 33, 34, 35, 36, 37, 38, 39, 40, 41, 42, 43, 44, 45, 46, 47, 48, 49, 50, 51, 52, 53, 54, 55, 56, 57, 58, 59] (by decide +kernel) (by decide +kernel)) (goodIn_sub (fun _ h => List.mem_cons_of_mem _ (List.mem_append_left _ (List.mem_append_right _ h))) (by decide +kernel))) (goodIn_sub (fun _ h => List.mem_cons_of_mem _ (List.mem_append_right _ h)) (by decide +kernel))
