theorem dX5_init_0 : decode cX5_init 0 = .ok (.aload_n 0, 1) := by decide +kernel
theorem dX5_init_1 : decode cX5_init 1 = .ok (.invokespecial 1, 3) := by decide +kernel
theorem dX5_init_4 : decode cX5_init 4 = .ok (.aload_n 0, 1) := by decide +kernel
theorem dX5_init_5 : decode cX5_init 5 = .ok (.bipush 6, 2) := by decide +kernel
theorem dX5_init_7 : decode cX5_init 7 = .ok (.anewarray 9, 3) := by decide +kernel
theorem dX5_init_10 : decode cX5_init 10 = .ok (.putfield 11, 3) := by decide +kernel
theorem dX5_init_13 : decode cX5_init 13 = .ok (.aload_n 0, 1) := by decide +kernel
theorem dX5_init_14 : decode cX5_init 14 = .ok (.new 15, 3) := by decide +kernel
theorem dX5_init_17 : decode cX5_init 17 = .ok (.dup, 1) := by decide +kernel
theorem dX5_init_18 : decode cX5_init 18 = .ok (.invokespecial 17, 3) := by decide +kernel
theorem dX5_init_21 : decode cX5_init 21 = .ok (.putfield 18, 3) := by decide +kernel
theorem dX5_init_24 : decode cX5_init 24 = .ok (.aload_n 0, 1) := by decide +kernel
theorem dX5_init_25 : decode cX5_init 25 = .ok (.sipush 400, 3) := by decide +kernel
theorem dX5_init_28 : decode cX5_init 28 = .ok (.newarray .int, 2) := by decide +kernel
theorem dX5_init_30 : decode cX5_init 30 = .ok (.putfield 22, 3) := by decide +kernel
theorem dX5_init_33 : decode cX5_init 33 = .ok (.aload_n 0, 1) := by decide +kernel
theorem dX5_init_34 : decode cX5_init 34 = .ok (.sipush 400, 3) := by decide +kernel
theorem dX5_init_37 : decode cX5_init 37 = .ok (.newarray .boolean, 2) := by decide +kernel
theorem dX5_init_39 : decode cX5_init 39 = .ok (.putfield 26, 3) := by decide +kernel
theorem dX5_init_42 : decode cX5_init 42 = .ok (.aload_n 0, 1) := by decide +kernel
theorem dX5_init_43 : decode cX5_init 43 = .ok (.sipush 400, 3) := by decide +kernel
theorem dX5_init_46 : decode cX5_init 46 = .ok (.newarray .boolean, 2) := by decide +kernel
theorem dX5_init_48 : decode cX5_init 48 = .ok (.putfield 30, 3) := by decide +kernel
theorem dX5_init_51 : decode cX5_init 51 = .ok (.aload_n 0, 1) := by decide +kernel
theorem dX5_init_52 : decode cX5_init 52 = .ok (.bipush 40, 2) := by decide +kernel
theorem dX5_init_54 : decode cX5_init 54 = .ok (.anewarray 33, 3) := by decide +kernel
theorem dX5_init_57 : decode cX5_init 57 = .ok (.putfield 35, 3) := by decide +kernel
theorem dX5_init_60 : decode cX5_init 60 = .ok (.aload_n 0, 1) := by decide +kernel
theorem dX5_init_61 : decode cX5_init 61 = .ok (.new 39, 3) := by decide +kernel
theorem dX5_init_64 : decode cX5_init 64 = .ok (.dup, 1) := by decide +kernel
theorem dX5_init_65 : decode cX5_init 65 = .ok (.invokespecial 41, 3) := by decide +kernel
theorem dX5_init_68 : decode cX5_init 68 = .ok (.putfield 42, 3) := by decide +kernel
theorem dX5_init_71 : decode cX5_init 71 = .ok (.aload_n 0, 1) := by decide +kernel
theorem dX5_init_72 : decode cX5_init 72 = .ok (.new 46, 3) := by decide +kernel
theorem dX5_init_75 : decode cX5_init 75 = .ok (.dup, 1) := by decide +kernel
theorem dX5_init_76 : decode cX5_init 76 = .ok (.invokespecial 48, 3) := by decide +kernel
theorem dX5_init_79 : decode cX5_init 79 = .ok (.putfield 49, 3) := by decide +kernel
theorem dX5_init_82 : decode cX5_init 82 = .ok (.aload_n 0, 1) := by decide +kernel
theorem dX5_init_83 : decode cX5_init 83 = .ok (.bipush 60, 2) := by decide +kernel
theorem dX5_init_85 : decode cX5_init 85 = .ok (.putfield 53, 3) := by decide +kernel
theorem dX5_init_88 : decode cX5_init 88 = .ok (.aload_n 0, 1) := by decide +kernel
theorem dX5_init_89 : decode cX5_init 89 = .ok (.iconst 5, 1) := by decide +kernel
theorem dX5_init_90 : decode cX5_init 90 = .ok (.putfield 57, 3) := by decide +kernel
theorem dX5_init_93 : decode cX5_init 93 = .ok (.return_, 1) := by decide +kernel
set_option maxRecDepth 20000 in
theorem ggX5_addCurve_X5_requireDay : GoodIn wsX5_addCurve wsX5_requireDay := goodIn_ca (goodIn_r _ [12, 13, 14] (by decide +kernel) (by decide +kernel)) (goodIn_sub (fun _ h => List.mem_cons_of_mem _ (List.mem_append_right _ h)) (by decide +kernel))
set_option maxRecDepth 20000 in
theorem gX5_addCurve_X5_requireDay : GoodIn wsX5_addCurve (va_wsS RX5 60 yX5_requireDay wsX5_requireDay) := goodIn_app (goodIn_of _ (by decide +kernel)) ggX5_addCurve_X5_requireDay
set_option maxRecDepth 20000 in
theorem ggX5_addCurve_X5_hasCurveFrom : GoodIn wsX5_addCurve wsX5_hasCurveFrom := goodIn_r _ [18, 19, 20, 21, 11, 22, 23, 24, 25, 26, 3, 4, 50, 51, 52, 53, 37, 38, 39, 40, 41, 42, 43, 44, 45, 46, 47, 48, 49] (by decide +kernel) (by decide +kernel)
set_option maxRecDepth 20000 in
theorem gX5_addCurve_X5_hasCurveFrom : GoodIn wsX5_addCurve (wsV RX5 74 RX5 yX5_hasCurveFrom wsX5_hasCurveFrom) := goodIn_app (goodIn_of _ (by decide +kernel)) ggX5_addCurve_X5_hasCurveFrom
set_option maxRecDepth 20000 in
theorem ggX5_addCurve_X0_init : GoodIn wsX5_addCurve wsX0_init := goodIn_r _ [29, 30, 31, 32, 33, 34, 35, 36, 50, 51, 52, 53] (by decide +kernel) (by decide +kernel)
set_option maxRecDepth 20000 in
theorem gX5_addCurve_X0_init : GoodIn wsX5_addCurve (wsX0_init) := ggX5_addCurve_X0_init
theorem dX5_addCurve_0 : decode cX5_addCurve 0 = .ok (.iload_n 1, 1) := by decide +kernel
theorem dX5_addCurve_1 : decode cX5_addCurve 1 = .ok (.invokestatic 60, 3) := by decide +kernel
theorem dX5_addCurve_4 : decode cX5_addCurve 4 = .ok (.aload_n 0, 1) := by decide +kernel
theorem dX5_addCurve_5 : decode cX5_addCurve 5 = .ok (.getfield 64, 3) := by decide +kernel
theorem dX5_addCurve_8 : decode cX5_addCurve 8 = .ok (.bipush 6, 2) := by decide +kernel
theorem dX5_addCurve_10 : decode cX5_addCurve 10 = .ok (.if_icmp .lt 13, 3) := by decide +kernel
theorem dX5_addCurve_13 : decode cX5_addCurve 13 = .ok (.new 67, 3) := by decide +kernel
theorem dX5_addCurve_16 : decode cX5_addCurve 16 = .ok (.dup, 1) := by decide +kernel
theorem dX5_addCurve_17 : decode cX5_addCurve 17 = .ok (.ldc 69, 2) := by decide +kernel
theorem dX5_addCurve_19 : decode cX5_addCurve 19 = .ok (.invokespecial 71, 3) := by decide +kernel
theorem dX5_addCurve_22 : decode cX5_addCurve 22 = .ok (.athrow, 1) := by decide +kernel
theorem dX5_addCurve_23 : decode cX5_addCurve 23 = .ok (.aload_n 0, 1) := by decide +kernel
theorem dX5_addCurve_24 : decode cX5_addCurve 24 = .ok (.iload_n 1, 1) := by decide +kernel
theorem dX5_addCurve_25 : decode cX5_addCurve 25 = .ok (.invokevirtual 74, 3) := by decide +kernel
theorem dX5_addCurve_28 : decode cX5_addCurve 28 = .ok (.ifCond .eq 13, 3) := by decide +kernel
theorem dX5_addCurve_31 : decode cX5_addCurve 31 = .ok (.new 67, 3) := by decide +kernel
theorem dX5_addCurve_34 : decode cX5_addCurve 34 = .ok (.dup, 1) := by decide +kernel
theorem dX5_addCurve_35 : decode cX5_addCurve 35 = .ok (.ldc 78, 2) := by decide +kernel
theorem dX5_addCurve_37 : decode cX5_addCurve 37 = .ok (.invokespecial 71, 3) := by decide +kernel
theorem dX5_addCurve_40 : decode cX5_addCurve 40 = .ok (.athrow, 1) := by decide +kernel
theorem dX5_addCurve_41 : decode cX5_addCurve 41 = .ok (.aload_n 0, 1) := by decide +kernel
theorem dX5_addCurve_42 : decode cX5_addCurve 42 = .ok (.getfield 64, 3) := by decide +kernel
theorem dX5_addCurve_45 : decode cX5_addCurve 45 = .ok (.istore_n 2, 1) := by decide +kernel
theorem dX5_addCurve_46 : decode cX5_addCurve 46 = .ok (.aload_n 0, 1) := by decide +kernel
theorem dX5_addCurve_47 : decode cX5_addCurve 47 = .ok (.getfield 11, 3) := by decide +kernel
theorem dX5_addCurve_50 : decode cX5_addCurve 50 = .ok (.iload_n 2, 1) := by decide +kernel
theorem dX5_addCurve_51 : decode cX5_addCurve 51 = .ok (.new 9, 3) := by decide +kernel
theorem dX5_addCurve_54 : decode cX5_addCurve 54 = .ok (.dup, 1) := by decide +kernel
theorem dX5_addCurve_55 : decode cX5_addCurve 55 = .ok (.iload_n 1, 1) := by decide +kernel
theorem dX5_addCurve_56 : decode cX5_addCurve 56 = .ok (.invokespecial 80, 3) := by decide +kernel
theorem dX5_addCurve_59 : decode cX5_addCurve 59 = .ok (.aastore, 1) := by decide +kernel
theorem dX5_addCurve_60 : decode cX5_addCurve 60 = .ok (.aload_n 0, 1) := by decide +kernel
theorem dX5_addCurve_61 : decode cX5_addCurve 61 = .ok (.iload_n 2, 1) := by decide +kernel
theorem dX5_addCurve_62 : decode cX5_addCurve 62 = .ok (.iconst 1, 1) := by decide +kernel
theorem dX5_addCurve_63 : decode cX5_addCurve 63 = .ok (.iadd, 1) := by decide +kernel
theorem dX5_addCurve_64 : decode cX5_addCurve 64 = .ok (.putfield 64, 3) := by decide +kernel
theorem dX5_addCurve_67 : decode cX5_addCurve 67 = .ok (.aload_n 0, 1) := by decide +kernel
theorem dX5_addCurve_68 : decode cX5_addCurve 68 = .ok (.iconst 0, 1) := by decide +kernel
theorem dX5_addCurve_69 : decode cX5_addCurve 69 = .ok (.putfield 82, 3) := by decide +kernel
theorem dX5_addCurve_72 : decode cX5_addCurve 72 = .ok (.iload_n 2, 1) := by decide +kernel
theorem dX5_addCurve_73 : decode cX5_addCurve 73 = .ok (.ireturn, 1) := by decide +kernel
set_option maxRecDepth 20000 in
theorem ggX5_addPoint_X5_curveAt : GoodIn wsX5_addPoint wsX5_curveAt := goodIn_r _ [10, 11, 12, 44, 45, 46, 47, 48, 49, 50, 51, 52, 53, 54, 55, 56] (by decide +kernel) (by decide +kernel)
set_option maxRecDepth 20000 in
theorem gX5_addPoint_X5_curveAt : GoodIn wsX5_addPoint (wsV RX5 86 RX5 yX5_curveAt wsX5_curveAt) := goodIn_app (goodIn_of _ (by decide +kernel)) ggX5_addPoint_X5_curveAt
set_option maxRecDepth 20000 in
theorem ggX5_addPoint_X5_requireStage : GoodIn wsX5_addPoint wsX5_requireStage := goodIn_ca (goodIn_r _ [15, 16, 17, 18, 19] (by decide +kernel) (by decide +kernel)) (goodIn_sub (fun _ h => List.mem_cons_of_mem _ (List.mem_append_right _ h)) (by decide +kernel))
set_option maxRecDepth 20000 in
theorem gX5_addPoint_X5_requireStage : GoodIn wsX5_addPoint (va_wsS RX5 95 yX5_requireStage wsX5_requireStage) := goodIn_app (goodIn_of _ (by decide +kernel)) ggX5_addPoint_X5_requireStage
set_option maxRecDepth 20000 in
theorem ggX5_addPoint_X5_requireFlow : GoodIn wsX5_addPoint wsX5_requireFlow := goodIn_ca (goodIn_r _ [22, 16, 17, 23] (by decide +kernel) (by decide +kernel)) (goodIn_sub (fun _ h => List.mem_cons_of_mem _ (List.mem_append_right _ h)) (by decide +kernel))
set_option maxRecDepth 20000 in
theorem gX5_addPoint_X5_requireFlow : GoodIn wsX5_addPoint (va_wsS RX5 99 yX5_requireFlow wsX5_requireFlow) := goodIn_app (goodIn_of _ (by decide +kernel)) ggX5_addPoint_X5_requireFlow
set_option maxRecDepth 20000 in
theorem ggX5_addPoint_X0_insert : GoodIn wsX5_addPoint wsX0_insert := goodIn_r _ [28, 29, 30, 31, 32, 9, 33, 34, 35, 36, 27, 37, 38, 39, 57, 58, 59, 60] (by decide +kernel) (by decide +kernel)
set_option maxRecDepth 20000 in
theorem gX5_addPoint_X0_insert : GoodIn wsX5_addPoint (wsV RX5 102 RX0 yX0_insert wsX0_insert) := goodIn_app (goodIn_of _ (by decide +kernel)) ggX5_addPoint_X0_insert
set_option maxRecDepth 20000 in
theorem ggX5_addPoint_X0_size : GoodIn wsX5_addPoint wsX0_size := goodIn_r _ [43, 30, 57, 58, 59, 60] (by decide +kernel) (by decide +kernel)
set_option maxRecDepth 20000 in
theorem gX5_addPoint_X0_size : GoodIn wsX5_addPoint (wsV RX5 108 RX0 yX0_size wsX0_size) := goodIn_app (goodIn_of _ (by decide +kernel)) ggX5_addPoint_X0_size
theorem dX5_addPoint_0 : decode cX5_addPoint 0 = .ok (.aload_n 0, 1) := by decide +kernel
theorem dX5_addPoint_1 : decode cX5_addPoint 1 = .ok (.iload_n 1, 1) := by decide +kernel
theorem dX5_addPoint_2 : decode cX5_addPoint 2 = .ok (.invokevirtual 86, 3) := by decide +kernel
theorem dX5_addPoint_5 : decode cX5_addPoint 5 = .ok (.astore 4, 2) := by decide +kernel
theorem dX5_addPoint_7 : decode cX5_addPoint 7 = .ok (.aload 4, 2) := by decide +kernel
theorem dX5_addPoint_9 : decode cX5_addPoint 9 = .ok (.ifnonnull 13, 3) := by decide +kernel
theorem dX5_addPoint_12 : decode cX5_addPoint 12 = .ok (.new 90, 3) := by decide +kernel
theorem dX5_addPoint_15 : decode cX5_addPoint 15 = .ok (.dup, 1) := by decide +kernel
theorem dX5_addPoint_16 : decode cX5_addPoint 16 = .ok (.ldc 92, 2) := by decide +kernel
theorem dX5_addPoint_18 : decode cX5_addPoint 18 = .ok (.invokespecial 94, 3) := by decide +kernel
theorem dX5_addPoint_21 : decode cX5_addPoint 21 = .ok (.athrow, 1) := by decide +kernel
theorem dX5_addPoint_22 : decode cX5_addPoint 22 = .ok (.iload_n 2, 1) := by decide +kernel
theorem dX5_addPoint_23 : decode cX5_addPoint 23 = .ok (.i2l, 1) := by decide +kernel
theorem dX5_addPoint_24 : decode cX5_addPoint 24 = .ok (.invokestatic 95, 3) := by decide +kernel
theorem dX5_addPoint_27 : decode cX5_addPoint 27 = .ok (.iload_n 3, 1) := by decide +kernel
theorem dX5_addPoint_28 : decode cX5_addPoint 28 = .ok (.invokestatic 99, 3) := by decide +kernel
theorem dX5_addPoint_31 : decode cX5_addPoint 31 = .ok (.aload 4, 2) := by decide +kernel
theorem dX5_addPoint_33 : decode cX5_addPoint 33 = .ok (.iload_n 2, 1) := by decide +kernel
theorem dX5_addPoint_34 : decode cX5_addPoint 34 = .ok (.iload_n 3, 1) := by decide +kernel
theorem dX5_addPoint_35 : decode cX5_addPoint 35 = .ok (.invokevirtual 102, 3) := by decide +kernel
theorem dX5_addPoint_38 : decode cX5_addPoint 38 = .ok (.ifCond .ne 13, 3) := by decide +kernel
theorem dX5_addPoint_41 : decode cX5_addPoint 41 = .ok (.new 67, 3) := by decide +kernel
theorem dX5_addPoint_44 : decode cX5_addPoint 44 = .ok (.dup, 1) := by decide +kernel
theorem dX5_addPoint_45 : decode cX5_addPoint 45 = .ok (.ldc 106, 2) := by decide +kernel
theorem dX5_addPoint_47 : decode cX5_addPoint 47 = .ok (.invokespecial 71, 3) := by decide +kernel
theorem dX5_addPoint_50 : decode cX5_addPoint 50 = .ok (.athrow, 1) := by decide +kernel
theorem dX5_addPoint_51 : decode cX5_addPoint 51 = .ok (.aload_n 0, 1) := by decide +kernel
theorem dX5_addPoint_52 : decode cX5_addPoint 52 = .ok (.iconst 0, 1) := by decide +kernel
theorem dX5_addPoint_53 : decode cX5_addPoint 53 = .ok (.putfield 82, 3) := by decide +kernel
theorem dX5_addPoint_56 : decode cX5_addPoint 56 = .ok (.aload 4, 2) := by decide +kernel
theorem dX5_addPoint_58 : decode cX5_addPoint 58 = .ok (.invokevirtual 108, 3) := by decide +kernel
theorem dX5_addPoint_61 : decode cX5_addPoint 61 = .ok (.ireturn, 1) := by decide +kernel
set_option maxRecDepth 20000 in
theorem ggX5_flowBy_X5_curveAt : GoodIn wsX5_flowBy wsX5_curveAt := goodIn_r _ [11, 12, 13, 37, 38, 39, 40, 41, 42, 43, 44, 45, 46, 47, 48, 49] (by decide +kernel) (by decide +kernel)
set_option maxRecDepth 20000 in
theorem gX5_flowBy_X5_curveAt : GoodIn wsX5_flowBy (wsV RX5 86 RX5 yX5_curveAt wsX5_curveAt) := goodIn_app (goodIn_of _ (by decide +kernel)) ggX5_flowBy_X5_curveAt
set_option maxRecDepth 20000 in
theorem ggX5_flowBy_X0_isComplete : GoodIn wsX5_flowBy wsX0_isComplete := goodIn_r _ [18, 19, 50, 51, 52, 53] (by decide +kernel) (by decide +kernel)
set_option maxRecDepth 20000 in
theorem gX5_flowBy_X0_isComplete : GoodIn wsX5_flowBy (wsV RX5 117 RX0 yX0_isComplete wsX0_isComplete) := goodIn_app (goodIn_of _ (by decide +kernel)) ggX5_flowBy_X0_isComplete
set_option maxRecDepth 20000 in
theorem ggX5_flowBy_X0_flowAt : GoodIn wsX5_flowBy wsX0_flowAt := goodIn_r _ [23, 19, 24, 25, 26, 27, 28, 29, 30, 31, 32, 33, 10, 34, 35, 36, 50, 51, 52, 53] (by decide +kernel) (by decide +kernel)
set_option maxRecDepth 20000 in
theorem gX5_flowBy_X0_flowAt : GoodIn wsX5_flowBy (wsV RX5 123 RX0 yX0_flowAt wsX0_flowAt) := goodIn_app (goodIn_of _ (by decide +kernel)) ggX5_flowBy_X0_flowAt
theorem dX5_flowBy_0 : decode cX5_flowBy 0 = .ok (.aload_n 0, 1) := by decide +kernel
theorem dX5_flowBy_1 : decode cX5_flowBy 1 = .ok (.iload_n 1, 1) := by decide +kernel
theorem dX5_flowBy_2 : decode cX5_flowBy 2 = .ok (.invokevirtual 86, 3) := by decide +kernel
theorem dX5_flowBy_5 : decode cX5_flowBy 5 = .ok (.astore_n 3, 1) := by decide +kernel
theorem dX5_flowBy_6 : decode cX5_flowBy 6 = .ok (.aload_n 3, 1) := by decide +kernel
theorem dX5_flowBy_7 : decode cX5_flowBy 7 = .ok (.ifnonnull 13, 3) := by decide +kernel
theorem dX5_flowBy_10 : decode cX5_flowBy 10 = .ok (.new 90, 3) := by decide +kernel
theorem dX5_flowBy_13 : decode cX5_flowBy 13 = .ok (.dup, 1) := by decide +kernel
theorem dX5_flowBy_14 : decode cX5_flowBy 14 = .ok (.ldc 92, 2) := by decide +kernel
theorem dX5_flowBy_16 : decode cX5_flowBy 16 = .ok (.invokespecial 94, 3) := by decide +kernel
theorem dX5_flowBy_19 : decode cX5_flowBy 19 = .ok (.athrow, 1) := by decide +kernel
theorem dX5_flowBy_20 : decode cX5_flowBy 20 = .ok (.iload_n 2, 1) := by decide +kernel
theorem dX5_flowBy_21 : decode cX5_flowBy 21 = .ok (.sipush (-2000), 3) := by decide +kernel
theorem dX5_flowBy_24 : decode cX5_flowBy 24 = .ok (.if_icmp .lt 10, 3) := by decide +kernel
theorem dX5_flowBy_27 : decode cX5_flowBy 27 = .ok (.iload_n 2, 1) := by decide +kernel
theorem dX5_flowBy_28 : decode cX5_flowBy 28 = .ok (.sipush 4000, 3) := by decide +kernel
theorem dX5_flowBy_31 : decode cX5_flowBy 31 = .ok (.if_icmp .le 13, 3) := by decide +kernel
theorem dX5_flowBy_34 : decode cX5_flowBy 34 = .ok (.new 112, 3) := by decide +kernel
theorem dX5_flowBy_37 : decode cX5_flowBy 37 = .ok (.dup, 1) := by decide +kernel
theorem dX5_flowBy_38 : decode cX5_flowBy 38 = .ok (.ldc 114, 2) := by decide +kernel
theorem dX5_flowBy_40 : decode cX5_flowBy 40 = .ok (.invokespecial 116, 3) := by decide +kernel
theorem dX5_flowBy_43 : decode cX5_flowBy 43 = .ok (.athrow, 1) := by decide +kernel
theorem dX5_flowBy_44 : decode cX5_flowBy 44 = .ok (.aload_n 3, 1) := by decide +kernel
theorem dX5_flowBy_45 : decode cX5_flowBy 45 = .ok (.invokevirtual 117, 3) := by decide +kernel
theorem dX5_flowBy_48 : decode cX5_flowBy 48 = .ok (.ifCond .ne 13, 3) := by decide +kernel
theorem dX5_flowBy_51 : decode cX5_flowBy 51 = .ok (.new 67, 3) := by decide +kernel
theorem dX5_flowBy_54 : decode cX5_flowBy 54 = .ok (.dup, 1) := by decide +kernel
theorem dX5_flowBy_55 : decode cX5_flowBy 55 = .ok (.ldc 121, 2) := by decide +kernel
theorem dX5_flowBy_57 : decode cX5_flowBy 57 = .ok (.invokespecial 71, 3) := by decide +kernel
theorem dX5_flowBy_60 : decode cX5_flowBy 60 = .ok (.athrow, 1) := by decide +kernel
theorem dX5_flowBy_61 : decode cX5_flowBy 61 = .ok (.aload_n 3, 1) := by decide +kernel
theorem dX5_flowBy_62 : decode cX5_flowBy 62 = .ok (.iload_n 2, 1) := by decide +kernel
theorem dX5_flowBy_63 : decode cX5_flowBy 63 = .ok (.invokevirtual 123, 3) := by decide +kernel
theorem dX5_flowBy_66 : decode cX5_flowBy 66 = .ok (.lreturn, 1) := by decide +kernel
set_option maxRecDepth 20000 in
theorem ggX5_curveOf_X5_requireDay : GoodIn wsX5_curveOf wsX5_requireDay := goodIn_ca (goodIn_r _ [4, 5, 6] (by decide +kernel) (by decide +kernel)) (goodIn_sub (fun _ h => List.mem_cons_of_mem _ (List.mem_append_right _ h)) (by decide +kernel))
set_option maxRecDepth 20000 in
theorem gX5_curveOf_X5_requireDay : GoodIn wsX5_curveOf (va_wsS RX5 60 yX5_requireDay wsX5_requireDay) := goodIn_app (goodIn_of _ (by decide +kernel)) ggX5_curveOf_X5_requireDay
set_option maxRecDepth 20000 in
theorem ggX5_curveOf_X5_curveNumberOn : GoodIn wsX5_curveOf wsX5_curveNumberOn := goodIn_r _ [10, 11, 12, 13, 3, 14, 15, 16, 17, 18, 19, 20, 21, 22, 23, 24, 25, 26, 27, 28, 29, 30, 31, 32, 33] (by decide +kernel) (by decide +kernel)
set_option maxRecDepth 20000 in
theorem gX5_curveOf_X5_curveNumberOn : GoodIn wsX5_curveOf (wsV RX5 131 RX5 yX5_curveNumberOn wsX5_curveNumberOn) := goodIn_app (goodIn_of _ (by decide +kernel)) ggX5_curveOf_X5_curveNumberOn
theorem dX5_curveOf_0 : decode cX5_curveOf 0 = .ok (.iload_n 1, 1) := by decide +kernel
theorem dX5_curveOf_1 : decode cX5_curveOf 1 = .ok (.invokestatic 60, 3) := by decide +kernel
theorem dX5_curveOf_4 : decode cX5_curveOf 4 = .ok (.aload_n 0, 1) := by decide +kernel
theorem dX5_curveOf_5 : decode cX5_curveOf 5 = .ok (.iload_n 1, 1) := by decide +kernel
theorem dX5_curveOf_6 : decode cX5_curveOf 6 = .ok (.invokevirtual 131, 3) := by decide +kernel
theorem dX5_curveOf_9 : decode cX5_curveOf 9 = .ok (.ireturn, 1) := by decide +kernel
set_option maxRecDepth 20000 in
theorem ggX5_setShift_X5_requireDay : GoodIn wsX5_setShift wsX5_requireDay := goodIn_ca (goodIn_r _ [10, 1, 2] (by decide +kernel) (by decide +kernel)) (goodIn_sub (fun _ h => List.mem_cons_of_mem _ (List.mem_append_left _ (List.mem_append_right _ h))) (by decide +kernel))
set_option maxRecDepth 20000 in
theorem gX5_setShift_X5_requireDay : GoodIn wsX5_setShift (va_wsS RX5 60 yX5_requireDay wsX5_requireDay) := goodIn_app (goodIn_of _ (by decide +kernel)) ggX5_setShift_X5_requireDay
set_option maxRecDepth 20000 in
theorem ggX5_setShift_X4_on : GoodIn wsX5_setShift wsX4_on := goodIn_r _ [15, 16, 17, 18, 19, 9, 20, 21, 22, 42, 43, 44] (by decide +kernel) (by decide +kernel)
set_option maxRecDepth 20000 in
theorem gX5_setShift_X4_on : GoodIn wsX5_setShift (wsV RX5 136 RX4 yX4_on wsX4_on) := goodIn_app (goodIn_of _ (by decide +kernel)) ggX5_setShift_X4_on
set_option maxRecDepth 20000 in
theorem ggX5_setShift_X4_tell : GoodIn wsX5_setShift wsX4_tell := goodIn_r _ [26, 17, 16, 18, 19, 9, 20, 27, 28, 42, 43, 44] (by decide +kernel) (by decide +kernel)
set_option maxRecDepth 20000 in
theorem gX5_setShift_X4_tell : GoodIn wsX5_setShift (wsV RX5 139 RX4 yX4_tell wsX4_tell) := goodIn_app (goodIn_of _ (by decide +kernel)) ggX5_setShift_X4_tell
theorem dX5_setShift_0 : decode cX5_setShift 0 = .ok (.iload_n 1, 1) := by decide +kernel
theorem dX5_setShift_1 : decode cX5_setShift 1 = .ok (.invokestatic 60, 3) := by decide +kernel
theorem dX5_setShift_4 : decode cX5_setShift 4 = .ok (.iload_n 2, 1) := by decide +kernel
theorem dX5_setShift_5 : decode cX5_setShift 5 = .ok (.sipush (-200), 3) := by decide +kernel
theorem dX5_setShift_8 : decode cX5_setShift 8 = .ok (.if_icmp .lt 10, 3) := by decide +kernel
theorem dX5_setShift_11 : decode cX5_setShift 11 = .ok (.iload_n 2, 1) := by decide +kernel
theorem dX5_setShift_12 : decode cX5_setShift 12 = .ok (.sipush 200, 3) := by decide +kernel
theorem dX5_setShift_15 : decode cX5_setShift 15 = .ok (.if_icmp .le 13, 3) := by decide +kernel
theorem dX5_setShift_18 : decode cX5_setShift 18 = .ok (.new 112, 3) := by decide +kernel
theorem dX5_setShift_21 : decode cX5_setShift 21 = .ok (.dup, 1) := by decide +kernel
theorem dX5_setShift_22 : decode cX5_setShift 22 = .ok (.ldc 134, 2) := by decide +kernel
theorem dX5_setShift_24 : decode cX5_setShift 24 = .ok (.invokespecial 116, 3) := by decide +kernel
theorem dX5_setShift_27 : decode cX5_setShift 27 = .ok (.athrow, 1) := by decide +kernel
theorem dX5_setShift_28 : decode cX5_setShift 28 = .ok (.aload_n 0, 1) := by decide +kernel
theorem dX5_setShift_29 : decode cX5_setShift 29 = .ok (.getfield 18, 3) := by decide +kernel
theorem dX5_setShift_32 : decode cX5_setShift 32 = .ok (.iload_n 1, 1) := by decide +kernel
theorem dX5_setShift_33 : decode cX5_setShift 33 = .ok (.invokevirtual 136, 3) := by decide +kernel
theorem dX5_setShift_36 : decode cX5_setShift 36 = .ok (.istore_n 3, 1) := by decide +kernel
theorem dX5_setShift_37 : decode cX5_setShift 37 = .ok (.aload_n 0, 1) := by decide +kernel
theorem dX5_setShift_38 : decode cX5_setShift 38 = .ok (.getfield 18, 3) := by decide +kernel
theorem dX5_setShift_41 : decode cX5_setShift 41 = .ok (.iload_n 1, 1) := by decide +kernel
theorem dX5_setShift_42 : decode cX5_setShift 42 = .ok (.iload_n 2, 1) := by decide +kernel
theorem dX5_setShift_43 : decode cX5_setShift 43 = .ok (.invokevirtual 139, 3) := by decide +kernel
theorem dX5_setShift_46 : decode cX5_setShift 46 = .ok (.ifCond .ne 13, 3) := by decide +kernel
theorem dX5_setShift_49 : decode cX5_setShift 49 = .ok (.new 67, 3) := by decide +kernel
theorem dX5_setShift_52 : decode cX5_setShift 52 = .ok (.dup, 1) := by decide +kernel
theorem dX5_setShift_53 : decode cX5_setShift 53 = .ok (.ldc 142, 2) := by decide +kernel
theorem dX5_setShift_55 : decode cX5_setShift 55 = .ok (.invokespecial 71, 3) := by decide +kernel
theorem dX5_setShift_58 : decode cX5_setShift 58 = .ok (.athrow, 1) := by decide +kernel
theorem dX5_setShift_59 : decode cX5_setShift 59 = .ok (.aload_n 0, 1) := by decide +kernel
theorem dX5_setShift_60 : decode cX5_setShift 60 = .ok (.iconst 0, 1) := by decide +kernel
theorem dX5_setShift_61 : decode cX5_setShift 61 = .ok (.putfield 82, 3) := by decide +kernel
theorem dX5_setShift_64 : decode cX5_setShift 64 = .ok (.iload_n 3, 1) := by decide +kernel
theorem dX5_setShift_65 : decode cX5_setShift 65 = .ok (.ireturn, 1) := by decide +kernel
set_option maxRecDepth 20000 in
theorem ggX5_shift_X5_requireDay : GoodIn wsX5_shift wsX5_requireDay := goodIn_ca (goodIn_r _ [5, 6, 7] (by decide +kernel) (by decide +kernel)) (goodIn_sub (fun _ h => List.mem_cons_of_mem _ (List.mem_append_right _ h)) (by decide +kernel))
set_option maxRecDepth 20000 in
theorem gX5_shift_X5_requireDay : GoodIn wsX5_shift (va_wsS RX5 60 yX5_requireDay wsX5_requireDay) := goodIn_app (goodIn_of _ (by decide +kernel)) ggX5_shift_X5_requireDay
set_option maxRecDepth 20000 in
theorem ggX5_shift_X4_on : GoodIn wsX5_shift wsX4_on := goodIn_r _ [12, 13, 14, 15, 16, 4, 17, 18, 19, 33, 34, 35] (by decide +kernel) (by decide +kernel)
set_option maxRecDepth 20000 in
theorem gX5_shift_X4_on : GoodIn wsX5_shift (wsV RX5 136 RX4 yX4_on wsX4_on) := goodIn_app (goodIn_of _ (by decide +kernel)) ggX5_shift_X4_on
theorem dX5_shift_0 : decode cX5_shift 0 = .ok (.iload_n 1, 1) := by decide +kernel
theorem dX5_shift_1 : decode cX5_shift 1 = .ok (.invokestatic 60, 3) := by decide +kernel
theorem dX5_shift_4 : decode cX5_shift 4 = .ok (.aload_n 0, 1) := by decide +kernel
theorem dX5_shift_5 : decode cX5_shift 5 = .ok (.getfield 18, 3) := by decide +kernel
theorem dX5_shift_8 : decode cX5_shift 8 = .ok (.iload_n 1, 1) := by decide +kernel
theorem dX5_shift_9 : decode cX5_shift 9 = .ok (.invokevirtual 136, 3) := by decide +kernel
theorem dX5_shift_12 : decode cX5_shift 12 = .ok (.ireturn, 1) := by decide +kernel
set_option maxRecDepth 20000 in
theorem ggX5_read_X5_requireSpan : GoodIn wsX5_read wsX5_requireSpan := goodIn_ca (goodIn_r _ [7, 8, 9, 10, 11, 6, 12] (by decide +kernel) (by decide +kernel)) (goodIn_sub (fun _ h => List.mem_cons_of_mem _ (List.mem_append_right _ h)) (by decide +kernel))
set_option maxRecDepth 20000 in
theorem gX5_read_X5_requireSpan : GoodIn wsX5_read (va_wsS RX5 144 yX5_requireSpan wsX5_requireSpan) := goodIn_app (goodIn_of _ (by decide +kernel)) ggX5_read_X5_requireSpan
set_option maxRecDepth 20000 in
theorem ggX5_read_X5_requireStage : GoodIn wsX5_read wsX5_requireStage := goodIn_ca (goodIn_r _ [15, 8, 9, 16, 17] (by decide +kernel) (by decide +kernel)) (goodIn_sub (fun _ h => List.mem_cons_of_mem _ (List.mem_append_right _ h)) (by decide +kernel))
set_option maxRecDepth 20000 in
theorem gX5_read_X5_requireStage : GoodIn wsX5_read (va_wsS RX5 95 yX5_requireStage wsX5_requireStage) := goodIn_app (goodIn_of _ (by decide +kernel)) ggX5_read_X5_requireStage
set_option maxRecDepth 20000 in
theorem ggX5_read_X5_countTrue : GoodIn wsX5_read wsX5_countTrue := goodIn_r _ [20] (by decide +kernel) (by decide +kernel)
set_option maxRecDepth 20000 in
theorem gX5_read_X5_countTrue : GoodIn wsX5_read (va_wsS RX5 148 yX5_countTrue wsX5_countTrue) := goodIn_app (goodIn_of _ (by decide +kernel)) ggX5_read_X5_countTrue
theorem dX5_read_0 : decode cX5_read 0 = .ok (.iload_n 1, 1) := by decide +kernel
theorem dX5_read_1 : decode cX5_read 1 = .ok (.iload_n 2, 1) := by decide +kernel
theorem dX5_read_2 : decode cX5_read 2 = .ok (.invokestatic 144, 3) := by decide +kernel
theorem dX5_read_5 : decode cX5_read 5 = .ok (.iload_n 3, 1) := by decide +kernel
theorem dX5_read_6 : decode cX5_read 6 = .ok (.i2l, 1) := by decide +kernel
theorem dX5_read_7 : decode cX5_read 7 = .ok (.invokestatic 95, 3) := by decide +kernel
theorem dX5_read_10 : decode cX5_read 10 = .ok (.iload_n 3, 1) := by decide +kernel
theorem dX5_read_11 : decode cX5_read 11 = .ok (.i2l, 1) := by decide +kernel
theorem dX5_read_12 : decode cX5_read 12 = .ok (.iload 4, 2) := by decide +kernel
theorem dX5_read_14 : decode cX5_read 14 = .ok (.i2l, 1) := by decide +kernel
theorem dX5_read_15 : decode cX5_read 15 = .ok (.iload_n 2, 1) := by decide +kernel
theorem dX5_read_16 : decode cX5_read 16 = .ok (.iconst 1, 1) := by decide +kernel
theorem dX5_read_17 : decode cX5_read 17 = .ok (.isub, 1) := by decide +kernel
theorem dX5_read_18 : decode cX5_read 18 = .ok (.i2l, 1) := by decide +kernel
theorem dX5_read_19 : decode cX5_read 19 = .ok (.lmul, 1) := by decide +kernel
theorem dX5_read_20 : decode cX5_read 20 = .ok (.ladd, 1) := by decide +kernel
theorem dX5_read_21 : decode cX5_read 21 = .ok (.invokestatic 95, 3) := by decide +kernel
theorem dX5_read_24 : decode cX5_read 24 = .ok (.aload_n 0, 1) := by decide +kernel
theorem dX5_read_25 : decode cX5_read 25 = .ok (.getfield 26, 3) := by decide +kernel
theorem dX5_read_28 : decode cX5_read 28 = .ok (.iload_n 1, 1) := by decide +kernel
theorem dX5_read_29 : decode cX5_read 29 = .ok (.iload_n 2, 1) := by decide +kernel
theorem dX5_read_30 : decode cX5_read 30 = .ok (.invokestatic 148, 3) := by decide +kernel
theorem dX5_read_33 : decode cX5_read 33 = .ok (.istore 5, 2) := by decide +kernel
theorem dX5_read_35 : decode cX5_read 35 = .ok (.iconst 0, 1) := by decide +kernel
theorem dX5_read_36 : decode cX5_read 36 = .ok (.istore 6, 2) := by decide +kernel
theorem dX5_read_38 : decode cX5_read 38 = .ok (.iload 6, 2) := by decide +kernel
theorem dX5_read_40 : decode cX5_read 40 = .ok (.iload_n 2, 1) := by decide +kernel
theorem dX5_read_41 : decode cX5_read 41 = .ok (.if_icmp .ge 35, 3) := by decide +kernel
theorem dX5_read_44 : decode cX5_read 44 = .ok (.aload_n 0, 1) := by decide +kernel
theorem dX5_read_45 : decode cX5_read 45 = .ok (.getfield 22, 3) := by decide +kernel
theorem dX5_read_48 : decode cX5_read 48 = .ok (.iload_n 1, 1) := by decide +kernel
theorem dX5_read_49 : decode cX5_read 49 = .ok (.iload 6, 2) := by decide +kernel
theorem dX5_read_51 : decode cX5_read 51 = .ok (.iadd, 1) := by decide +kernel
theorem dX5_read_52 : decode cX5_read 52 = .ok (.iload_n 3, 1) := by decide +kernel
theorem dX5_read_53 : decode cX5_read 53 = .ok (.iload 4, 2) := by decide +kernel
theorem dX5_read_55 : decode cX5_read 55 = .ok (.iload 6, 2) := by decide +kernel
theorem dX5_read_57 : decode cX5_read 57 = .ok (.imul, 1) := by decide +kernel
theorem dX5_read_58 : decode cX5_read 58 = .ok (.iadd, 1) := by decide +kernel
theorem dX5_read_59 : decode cX5_read 59 = .ok (.iastore, 1) := by decide +kernel
theorem dX5_read_60 : decode cX5_read 60 = .ok (.aload_n 0, 1) := by decide +kernel
theorem dX5_read_61 : decode cX5_read 61 = .ok (.getfield 26, 3) := by decide +kernel
theorem dX5_read_64 : decode cX5_read 64 = .ok (.iload_n 1, 1) := by decide +kernel
theorem dX5_read_65 : decode cX5_read 65 = .ok (.iload 6, 2) := by decide +kernel
theorem dX5_read_67 : decode cX5_read 67 = .ok (.iadd, 1) := by decide +kernel
theorem dX5_read_68 : decode cX5_read 68 = .ok (.iconst 1, 1) := by decide +kernel
theorem dX5_read_69 : decode cX5_read 69 = .ok (.bastore, 1) := by decide +kernel
theorem dX5_read_70 : decode cX5_read 70 = .ok (.iinc 6 1, 3) := by decide +kernel
theorem dX5_read_73 : decode cX5_read 73 = .ok (.goto (-35), 3) := by decide +kernel
theorem dX5_read_76 : decode cX5_read 76 = .ok (.aload_n 0, 1) := by decide +kernel
theorem dX5_read_77 : decode cX5_read 77 = .ok (.iconst 0, 1) := by decide +kernel
theorem dX5_read_78 : decode cX5_read 78 = .ok (.putfield 82, 3) := by decide +kernel
theorem dX5_read_81 : decode cX5_read 81 = .ok (.iload 5, 2) := by decide +kernel
theorem dX5_read_83 : decode cX5_read 83 = .ok (.ireturn, 1) := by decide +kernel
set_option maxRecDepth 20000 in
theorem ggX5_erase_X5_requireSpan : GoodIn wsX5_erase wsX5_requireSpan := goodIn_ca (goodIn_r _ [6, 7, 8, 9, 10, 5, 11] (by decide +kernel) (by decide +kernel)) (goodIn_sub (fun _ h => List.mem_cons_of_mem _ (List.mem_append_right _ h)) (by decide +kernel))
set_option maxRecDepth 20000 in
theorem gX5_erase_X5_requireSpan : GoodIn wsX5_erase (va_wsS RX5 144 yX5_requireSpan wsX5_requireSpan) := goodIn_app (goodIn_of _ (by decide +kernel)) ggX5_erase_X5_requireSpan
set_option maxRecDepth 20000 in
theorem ggX5_erase_X5_countTrue : GoodIn wsX5_erase wsX5_countTrue := goodIn_r _ [14] (by decide +kernel) (by decide +kernel)
set_option maxRecDepth 20000 in
theorem gX5_erase_X5_countTrue : GoodIn wsX5_erase (va_wsS RX5 148 yX5_countTrue wsX5_countTrue) := goodIn_app (goodIn_of _ (by decide +kernel)) ggX5_erase_X5_countTrue
theorem dX5_erase_0 : decode cX5_erase 0 = .ok (.iload_n 1, 1) := by decide +kernel
theorem dX5_erase_1 : decode cX5_erase 1 = .ok (.iload_n 2, 1) := by decide +kernel
theorem dX5_erase_2 : decode cX5_erase 2 = .ok (.invokestatic 144, 3) := by decide +kernel
theorem dX5_erase_5 : decode cX5_erase 5 = .ok (.aload_n 0, 1) := by decide +kernel
theorem dX5_erase_6 : decode cX5_erase 6 = .ok (.getfield 26, 3) := by decide +kernel
theorem dX5_erase_9 : decode cX5_erase 9 = .ok (.iload_n 1, 1) := by decide +kernel
theorem dX5_erase_10 : decode cX5_erase 10 = .ok (.iload_n 2, 1) := by decide +kernel
theorem dX5_erase_11 : decode cX5_erase 11 = .ok (.invokestatic 148, 3) := by decide +kernel
theorem dX5_erase_14 : decode cX5_erase 14 = .ok (.istore_n 3, 1) := by decide +kernel
theorem dX5_erase_15 : decode cX5_erase 15 = .ok (.iconst 0, 1) := by decide +kernel
theorem dX5_erase_16 : decode cX5_erase 16 = .ok (.istore 4, 2) := by decide +kernel
theorem dX5_erase_18 : decode cX5_erase 18 = .ok (.iload 4, 2) := by decide +kernel
theorem dX5_erase_20 : decode cX5_erase 20 = .ok (.iload_n 2, 1) := by decide +kernel
theorem dX5_erase_21 : decode cX5_erase 21 = .ok (.if_icmp .ge 19, 3) := by decide +kernel
theorem dX5_erase_24 : decode cX5_erase 24 = .ok (.aload_n 0, 1) := by decide +kernel
theorem dX5_erase_25 : decode cX5_erase 25 = .ok (.getfield 26, 3) := by decide +kernel
theorem dX5_erase_28 : decode cX5_erase 28 = .ok (.iload_n 1, 1) := by decide +kernel
theorem dX5_erase_29 : decode cX5_erase 29 = .ok (.iload 4, 2) := by decide +kernel
theorem dX5_erase_31 : decode cX5_erase 31 = .ok (.iadd, 1) := by decide +kernel
theorem dX5_erase_32 : decode cX5_erase 32 = .ok (.iconst 0, 1) := by decide +kernel
theorem dX5_erase_33 : decode cX5_erase 33 = .ok (.bastore, 1) := by decide +kernel
theorem dX5_erase_34 : decode cX5_erase 34 = .ok (.iinc 4 1, 3) := by decide +kernel
theorem dX5_erase_37 : decode cX5_erase 37 = .ok (.goto (-19), 3) := by decide +kernel
theorem dX5_erase_40 : decode cX5_erase 40 = .ok (.aload_n 0, 1) := by decide +kernel
theorem dX5_erase_41 : decode cX5_erase 41 = .ok (.iconst 0, 1) := by decide +kernel
theorem dX5_erase_42 : decode cX5_erase 42 = .ok (.putfield 82, 3) := by decide +kernel
theorem dX5_erase_45 : decode cX5_erase 45 = .ok (.iload_n 3, 1) := by decide +kernel
theorem dX5_erase_46 : decode cX5_erase 46 = .ok (.ireturn, 1) := by decide +kernel
set_option maxRecDepth 20000 in
theorem ggX5_freeze_X5_requireSpan : GoodIn wsX5_freeze wsX5_requireSpan := goodIn_ca (goodIn_r _ [6, 7, 8, 9, 10, 5, 11] (by decide +kernel) (by decide +kernel)) (goodIn_sub (fun _ h => List.mem_cons_of_mem _ (List.mem_append_right _ h)) (by decide +kernel))
set_option maxRecDepth 20000 in
theorem gX5_freeze_X5_requireSpan : GoodIn wsX5_freeze (va_wsS RX5 144 yX5_requireSpan wsX5_requireSpan) := goodIn_app (goodIn_of _ (by decide +kernel)) ggX5_freeze_X5_requireSpan
set_option maxRecDepth 20000 in
theorem ggX5_freeze_X5_countTrue : GoodIn wsX5_freeze wsX5_countTrue := goodIn_r _ [14] (by decide +kernel) (by decide +kernel)
set_option maxRecDepth 20000 in
theorem gX5_freeze_X5_countTrue : GoodIn wsX5_freeze (va_wsS RX5 148 yX5_countTrue wsX5_countTrue) := goodIn_app (goodIn_of _ (by decide +kernel)) ggX5_freeze_X5_countTrue
theorem dX5_freeze_0 : decode cX5_freeze 0 = .ok (.iload_n 1, 1) := by decide +kernel
theorem dX5_freeze_1 : decode cX5_freeze 1 = .ok (.iload_n 2, 1) := by decide +kernel
theorem dX5_freeze_2 : decode cX5_freeze 2 = .ok (.invokestatic 144, 3) := by decide +kernel
theorem dX5_freeze_5 : decode cX5_freeze 5 = .ok (.aload_n 0, 1) := by decide +kernel
theorem dX5_freeze_6 : decode cX5_freeze 6 = .ok (.getfield 30, 3) := by decide +kernel
theorem dX5_freeze_9 : decode cX5_freeze 9 = .ok (.iload_n 1, 1) := by decide +kernel
theorem dX5_freeze_10 : decode cX5_freeze 10 = .ok (.iload_n 2, 1) := by decide +kernel
theorem dX5_freeze_11 : decode cX5_freeze 11 = .ok (.invokestatic 148, 3) := by decide +kernel
theorem dX5_freeze_14 : decode cX5_freeze 14 = .ok (.istore 4, 2) := by decide +kernel
theorem dX5_freeze_16 : decode cX5_freeze 16 = .ok (.iconst 0, 1) := by decide +kernel
theorem dX5_freeze_17 : decode cX5_freeze 17 = .ok (.istore 5, 2) := by decide +kernel
theorem dX5_freeze_19 : decode cX5_freeze 19 = .ok (.iload 5, 2) := by decide +kernel
theorem dX5_freeze_21 : decode cX5_freeze 21 = .ok (.iload_n 2, 1) := by decide +kernel
theorem dX5_freeze_22 : decode cX5_freeze 22 = .ok (.if_icmp .ge 19, 3) := by decide +kernel
theorem dX5_freeze_25 : decode cX5_freeze 25 = .ok (.aload_n 0, 1) := by decide +kernel
theorem dX5_freeze_26 : decode cX5_freeze 26 = .ok (.getfield 30, 3) := by decide +kernel
theorem dX5_freeze_29 : decode cX5_freeze 29 = .ok (.iload_n 1, 1) := by decide +kernel
theorem dX5_freeze_30 : decode cX5_freeze 30 = .ok (.iload 5, 2) := by decide +kernel
theorem dX5_freeze_32 : decode cX5_freeze 32 = .ok (.iadd, 1) := by decide +kernel
theorem dX5_freeze_33 : decode cX5_freeze 33 = .ok (.iload_n 3, 1) := by decide +kernel
theorem dX5_freeze_34 : decode cX5_freeze 34 = .ok (.bastore, 1) := by decide +kernel
theorem dX5_freeze_35 : decode cX5_freeze 35 = .ok (.iinc 5 1, 3) := by decide +kernel
theorem dX5_freeze_38 : decode cX5_freeze 38 = .ok (.goto (-19), 3) := by decide +kernel
theorem dX5_freeze_41 : decode cX5_freeze 41 = .ok (.aload_n 0, 1) := by decide +kernel
theorem dX5_freeze_42 : decode cX5_freeze 42 = .ok (.iconst 0, 1) := by decide +kernel
theorem dX5_freeze_43 : decode cX5_freeze 43 = .ok (.putfield 82, 3) := by decide +kernel
theorem dX5_freeze_46 : decode cX5_freeze 46 = .ok (.iload_n 3, 1) := by decide +kernel
theorem dX5_freeze_47 : decode cX5_freeze 47 = .ok (.ifCond .eq 10, 3) := by decide +kernel
theorem dX5_freeze_50 : decode cX5_freeze 50 = .ok (.iload_n 2, 1) := by decide +kernel
theorem dX5_freeze_51 : decode cX5_freeze 51 = .ok (.iload 4, 2) := by decide +kernel
theorem dX5_freeze_53 : decode cX5_freeze 53 = .ok (.isub, 1) := by decide +kernel
theorem dX5_freeze_54 : decode cX5_freeze 54 = .ok (.goto 5, 3) := by decide +kernel
theorem dX5_freeze_57 : decode cX5_freeze 57 = .ok (.iload 4, 2) := by decide +kernel
theorem dX5_freeze_59 : decode cX5_freeze 59 = .ok (.ireturn, 1) := by decide +kernel
theorem dX5_setRules_0 : decode cX5_setRules 0 = .ok (.iload_n 1, 1) := by decide +kernel
theorem dX5_setRules_1 : decode cX5_setRules 1 = .ok (.ifCond .lt 9, 3) := by decide +kernel
theorem dX5_setRules_4 : decode cX5_setRules 4 = .ok (.iload_n 1, 1) := by decide +kernel
theorem dX5_setRules_5 : decode cX5_setRules 5 = .ok (.bipush 100, 2) := by decide +kernel
theorem dX5_setRules_7 : decode cX5_setRules 7 = .ok (.if_icmp .le 13, 3) := by decide +kernel
theorem dX5_setRules_10 : decode cX5_setRules 10 = .ok (.new 112, 3) := by decide +kernel
theorem dX5_setRules_13 : decode cX5_setRules 13 = .ok (.dup, 1) := by decide +kernel
theorem dX5_setRules_14 : decode cX5_setRules 14 = .ok (.ldc 152, 2) := by decide +kernel
theorem dX5_setRules_16 : decode cX5_setRules 16 = .ok (.invokespecial 116, 3) := by decide +kernel
theorem dX5_setRules_19 : decode cX5_setRules 19 = .ok (.athrow, 1) := by decide +kernel
theorem dX5_setRules_20 : decode cX5_setRules 20 = .ok (.iload_n 2, 1) := by decide +kernel
theorem dX5_setRules_21 : decode cX5_setRules 21 = .ok (.ifCond .lt 9, 3) := by decide +kernel
theorem dX5_setRules_24 : decode cX5_setRules 24 = .ok (.iload_n 2, 1) := by decide +kernel
theorem dX5_setRules_25 : decode cX5_setRules 25 = .ok (.bipush 60, 2) := by decide +kernel
theorem dX5_setRules_27 : decode cX5_setRules 27 = .ok (.if_icmp .le 13, 3) := by decide +kernel
theorem dX5_setRules_30 : decode cX5_setRules 30 = .ok (.new 112, 3) := by decide +kernel
theorem dX5_setRules_33 : decode cX5_setRules 33 = .ok (.dup, 1) := by decide +kernel
theorem dX5_setRules_34 : decode cX5_setRules 34 = .ok (.ldc 154, 2) := by decide +kernel
theorem dX5_setRules_36 : decode cX5_setRules 36 = .ok (.invokespecial 116, 3) := by decide +kernel
theorem dX5_setRules_39 : decode cX5_setRules 39 = .ok (.athrow, 1) := by decide +kernel
theorem dX5_setRules_40 : decode cX5_setRules 40 = .ok (.aload_n 0, 1) := by decide +kernel
theorem dX5_setRules_41 : decode cX5_setRules 41 = .ok (.getfield 53, 3) := by decide +kernel
theorem dX5_setRules_44 : decode cX5_setRules 44 = .ok (.istore_n 3, 1) := by decide +kernel
theorem dX5_setRules_45 : decode cX5_setRules 45 = .ok (.aload_n 0, 1) := by decide +kernel
theorem dX5_setRules_46 : decode cX5_setRules 46 = .ok (.iload_n 1, 1) := by decide +kernel
theorem dX5_setRules_47 : decode cX5_setRules 47 = .ok (.putfield 53, 3) := by decide +kernel
theorem dX5_setRules_50 : decode cX5_setRules 50 = .ok (.aload_n 0, 1) := by decide +kernel
theorem dX5_setRules_51 : decode cX5_setRules 51 = .ok (.iload_n 2, 1) := by decide +kernel
theorem dX5_setRules_52 : decode cX5_setRules 52 = .ok (.putfield 57, 3) := by decide +kernel
theorem dX5_setRules_55 : decode cX5_setRules 55 = .ok (.aload_n 0, 1) := by decide +kernel
theorem dX5_setRules_56 : decode cX5_setRules 56 = .ok (.iconst 0, 1) := by decide +kernel
theorem dX5_setRules_57 : decode cX5_setRules 57 = .ok (.putfield 82, 3) := by decide +kernel
theorem dX5_setRules_60 : decode cX5_setRules 60 = .ok (.iload_n 3, 1) := by decide +kernel
theorem dX5_setRules_61 : decode cX5_setRules 61 = .ok (.ireturn, 1) := by decide +kernel
set_option maxRecDepth 20000 in
theorem ggX5_state_X5_requireDay : GoodIn wsX5_state wsX5_requireDay := goodIn_ca (goodIn_r _ [5, 6, 7] (by decide +kernel) (by decide +kernel)) (goodIn_sub (fun _ h => List.mem_cons_of_mem _ (List.mem_append_right _ h)) (by decide +kernel))
set_option maxRecDepth 20000 in
theorem gX5_state_X5_requireDay : GoodIn wsX5_state (va_wsS RX5 60 yX5_requireDay wsX5_requireDay) := goodIn_app (goodIn_of _ (by decide +kernel)) ggX5_state_X5_requireDay
set_option maxRecDepth 20000 in
theorem ggX5_state_X5_reckon : GoodIn wsX5_state wsX5_reckon := goodIn_r _ [11, 12, 1, 13, 14, 15, 16, 4, 17, 18, 19, 20, 21, 22, 23, 24, 25, 26, 27, 28, 29, 30, 31, 32, 33, 34, 35, 36, 37, 38, 39, 40, 41, 42, 43, 44, 45, 46, 47, 48, 49, 50, 51, 52, 53, 54, 55, 56, 57, 58, 59, 60, 61, 62, 63, 64, 65, 66, 67, 68, 69, 70, 71, 72, 73, 74, 75, 76, 77, 78, 79, 80, 81, 82, 83, 84, 85, 86, 87, 88, 89, 90, 91, 92, 93, 94, 95, 96, 97, 98, 100, 101, 102, 103, 104, 105, 106, 107, 108, 109, 110, 111, 112, 113, 114, 115, 116, 117, 118, 119, 120, 121] (by decide +kernel) (by decide +kernel)
set_option maxRecDepth 20000 in
theorem gX5_state_X5_reckon : GoodIn wsX5_state (wsV RX5 156 RX5 yX5_reckon wsX5_reckon) := goodIn_app (goodIn_of _ (by decide +kernel)) ggX5_state_X5_reckon
set_option maxRecDepth 20000 in
theorem ggX5_state_X1_stateOn : GoodIn wsX5_state wsX1_stateOn := goodIn_r _ [88, 51, 117, 118] (by decide +kernel) (by decide +kernel)
set_option maxRecDepth 20000 in
theorem gX5_state_X1_stateOn : GoodIn wsX5_state (wsV RX5 159 RX1 yX1_stateOn wsX1_stateOn) := goodIn_app (goodIn_of _ (by decide +kernel)) ggX5_state_X1_stateOn
theorem dX5_state_0 : decode cX5_state 0 = .ok (.iload_n 1, 1) := by decide +kernel
theorem dX5_state_1 : decode cX5_state 1 = .ok (.invokestatic 60, 3) := by decide +kernel
theorem dX5_state_4 : decode cX5_state 4 = .ok (.aload_n 0, 1) := by decide +kernel
theorem dX5_state_5 : decode cX5_state 5 = .ok (.invokevirtual 156, 3) := by decide +kernel
theorem dX5_state_8 : decode cX5_state 8 = .ok (.aload_n 0, 1) := by decide +kernel
theorem dX5_state_9 : decode cX5_state 9 = .ok (.getfield 42, 3) := by decide +kernel
theorem dX5_state_12 : decode cX5_state 12 = .ok (.iload_n 1, 1) := by decide +kernel
theorem dX5_state_13 : decode cX5_state 13 = .ok (.invokevirtual 159, 3) := by decide +kernel
theorem dX5_state_16 : decode cX5_state 16 = .ok (.ireturn, 1) := by decide +kernel
set_option maxRecDepth 20000 in
theorem ggX5_flow_X5_requireDay : GoodIn wsX5_flow wsX5_requireDay := goodIn_ca (goodIn_r _ [5, 6, 7] (by decide +kernel) (by decide +kernel)) (goodIn_sub (fun _ h => List.mem_cons_of_mem _ (List.mem_append_right _ h)) (by decide +kernel))
set_option maxRecDepth 20000 in
theorem gX5_flow_X5_requireDay : GoodIn wsX5_flow (va_wsS RX5 60 yX5_requireDay wsX5_requireDay) := goodIn_app (goodIn_of _ (by decide +kernel)) ggX5_flow_X5_requireDay
set_option maxRecDepth 20000 in
theorem ggX5_flow_X5_reckon : GoodIn wsX5_flow wsX5_reckon := goodIn_r _ [11, 12, 1, 13, 14, 15, 16, 4, 17, 18, 19, 20, 21, 22, 23, 24, 25, 26, 27, 28, 29, 30, 31, 32, 33, 34, 35, 36, 37, 38, 39, 40, 41, 42, 43, 44, 45, 46, 47, 48, 49, 50, 51, 52, 53, 54, 55, 56, 57, 58, 59, 60, 61, 62, 63, 64, 65, 66, 67, 68, 69, 70, 71, 72, 73, 74, 75, 76, 77, 78, 79, 80, 81, 82, 83, 84, 85, 86, 87, 88, 89, 90, 91, 92, 93, 94, 95, 96, 97, 98, 100, 101, 102, 103, 104, 105, 106, 107, 108, 109, 110, 111, 112, 113, 114, 115, 116, 117, 118, 119, 120, 121] (by decide +kernel) (by decide +kernel)
set_option maxRecDepth 20000 in
theorem gX5_flow_X5_reckon : GoodIn wsX5_flow (wsV RX5 156 RX5 yX5_reckon wsX5_reckon) := goodIn_app (goodIn_of _ (by decide +kernel)) ggX5_flow_X5_reckon
set_option maxRecDepth 20000 in
theorem ggX5_flow_X1_flowOn : GoodIn wsX5_flow wsX1_flowOn := goodIn_r _ [96, 97, 50, 117, 118] (by decide +kernel) (by decide +kernel)
set_option maxRecDepth 20000 in
theorem gX5_flow_X1_flowOn : GoodIn wsX5_flow (wsV RX5 162 RX1 yX1_flowOn wsX1_flowOn) := goodIn_app (goodIn_of _ (by decide +kernel)) ggX5_flow_X1_flowOn
theorem dX5_flow_0 : decode cX5_flow 0 = .ok (.iload_n 1, 1) := by decide +kernel
theorem dX5_flow_1 : decode cX5_flow 1 = .ok (.invokestatic 60, 3) := by decide +kernel
theorem dX5_flow_4 : decode cX5_flow 4 = .ok (.aload_n 0, 1) := by decide +kernel
theorem dX5_flow_5 : decode cX5_flow 5 = .ok (.invokevirtual 156, 3) := by decide +kernel
theorem dX5_flow_8 : decode cX5_flow 8 = .ok (.aload_n 0, 1) := by decide +kernel
theorem dX5_flow_9 : decode cX5_flow 9 = .ok (.getfield 42, 3) := by decide +kernel
theorem dX5_flow_12 : decode cX5_flow 12 = .ok (.iload_n 1, 1) := by decide +kernel
theorem dX5_flow_13 : decode cX5_flow 13 = .ok (.invokevirtual 162, 3) := by decide +kernel
theorem dX5_flow_16 : decode cX5_flow 16 = .ok (.lreturn, 1) := by decide +kernel
set_option maxRecDepth 20000 in
theorem ggX5_sum_X5_requireRange : GoodIn wsX5_sum wsX5_requireRange := goodIn_ca (goodIn_r _ [7, 8, 9] (by decide +kernel) (by decide +kernel)) (goodIn_sub (fun _ h => List.mem_cons_of_mem _ (List.mem_append_right _ h)) (by decide +kernel))
set_option maxRecDepth 20000 in
theorem gX5_sum_X5_requireRange : GoodIn wsX5_sum (va_wsS RX5 167 yX5_requireRange wsX5_requireRange) := goodIn_app (goodIn_of _ (by decide +kernel)) ggX5_sum_X5_requireRange
set_option maxRecDepth 20000 in
theorem ggX5_sum_X5_reckon : GoodIn wsX5_sum wsX5_reckon := goodIn_r _ [13, 14, 3, 15, 16, 17, 18, 6, 19, 20, 21, 22, 23, 24, 25, 26, 27, 28, 29, 30, 31, 32, 33, 34, 35, 36, 37, 38, 39, 40, 41, 42, 43, 44, 45, 46, 47, 48, 49, 50, 51, 52, 53, 54, 55, 56, 57, 58, 59, 60, 61, 62, 63, 64, 65, 66, 67, 68, 69, 70, 71, 72, 73, 74, 75, 76, 77, 78, 79, 80, 81, 82, 83, 84, 85, 86, 87, 88, 89, 90, 91, 92, 93, 94, 95, 96, 97, 98, 99, 100, 118, 119, 120, 121, 122, 123, 124, 125, 126, 127, 128, 129, 130, 131, 132, 133, 134, 135, 136, 137, 138, 139] (by decide +kernel) (by decide +kernel)
set_option maxRecDepth 20000 in
theorem gX5_sum_X5_reckon : GoodIn wsX5_sum (wsV RX5 156 RX5 yX5_reckon wsX5_reckon) := goodIn_app (goodIn_of _ (by decide +kernel)) ggX5_sum_X5_reckon
set_option maxRecDepth 20000 in
theorem ggX5_sum_X1_daysWithFlow : GoodIn wsX5_sum wsX1_daysWithFlow := goodIn_r _ [104, 83, 84, 85, 50, 86, 87, 88, 89, 90, 53, 135, 136] (by decide +kernel) (by decide +kernel)
set_option maxRecDepth 20000 in
theorem gX5_sum_X1_daysWithFlow : GoodIn wsX5_sum (wsV RX5 170 RX1 yX1_daysWithFlow wsX1_daysWithFlow) := goodIn_app (goodIn_of _ (by decide +kernel)) ggX5_sum_X1_daysWithFlow
set_option maxRecDepth 20000 in
theorem ggX5_sum_X1_total : GoodIn wsX5_sum wsX1_total := goodIn_r _ [108, 83, 84, 85, 50, 86, 87, 88, 89, 90, 53, 95, 96, 97, 98, 99, 52, 135, 136] (by decide +kernel) (by decide +kernel)
set_option maxRecDepth 20000 in
theorem gX5_sum_X1_total : GoodIn wsX5_sum (wsV RX5 174 RX1 yX1_total wsX1_total) := goodIn_app (goodIn_of _ (by decide +kernel)) ggX5_sum_X1_total
set_option maxRecDepth 20000 in
theorem ggX5_sum_X1_greatestDay : GoodIn wsX5_sum wsX1_greatestDay := goodIn_r _ [112, 83, 84, 85, 50, 86, 87, 88, 89, 90, 53, 95, 96, 97, 98, 99, 52, 135, 136] (by decide +kernel) (by decide +kernel)
set_option maxRecDepth 20000 in
theorem gX5_sum_X1_greatestDay : GoodIn wsX5_sum (wsV RX5 178 RX1 yX1_greatestDay wsX1_greatestDay) := goodIn_app (goodIn_of _ (by decide +kernel)) ggX5_sum_X1_greatestDay
set_option maxRecDepth 20000 in
theorem ggX5_sum_X1_flowOn : GoodIn wsX5_sum wsX1_flowOn := goodIn_r _ [98, 99, 52, 135, 136] (by decide +kernel) (by decide +kernel)
set_option maxRecDepth 20000 in
theorem gX5_sum_X1_flowOn : GoodIn wsX5_sum (wsV RX5 162 RX1 yX1_flowOn wsX1_flowOn) := goodIn_app (goodIn_of _ (by decide +kernel)) ggX5_sum_X1_flowOn
set_option maxRecDepth 20000 in
theorem ggX5_sum_X1_leastFlow : GoodIn wsX5_sum wsX1_leastFlow := goodIn_r _ [117, 99, 83, 84, 85, 50, 86, 87, 88, 89, 90, 53, 95, 96, 97, 98, 52, 135, 136] (by decide +kernel) (by decide +kernel)
set_option maxRecDepth 20000 in
theorem gX5_sum_X1_leastFlow : GoodIn wsX5_sum (wsV RX5 181 RX1 yX1_leastFlow wsX1_leastFlow) := goodIn_app (goodIn_of _ (by decide +kernel)) ggX5_sum_X1_leastFlow
theorem dX5_sum_0 : decode cX5_sum 0 = .ok (.iload_n 3, 1) := by decide +kernel
theorem dX5_sum_1 : decode cX5_sum 1 = .ok (.ifCond .lt 8, 3) := by decide +kernel
theorem dX5_sum_4 : decode cX5_sum 4 = .ok (.iload_n 3, 1) := by decide +kernel
theorem dX5_sum_5 : decode cX5_sum 5 = .ok (.iconst 4, 1) := by decide +kernel
theorem dX5_sum_6 : decode cX5_sum 6 = .ok (.if_icmp .le 13, 3) := by decide +kernel
theorem dX5_sum_9 : decode cX5_sum 9 = .ok (.new 90, 3) := by decide +kernel
theorem dX5_sum_12 : decode cX5_sum 12 = .ok (.dup, 1) := by decide +kernel
theorem dX5_sum_13 : decode cX5_sum 13 = .ok (.ldc 165, 2) := by decide +kernel
theorem dX5_sum_15 : decode cX5_sum 15 = .ok (.invokespecial 94, 3) := by decide +kernel
theorem dX5_sum_18 : decode cX5_sum 18 = .ok (.athrow, 1) := by decide +kernel
theorem dX5_sum_19 : decode cX5_sum 19 = .ok (.iload_n 1, 1) := by decide +kernel
theorem dX5_sum_20 : decode cX5_sum 20 = .ok (.iload_n 2, 1) := by decide +kernel
theorem dX5_sum_21 : decode cX5_sum 21 = .ok (.invokestatic 167, 3) := by decide +kernel
theorem dX5_sum_24 : decode cX5_sum 24 = .ok (.aload_n 0, 1) := by decide +kernel
theorem dX5_sum_25 : decode cX5_sum 25 = .ok (.invokevirtual 156, 3) := by decide +kernel
theorem dX5_sum_28 : decode cX5_sum 28 = .ok (.iload_n 3, 1) := by decide +kernel
theorem dX5_sum_29 : decode cX5_sum 29 = .ok (.tableswitch 79 0 3 #[31, 42, 52, 69], 31) := by decide +kernel
theorem dX5_sum_60 : decode cX5_sum 60 = .ok (.aload_n 0, 1) := by decide +kernel
theorem dX5_sum_61 : decode cX5_sum 61 = .ok (.getfield 42, 3) := by decide +kernel
theorem dX5_sum_64 : decode cX5_sum 64 = .ok (.iload_n 1, 1) := by decide +kernel
theorem dX5_sum_65 : decode cX5_sum 65 = .ok (.iload_n 2, 1) := by decide +kernel
theorem dX5_sum_66 : decode cX5_sum 66 = .ok (.invokevirtual 170, 3) := by decide +kernel
theorem dX5_sum_69 : decode cX5_sum 69 = .ok (.i2l, 1) := by decide +kernel
theorem dX5_sum_70 : decode cX5_sum 70 = .ok (.lreturn, 1) := by decide +kernel
theorem dX5_sum_71 : decode cX5_sum 71 = .ok (.aload_n 0, 1) := by decide +kernel
theorem dX5_sum_72 : decode cX5_sum 72 = .ok (.getfield 42, 3) := by decide +kernel
theorem dX5_sum_75 : decode cX5_sum 75 = .ok (.iload_n 1, 1) := by decide +kernel
theorem dX5_sum_76 : decode cX5_sum 76 = .ok (.iload_n 2, 1) := by decide +kernel
theorem dX5_sum_77 : decode cX5_sum 77 = .ok (.invokevirtual 174, 3) := by decide +kernel
theorem dX5_sum_80 : decode cX5_sum 80 = .ok (.lreturn, 1) := by decide +kernel
theorem dX5_sum_81 : decode cX5_sum 81 = .ok (.aload_n 0, 1) := by decide +kernel
theorem dX5_sum_82 : decode cX5_sum 82 = .ok (.getfield 42, 3) := by decide +kernel
theorem dX5_sum_85 : decode cX5_sum 85 = .ok (.aload_n 0, 1) := by decide +kernel
theorem dX5_sum_86 : decode cX5_sum 86 = .ok (.getfield 42, 3) := by decide +kernel
theorem dX5_sum_89 : decode cX5_sum 89 = .ok (.iload_n 1, 1) := by decide +kernel
theorem dX5_sum_90 : decode cX5_sum 90 = .ok (.iload_n 2, 1) := by decide +kernel
theorem dX5_sum_91 : decode cX5_sum 91 = .ok (.invokevirtual 178, 3) := by decide +kernel
theorem dX5_sum_94 : decode cX5_sum 94 = .ok (.invokevirtual 162, 3) := by decide +kernel
theorem dX5_sum_97 : decode cX5_sum 97 = .ok (.lreturn, 1) := by decide +kernel
theorem dX5_sum_98 : decode cX5_sum 98 = .ok (.aload_n 0, 1) := by decide +kernel
theorem dX5_sum_99 : decode cX5_sum 99 = .ok (.getfield 42, 3) := by decide +kernel
theorem dX5_sum_102 : decode cX5_sum 102 = .ok (.iload_n 1, 1) := by decide +kernel
theorem dX5_sum_103 : decode cX5_sum 103 = .ok (.iload_n 2, 1) := by decide +kernel
theorem dX5_sum_104 : decode cX5_sum 104 = .ok (.invokevirtual 181, 3) := by decide +kernel
theorem dX5_sum_107 : decode cX5_sum 107 = .ok (.lreturn, 1) := by decide +kernel
theorem dX5_sum_108 : decode cX5_sum 108 = .ok (.aload_n 0, 1) := by decide +kernel
theorem dX5_sum_109 : decode cX5_sum 109 = .ok (.getfield 42, 3) := by decide +kernel
theorem dX5_sum_112 : decode cX5_sum 112 = .ok (.iload_n 1, 1) := by decide +kernel
theorem dX5_sum_113 : decode cX5_sum 113 = .ok (.iload_n 2, 1) := by decide +kernel
theorem dX5_sum_114 : decode cX5_sum 114 = .ok (.invokevirtual 178, 3) := by decide +kernel
theorem dX5_sum_117 : decode cX5_sum 117 = .ok (.i2l, 1) := by decide +kernel
theorem dX5_sum_118 : decode cX5_sum 118 = .ok (.lreturn, 1) := by decide +kernel
set_option maxRecDepth 20000 in
theorem ggX5_reached_X5_reckon : GoodIn wsX5_reached wsX5_reckon := goodIn_r _ [13, 14, 4, 15, 16, 17, 18, 12, 19, 20, 21, 22, 23, 24, 25, 26, 27, 28, 29, 30, 31, 32, 33, 34, 35, 36, 37, 38, 39, 40, 41, 42, 43, 44, 45, 46, 47, 48, 49, 50, 51, 52, 53, 54, 55, 56, 57, 58, 59, 60, 61, 62, 63, 64, 65, 66, 67, 68, 69, 70, 71, 6, 7, 8, 72, 73, 74, 75, 76, 77, 78, 79, 80, 81, 82, 83, 84, 85, 86, 87, 88, 89, 90, 91, 92, 93, 94, 95, 96, 97, 130, 131, 132, 133, 134, 135, 136, 137, 138, 139, 140, 141, 142, 143, 144, 145, 146, 147, 148, 149, 150, 151] (by decide +kernel) (by decide +kernel)
set_option maxRecDepth 20000 in
theorem gX5_reached_X5_reckon : GoodIn wsX5_reached (wsV RX5 156 RX5 yX5_reckon wsX5_reckon) := goodIn_app (goodIn_of _ (by decide +kernel)) ggX5_reached_X5_reckon
set_option maxRecDepth 20000 in
theorem ggX5_reached_X3_rank : GoodIn wsX5_reached wsX3_rank := goodIn_r _ [102, 103, 104, 105, 81, 82, 50, 83, 84, 85, 86, 87, 53, 106, 107, 108, 101, 109, 110, 73, 7, 74, 111, 112, 113, 114, 115, 116, 117, 118, 119, 120, 93, 94, 95, 96, 52, 152, 153, 154, 155, 147, 148] (by decide +kernel) (by decide +kernel)
set_option maxRecDepth 20000 in
theorem gX5_reached_X3_rank : GoodIn wsX5_reached (wsV RX5 186 RX3 yX3_rank wsX3_rank) := goodIn_app (goodIn_of _ (by decide +kernel)) ggX5_reached_X3_rank
set_option maxRecDepth 20000 in
theorem ggX5_reached_X3_size : GoodIn wsX5_reached wsX3_size := goodIn_r _ [124, 103, 152, 153, 154, 155] (by decide +kernel) (by decide +kernel)
set_option maxRecDepth 20000 in
theorem gX5_reached_X3_size : GoodIn wsX5_reached (wsV RX5 190 RX3 yX3_size wsX3_size) := goodIn_app (goodIn_of _ (by decide +kernel)) ggX5_reached_X3_size
set_option maxRecDepth 20000 in
theorem ggX5_reached_X3_dayOfRank : GoodIn wsX5_reached wsX3_dayOfRank := goodIn_r _ [128, 103, 104, 152, 153, 154, 155] (by decide +kernel) (by decide +kernel)
set_option maxRecDepth 20000 in
theorem gX5_reached_X3_dayOfRank : GoodIn wsX5_reached (wsV RX5 196 RX3 yX3_dayOfRank wsX3_dayOfRank) := goodIn_app (goodIn_of _ (by decide +kernel)) ggX5_reached_X3_dayOfRank
set_option maxRecDepth 20000 in
theorem ggX5_reached_X1_flowOn : GoodIn wsX5_reached wsX1_flowOn := goodIn_r _ [95, 96, 52, 147, 148] (by decide +kernel) (by decide +kernel)
set_option maxRecDepth 20000 in
theorem gX5_reached_X1_flowOn : GoodIn wsX5_reached (wsV RX5 162 RX1 yX1_flowOn wsX1_flowOn) := goodIn_app (goodIn_of _ (by decide +kernel)) ggX5_reached_X1_flowOn
theorem dX5_reached_0 : decode cX5_reached 0 = .ok (.iload_n 1, 1) := by decide +kernel
theorem dX5_reached_1 : decode cX5_reached 1 = .ok (.iconst 1, 1) := by decide +kernel
theorem dX5_reached_2 : decode cX5_reached 2 = .ok (.if_icmp .lt 9, 3) := by decide +kernel
theorem dX5_reached_5 : decode cX5_reached 5 = .ok (.iload_n 1, 1) := by decide +kernel
theorem dX5_reached_6 : decode cX5_reached 6 = .ok (.bipush 100, 2) := by decide +kernel
theorem dX5_reached_8 : decode cX5_reached 8 = .ok (.if_icmp .le 13, 3) := by decide +kernel
theorem dX5_reached_11 : decode cX5_reached 11 = .ok (.new 112, 3) := by decide +kernel
theorem dX5_reached_14 : decode cX5_reached 14 = .ok (.dup, 1) := by decide +kernel
theorem dX5_reached_15 : decode cX5_reached 15 = .ok (.ldc 184, 2) := by decide +kernel
theorem dX5_reached_17 : decode cX5_reached 17 = .ok (.invokespecial 116, 3) := by decide +kernel
theorem dX5_reached_20 : decode cX5_reached 20 = .ok (.athrow, 1) := by decide +kernel
theorem dX5_reached_21 : decode cX5_reached 21 = .ok (.aload_n 0, 1) := by decide +kernel
theorem dX5_reached_22 : decode cX5_reached 22 = .ok (.invokevirtual 156, 3) := by decide +kernel
theorem dX5_reached_25 : decode cX5_reached 25 = .ok (.aload_n 0, 1) := by decide +kernel
theorem dX5_reached_26 : decode cX5_reached 26 = .ok (.getfield 49, 3) := by decide +kernel
theorem dX5_reached_29 : decode cX5_reached 29 = .ok (.aload_n 0, 1) := by decide +kernel
theorem dX5_reached_30 : decode cX5_reached 30 = .ok (.getfield 42, 3) := by decide +kernel
theorem dX5_reached_33 : decode cX5_reached 33 = .ok (.invokevirtual 186, 3) := by decide +kernel
theorem dX5_reached_36 : decode cX5_reached 36 = .ok (.iconst 1, 1) := by decide +kernel
theorem dX5_reached_37 : decode cX5_reached 37 = .ok (.aload_n 0, 1) := by decide +kernel
theorem dX5_reached_38 : decode cX5_reached 38 = .ok (.getfield 49, 3) := by decide +kernel
theorem dX5_reached_41 : decode cX5_reached 41 = .ok (.invokevirtual 190, 3) := by decide +kernel
theorem dX5_reached_44 : decode cX5_reached 44 = .ok (.iload_n 1, 1) := by decide +kernel
theorem dX5_reached_45 : decode cX5_reached 45 = .ok (.imul, 1) := by decide +kernel
theorem dX5_reached_46 : decode cX5_reached 46 = .ok (.bipush 100, 2) := by decide +kernel
theorem dX5_reached_48 : decode cX5_reached 48 = .ok (.idiv, 1) := by decide +kernel
theorem dX5_reached_49 : decode cX5_reached 49 = .ok (.invokestatic 191, 3) := by decide +kernel
theorem dX5_reached_52 : decode cX5_reached 52 = .ok (.istore_n 2, 1) := by decide +kernel
theorem dX5_reached_53 : decode cX5_reached 53 = .ok (.aload_n 0, 1) := by decide +kernel
theorem dX5_reached_54 : decode cX5_reached 54 = .ok (.getfield 42, 3) := by decide +kernel
theorem dX5_reached_57 : decode cX5_reached 57 = .ok (.aload_n 0, 1) := by decide +kernel
theorem dX5_reached_58 : decode cX5_reached 58 = .ok (.getfield 49, 3) := by decide +kernel
theorem dX5_reached_61 : decode cX5_reached 61 = .ok (.iload_n 2, 1) := by decide +kernel
theorem dX5_reached_62 : decode cX5_reached 62 = .ok (.invokevirtual 196, 3) := by decide +kernel
theorem dX5_reached_65 : decode cX5_reached 65 = .ok (.invokevirtual 162, 3) := by decide +kernel
theorem dX5_reached_68 : decode cX5_reached 68 = .ok (.lreturn, 1) := by decide +kernel
set_option maxRecDepth 20000 in
theorem ggX5_peaks_X5_requireLimit : GoodIn wsX5_peaks wsX5_requireLimit := goodIn_ca (goodIn_r _ [8, 1, 2] (by decide +kernel) (by decide +kernel)) (goodIn_sub (fun _ h => List.mem_cons_of_mem _ (List.mem_append_right _ h)) (by decide +kernel))
set_option maxRecDepth 20000 in
theorem gX5_peaks_X5_requireLimit : GoodIn wsX5_peaks (va_wsS RX5 199 yX5_requireLimit wsX5_requireLimit) := goodIn_app (goodIn_of _ (by decide +kernel)) ggX5_peaks_X5_requireLimit
set_option maxRecDepth 20000 in
theorem ggX5_peaks_X5_reckon : GoodIn wsX5_peaks wsX5_reckon := goodIn_r _ [12, 13, 4, 14, 15, 16, 17, 7, 18, 19, 20, 21, 22, 23, 24, 25, 26, 27, 28, 29, 30, 31, 32, 33, 34, 35, 36, 37, 38, 39, 40, 41, 42, 43, 44, 45, 46, 47, 48, 49, 50, 51, 52, 53, 54, 55, 56, 57, 58, 59, 60, 61, 62, 63, 64, 65, 66, 67, 68, 69, 70, 71, 72, 73, 74, 75, 76, 77, 78, 79, 80, 81, 82, 83, 84, 85, 86, 87, 88, 89, 90, 91, 92, 93, 94, 95, 96, 97, 98, 99, 141, 142, 143, 144, 145, 146, 147, 148, 149, 150, 151, 152, 153, 154, 155, 156, 157, 158, 159, 160, 161, 162] (by decide +kernel) (by decide +kernel)
set_option maxRecDepth 20000 in
theorem gX5_peaks_X5_reckon : GoodIn wsX5_peaks (wsV RX5 156 RX5 yX5_reckon wsX5_reckon) := goodIn_app (goodIn_of _ (by decide +kernel)) ggX5_peaks_X5_reckon
set_option maxRecDepth 20000 in
theorem ggX5_peaks_X3_rank : GoodIn wsX5_peaks wsX3_rank := goodIn_r _ [104, 105, 106, 107, 83, 84, 49, 85, 86, 87, 88, 89, 52, 108, 109, 110, 103, 111, 112, 75, 72, 76, 113, 114, 115, 116, 117, 118, 119, 120, 121, 122, 95, 96, 97, 98, 51, 163, 164, 165, 166, 158, 159] (by decide +kernel) (by decide +kernel)
set_option maxRecDepth 20000 in
theorem gX5_peaks_X3_rank : GoodIn wsX5_peaks (wsV RX5 186 RX3 yX3_rank wsX3_rank) := goodIn_app (goodIn_of _ (by decide +kernel)) ggX5_peaks_X3_rank
set_option maxRecDepth 20000 in
theorem ggX5_peaks_X3_countPeaks : GoodIn wsX5_peaks wsX3_countPeaks := goodIn_r _ [126, 105, 127, 128, 129, 130, 103, 131, 132, 133, 134, 135, 106, 122, 95, 96, 49, 97, 98, 51, 136, 137, 138, 139, 140, 71, 72, 73, 112, 75, 76, 163, 164, 165, 166, 158, 159] (by decide +kernel) (by decide +kernel)
set_option maxRecDepth 20000 in
theorem gX5_peaks_X3_countPeaks : GoodIn wsX5_peaks (wsV RX5 204 RX3 yX3_countPeaks wsX3_countPeaks) := goodIn_app (goodIn_of _ (by decide +kernel)) ggX5_peaks_X3_countPeaks
theorem dX5_peaks_0 : decode cX5_peaks 0 = .ok (.lload_n 1, 1) := by decide +kernel
theorem dX5_peaks_1 : decode cX5_peaks 1 = .ok (.invokestatic 199, 3) := by decide +kernel
theorem dX5_peaks_4 : decode cX5_peaks 4 = .ok (.iload_n 3, 1) := by decide +kernel
theorem dX5_peaks_5 : decode cX5_peaks 5 = .ok (.iconst 1, 1) := by decide +kernel
theorem dX5_peaks_6 : decode cX5_peaks 6 = .ok (.if_icmp .lt 9, 3) := by decide +kernel
theorem dX5_peaks_9 : decode cX5_peaks 9 = .ok (.iload_n 3, 1) := by decide +kernel
theorem dX5_peaks_10 : decode cX5_peaks 10 = .ok (.bipush 100, 2) := by decide +kernel
theorem dX5_peaks_12 : decode cX5_peaks 12 = .ok (.if_icmp .le 13, 3) := by decide +kernel
theorem dX5_peaks_15 : decode cX5_peaks 15 = .ok (.new 112, 3) := by decide +kernel
theorem dX5_peaks_18 : decode cX5_peaks 18 = .ok (.dup, 1) := by decide +kernel
theorem dX5_peaks_19 : decode cX5_peaks 19 = .ok (.ldc 202, 2) := by decide +kernel
theorem dX5_peaks_21 : decode cX5_peaks 21 = .ok (.invokespecial 116, 3) := by decide +kernel
theorem dX5_peaks_24 : decode cX5_peaks 24 = .ok (.athrow, 1) := by decide +kernel
theorem dX5_peaks_25 : decode cX5_peaks 25 = .ok (.aload_n 0, 1) := by decide +kernel
theorem dX5_peaks_26 : decode cX5_peaks 26 = .ok (.invokevirtual 156, 3) := by decide +kernel
theorem dX5_peaks_29 : decode cX5_peaks 29 = .ok (.aload_n 0, 1) := by decide +kernel
theorem dX5_peaks_30 : decode cX5_peaks 30 = .ok (.getfield 49, 3) := by decide +kernel
theorem dX5_peaks_33 : decode cX5_peaks 33 = .ok (.aload_n 0, 1) := by decide +kernel
theorem dX5_peaks_34 : decode cX5_peaks 34 = .ok (.getfield 42, 3) := by decide +kernel
theorem dX5_peaks_37 : decode cX5_peaks 37 = .ok (.invokevirtual 186, 3) := by decide +kernel
theorem dX5_peaks_40 : decode cX5_peaks 40 = .ok (.aload_n 0, 1) := by decide +kernel
theorem dX5_peaks_41 : decode cX5_peaks 41 = .ok (.getfield 49, 3) := by decide +kernel
theorem dX5_peaks_44 : decode cX5_peaks 44 = .ok (.aload_n 0, 1) := by decide +kernel
theorem dX5_peaks_45 : decode cX5_peaks 45 = .ok (.getfield 42, 3) := by decide +kernel
theorem dX5_peaks_48 : decode cX5_peaks 48 = .ok (.lload_n 1, 1) := by decide +kernel
theorem dX5_peaks_49 : decode cX5_peaks 49 = .ok (.iload_n 3, 1) := by decide +kernel
theorem dX5_peaks_50 : decode cX5_peaks 50 = .ok (.invokevirtual 204, 3) := by decide +kernel
theorem dX5_peaks_53 : decode cX5_peaks 53 = .ok (.ireturn, 1) := by decide +kernel
theorem dX5_requireDay_0 : decode cX5_requireDay 0 = .ok (.iload_n 0, 1) := by decide +kernel
theorem dX5_requireDay_1 : decode cX5_requireDay 1 = .ok (.ifCond .lt 10, 3) := by decide +kernel
theorem dX5_requireDay_4 : decode cX5_requireDay 4 = .ok (.iload_n 0, 1) := by decide +kernel
theorem dX5_requireDay_5 : decode cX5_requireDay 5 = .ok (.sipush 400, 3) := by decide +kernel
theorem dX5_requireDay_8 : decode cX5_requireDay 8 = .ok (.if_icmp .lt 13, 3) := by decide +kernel
theorem dX5_requireDay_11 : decode cX5_requireDay 11 = .ok (.new 112, 3) := by decide +kernel
theorem dX5_requireDay_14 : decode cX5_requireDay 14 = .ok (.dup, 1) := by decide +kernel
theorem dX5_requireDay_15 : decode cX5_requireDay 15 = .ok (.ldc 250, 2) := by decide +kernel
theorem dX5_requireDay_17 : decode cX5_requireDay 17 = .ok (.invokespecial 116, 3) := by decide +kernel
theorem dX5_requireDay_20 : decode cX5_requireDay 20 = .ok (.athrow, 1) := by decide +kernel
theorem dX5_requireDay_21 : decode cX5_requireDay 21 = .ok (.return_, 1) := by decide +kernel
set_option maxRecDepth 20000 in
theorem ggX5_requireSpan_X5_requireDay : GoodIn wsX5_requireSpan wsX5_requireDay := goodIn_ca (goodIn_r _ [6, 1, 2] (by decide +kernel) (by decide +kernel)) (goodIn_sub (fun _ h => List.mem_cons_of_mem _ (List.mem_append_right _ h)) (by decide +kernel))
set_option maxRecDepth 20000 in
theorem gX5_requireSpan_X5_requireDay : GoodIn wsX5_requireSpan (va_wsS RX5 60 yX5_requireDay wsX5_requireDay) := goodIn_app (goodIn_of _ (by decide +kernel)) ggX5_requireSpan_X5_requireDay
theorem dX5_requireSpan_0 : decode cX5_requireSpan 0 = .ok (.iload_n 0, 1) := by decide +kernel
theorem dX5_requireSpan_1 : decode cX5_requireSpan 1 = .ok (.invokestatic 60, 3) := by decide +kernel
theorem dX5_requireSpan_4 : decode cX5_requireSpan 4 = .ok (.iload_n 1, 1) := by decide +kernel
theorem dX5_requireSpan_5 : decode cX5_requireSpan 5 = .ok (.iconst 1, 1) := by decide +kernel
theorem dX5_requireSpan_6 : decode cX5_requireSpan 6 = .ok (.if_icmp .lt 10, 3) := by decide +kernel
theorem dX5_requireSpan_9 : decode cX5_requireSpan 9 = .ok (.iload_n 1, 1) := by decide +kernel
theorem dX5_requireSpan_10 : decode cX5_requireSpan 10 = .ok (.sipush 400, 3) := by decide +kernel
theorem dX5_requireSpan_13 : decode cX5_requireSpan 13 = .ok (.if_icmp .le 13, 3) := by decide +kernel
theorem dX5_requireSpan_16 : decode cX5_requireSpan 16 = .ok (.new 112, 3) := by decide +kernel
theorem dX5_requireSpan_19 : decode cX5_requireSpan 19 = .ok (.dup, 1) := by decide +kernel
theorem dX5_requireSpan_20 : decode cX5_requireSpan 20 = .ok (.ldc 252, 2) := by decide +kernel
theorem dX5_requireSpan_22 : decode cX5_requireSpan 22 = .ok (.invokespecial 116, 3) := by decide +kernel
theorem dX5_requireSpan_25 : decode cX5_requireSpan 25 = .ok (.athrow, 1) := by decide +kernel
theorem dX5_requireSpan_26 : decode cX5_requireSpan 26 = .ok (.iload_n 0, 1) := by decide +kernel
theorem dX5_requireSpan_27 : decode cX5_requireSpan 27 = .ok (.iload_n 1, 1) := by decide +kernel
theorem dX5_requireSpan_28 : decode cX5_requireSpan 28 = .ok (.iadd, 1) := by decide +kernel
theorem dX5_requireSpan_29 : decode cX5_requireSpan 29 = .ok (.sipush 400, 3) := by decide +kernel
theorem dX5_requireSpan_32 : decode cX5_requireSpan 32 = .ok (.if_icmp .le 13, 3) := by decide +kernel
theorem dX5_requireSpan_35 : decode cX5_requireSpan 35 = .ok (.new 112, 3) := by decide +kernel
theorem dX5_requireSpan_38 : decode cX5_requireSpan 38 = .ok (.dup, 1) := by decide +kernel
theorem dX5_requireSpan_39 : decode cX5_requireSpan 39 = .ok (.ldc 254, 2) := by decide +kernel
theorem dX5_requireSpan_41 : decode cX5_requireSpan 41 = .ok (.invokespecial 116, 3) := by decide +kernel
theorem dX5_requireSpan_44 : decode cX5_requireSpan 44 = .ok (.athrow, 1) := by decide +kernel
theorem dX5_requireSpan_45 : decode cX5_requireSpan 45 = .ok (.return_, 1) := by decide +kernel
theorem dX5_requireRange_0 : decode cX5_requireRange 0 = .ok (.iload_n 0, 1) := by decide +kernel
theorem dX5_requireRange_1 : decode cX5_requireRange 1 = .ok (.ifCond .lt 15, 3) := by decide +kernel
theorem dX5_requireRange_4 : decode cX5_requireRange 4 = .ok (.iload_n 0, 1) := by decide +kernel
theorem dX5_requireRange_5 : decode cX5_requireRange 5 = .ok (.iload_n 1, 1) := by decide +kernel
theorem dX5_requireRange_6 : decode cX5_requireRange 6 = .ok (.if_icmp .gt 10, 3) := by decide +kernel
theorem dX5_requireRange_9 : decode cX5_requireRange 9 = .ok (.iload_n 1, 1) := by decide +kernel
theorem dX5_requireRange_10 : decode cX5_requireRange 10 = .ok (.sipush 400, 3) := by decide +kernel
theorem dX5_requireRange_13 : decode cX5_requireRange 13 = .ok (.if_icmp .lt 14, 3) := by decide +kernel
theorem dX5_requireRange_16 : decode cX5_requireRange 16 = .ok (.new 112, 3) := by decide +kernel
theorem dX5_requireRange_19 : decode cX5_requireRange 19 = .ok (.dup, 1) := by decide +kernel
theorem dX5_requireRange_20 : decode cX5_requireRange 20 = .ok (.ldc_w 256, 3) := by decide +kernel
theorem dX5_requireRange_23 : decode cX5_requireRange 23 = .ok (.invokespecial 116, 3) := by decide +kernel
theorem dX5_requireRange_26 : decode cX5_requireRange 26 = .ok (.athrow, 1) := by decide +kernel
theorem dX5_requireRange_27 : decode cX5_requireRange 27 = .ok (.return_, 1) := by decide +kernel
theorem dX5_requireStage_0 : decode cX5_requireStage 0 = .ok (.lload_n 0, 1) := by decide +kernel
theorem dX5_requireStage_1 : decode cX5_requireStage 1 = .ok (.ldc2_w 258, 3) := by decide +kernel
theorem dX5_requireStage_4 : decode cX5_requireStage 4 = .ok (.lcmp, 1) := by decide +kernel
theorem dX5_requireStage_5 : decode cX5_requireStage 5 = .ok (.ifCond .lt 11, 3) := by decide +kernel
theorem dX5_requireStage_8 : decode cX5_requireStage 8 = .ok (.lload_n 0, 1) := by decide +kernel
theorem dX5_requireStage_9 : decode cX5_requireStage 9 = .ok (.ldc2_w 260, 3) := by decide +kernel
theorem dX5_requireStage_12 : decode cX5_requireStage 12 = .ok (.lcmp, 1) := by decide +kernel
theorem dX5_requireStage_13 : decode cX5_requireStage 13 = .ok (.ifCond .le 14, 3) := by decide +kernel
theorem dX5_requireStage_16 : decode cX5_requireStage 16 = .ok (.new 112, 3) := by decide +kernel
theorem dX5_requireStage_19 : decode cX5_requireStage 19 = .ok (.dup, 1) := by decide +kernel
theorem dX5_requireStage_20 : decode cX5_requireStage 20 = .ok (.ldc_w 262, 3) := by decide +kernel
theorem dX5_requireStage_23 : decode cX5_requireStage 23 = .ok (.invokespecial 116, 3) := by decide +kernel
theorem dX5_requireStage_26 : decode cX5_requireStage 26 = .ok (.athrow, 1) := by decide +kernel
theorem dX5_requireStage_27 : decode cX5_requireStage 27 = .ok (.return_, 1) := by decide +kernel
theorem dX5_requireFlow_0 : decode cX5_requireFlow 0 = .ok (.iload_n 0, 1) := by decide +kernel
theorem dX5_requireFlow_1 : decode cX5_requireFlow 1 = .ok (.ifCond .lt 10, 3) := by decide +kernel
theorem dX5_requireFlow_4 : decode cX5_requireFlow 4 = .ok (.iload_n 0, 1) := by decide +kernel
theorem dX5_requireFlow_5 : decode cX5_requireFlow 5 = .ok (.ldc_w 264, 3) := by decide +kernel
theorem dX5_requireFlow_8 : decode cX5_requireFlow 8 = .ok (.if_icmp .le 14, 3) := by decide +kernel
theorem dX5_requireFlow_11 : decode cX5_requireFlow 11 = .ok (.new 112, 3) := by decide +kernel
theorem dX5_requireFlow_14 : decode cX5_requireFlow 14 = .ok (.dup, 1) := by decide +kernel
theorem dX5_requireFlow_15 : decode cX5_requireFlow 15 = .ok (.ldc_w 265, 3) := by decide +kernel
theorem dX5_requireFlow_18 : decode cX5_requireFlow 18 = .ok (.invokespecial 116, 3) := by decide +kernel
theorem dX5_requireFlow_21 : decode cX5_requireFlow 21 = .ok (.athrow, 1) := by decide +kernel
theorem dX5_requireFlow_22 : decode cX5_requireFlow 22 = .ok (.return_, 1) := by decide +kernel
theorem dX5_requireLimit_0 : decode cX5_requireLimit 0 = .ok (.lload_n 0, 1) := by decide +kernel
theorem dX5_requireLimit_1 : decode cX5_requireLimit 1 = .ok (.lconst 0, 1) := by decide +kernel
theorem dX5_requireLimit_2 : decode cX5_requireLimit 2 = .ok (.lcmp, 1) := by decide +kernel
theorem dX5_requireLimit_3 : decode cX5_requireLimit 3 = .ok (.ifCond .ge 14, 3) := by decide +kernel
theorem dX5_requireLimit_6 : decode cX5_requireLimit 6 = .ok (.new 112, 3) := by decide +kernel
theorem dX5_requireLimit_9 : decode cX5_requireLimit 9 = .ok (.dup, 1) := by decide +kernel
theorem dX5_requireLimit_10 : decode cX5_requireLimit 10 = .ok (.ldc_w 267, 3) := by decide +kernel
theorem dX5_requireLimit_13 : decode cX5_requireLimit 13 = .ok (.invokespecial 116, 3) := by decide +kernel
theorem dX5_requireLimit_16 : decode cX5_requireLimit 16 = .ok (.athrow, 1) := by decide +kernel
theorem dX5_requireLimit_17 : decode cX5_requireLimit 17 = .ok (.return_, 1) := by decide +kernel
theorem dX5_countTrue_0 : decode cX5_countTrue 0 = .ok (.iconst 0, 1) := by decide +kernel
theorem dX5_countTrue_1 : decode cX5_countTrue 1 = .ok (.istore_n 3, 1) := by decide +kernel
theorem dX5_countTrue_2 : decode cX5_countTrue 2 = .ok (.iload_n 1, 1) := by decide +kernel
theorem dX5_countTrue_3 : decode cX5_countTrue 3 = .ok (.istore 4, 2) := by decide +kernel
theorem dX5_countTrue_5 : decode cX5_countTrue 5 = .ok (.iload 4, 2) := by decide +kernel
theorem dX5_countTrue_7 : decode cX5_countTrue 7 = .ok (.iload_n 1, 1) := by decide +kernel
theorem dX5_countTrue_8 : decode cX5_countTrue 8 = .ok (.iload_n 2, 1) := by decide +kernel
theorem dX5_countTrue_9 : decode cX5_countTrue 9 = .ok (.iadd, 1) := by decide +kernel
theorem dX5_countTrue_10 : decode cX5_countTrue 10 = .ok (.if_icmp .ge 26, 3) := by decide +kernel
theorem dX5_countTrue_13 : decode cX5_countTrue 13 = .ok (.iload 4, 2) := by decide +kernel
theorem dX5_countTrue_15 : decode cX5_countTrue 15 = .ok (.aload_n 0, 1) := by decide +kernel
theorem dX5_countTrue_16 : decode cX5_countTrue 16 = .ok (.arraylength, 1) := by decide +kernel
theorem dX5_countTrue_17 : decode cX5_countTrue 17 = .ok (.if_icmp .ge 19, 3) := by decide +kernel
theorem dX5_countTrue_20 : decode cX5_countTrue 20 = .ok (.aload_n 0, 1) := by decide +kernel
theorem dX5_countTrue_21 : decode cX5_countTrue 21 = .ok (.iload 4, 2) := by decide +kernel
theorem dX5_countTrue_23 : decode cX5_countTrue 23 = .ok (.baload, 1) := by decide +kernel
theorem dX5_countTrue_24 : decode cX5_countTrue 24 = .ok (.ifCond .eq 6, 3) := by decide +kernel
theorem dX5_countTrue_27 : decode cX5_countTrue 27 = .ok (.iinc 3 1, 3) := by decide +kernel
theorem dX5_countTrue_30 : decode cX5_countTrue 30 = .ok (.iinc 4 1, 3) := by decide +kernel
theorem dX5_countTrue_33 : decode cX5_countTrue 33 = .ok (.goto (-28), 3) := by decide +kernel
theorem dX5_countTrue_36 : decode cX5_countTrue 36 = .ok (.iload_n 3, 1) := by decide +kernel
theorem dX5_countTrue_37 : decode cX5_countTrue 37 = .ok (.ireturn, 1) := by decide +kernel
theorem dX5_countLower_0 : decode cX5_countLower 0 = .ok (.iconst 0, 1) := by decide +kernel
theorem dX5_countLower_1 : decode cX5_countLower 1 = .ok (.istore_n 3, 1) := by decide +kernel
theorem dX5_countLower_2 : decode cX5_countLower 2 = .ok (.iload_n 3, 1) := by decide +kernel
theorem dX5_countLower_3 : decode cX5_countLower 3 = .ok (.iload_n 1, 1) := by decide +kernel
theorem dX5_countLower_4 : decode cX5_countLower 4 = .ok (.if_icmp .ge 22, 3) := by decide +kernel
theorem dX5_countLower_7 : decode cX5_countLower 7 = .ok (.iload_n 3, 1) := by decide +kernel
theorem dX5_countLower_8 : decode cX5_countLower 8 = .ok (.aload_n 0, 1) := by decide +kernel
theorem dX5_countLower_9 : decode cX5_countLower 9 = .ok (.arraylength, 1) := by decide +kernel
theorem dX5_countLower_10 : decode cX5_countLower 10 = .ok (.if_icmp .ge 16, 3) := by decide +kernel
theorem dX5_countLower_13 : decode cX5_countLower 13 = .ok (.aload_n 0, 1) := by decide +kernel
theorem dX5_countLower_14 : decode cX5_countLower 14 = .ok (.iload_n 3, 1) := by decide +kernel
theorem dX5_countLower_15 : decode cX5_countLower 15 = .ok (.iaload, 1) := by decide +kernel
theorem dX5_countLower_16 : decode cX5_countLower 16 = .ok (.iload_n 2, 1) := by decide +kernel
theorem dX5_countLower_17 : decode cX5_countLower 17 = .ok (.if_icmp .ge 9, 3) := by decide +kernel
theorem dX5_countLower_20 : decode cX5_countLower 20 = .ok (.iinc 3 1, 3) := by decide +kernel
theorem dX5_countLower_23 : decode cX5_countLower 23 = .ok (.goto (-21), 3) := by decide +kernel
theorem dX5_countLower_26 : decode cX5_countLower 26 = .ok (.iload_n 3, 1) := by decide +kernel
theorem dX5_countLower_27 : decode cX5_countLower 27 = .ok (.ireturn, 1) := by decide +kernel
theorem dX5_insertInto_0 : decode cX5_insertInto 0 = .ok (.iload_n 2, 1) := by decide +kernel
theorem dX5_insertInto_1 : decode cX5_insertInto 1 = .ok (.ifCond .lt 14, 3) := by decide +kernel
theorem dX5_insertInto_4 : decode cX5_insertInto 4 = .ok (.iload_n 2, 1) := by decide +kernel
theorem dX5_insertInto_5 : decode cX5_insertInto 5 = .ok (.iload_n 1, 1) := by decide +kernel
theorem dX5_insertInto_6 : decode cX5_insertInto 6 = .ok (.if_icmp .gt 9, 3) := by decide +kernel
theorem dX5_insertInto_9 : decode cX5_insertInto 9 = .ok (.iload_n 1, 1) := by decide +kernel
theorem dX5_insertInto_10 : decode cX5_insertInto 10 = .ok (.aload_n 0, 1) := by decide +kernel
theorem dX5_insertInto_11 : decode cX5_insertInto 11 = .ok (.arraylength, 1) := by decide +kernel
theorem dX5_insertInto_12 : decode cX5_insertInto 12 = .ok (.if_icmp .lt 4, 3) := by decide +kernel
theorem dX5_insertInto_15 : decode cX5_insertInto 15 = .ok (.return_, 1) := by decide +kernel
theorem dX5_insertInto_16 : decode cX5_insertInto 16 = .ok (.iload_n 1, 1) := by decide +kernel
theorem dX5_insertInto_17 : decode cX5_insertInto 17 = .ok (.istore 4, 2) := by decide +kernel
theorem dX5_insertInto_19 : decode cX5_insertInto 19 = .ok (.iload 4, 2) := by decide +kernel
theorem dX5_insertInto_21 : decode cX5_insertInto 21 = .ok (.iload_n 2, 1) := by decide +kernel
theorem dX5_insertInto_22 : decode cX5_insertInto 22 = .ok (.if_icmp .le 19, 3) := by decide +kernel
theorem dX5_insertInto_25 : decode cX5_insertInto 25 = .ok (.aload_n 0, 1) := by decide +kernel
theorem dX5_insertInto_26 : decode cX5_insertInto 26 = .ok (.iload 4, 2) := by decide +kernel
theorem dX5_insertInto_28 : decode cX5_insertInto 28 = .ok (.aload_n 0, 1) := by decide +kernel
theorem dX5_insertInto_29 : decode cX5_insertInto 29 = .ok (.iload 4, 2) := by decide +kernel
theorem dX5_insertInto_31 : decode cX5_insertInto 31 = .ok (.iconst 1, 1) := by decide +kernel
theorem dX5_insertInto_32 : decode cX5_insertInto 32 = .ok (.isub, 1) := by decide +kernel
theorem dX5_insertInto_33 : decode cX5_insertInto 33 = .ok (.iaload, 1) := by decide +kernel
theorem dX5_insertInto_34 : decode cX5_insertInto 34 = .ok (.iastore, 1) := by decide +kernel
theorem dX5_insertInto_35 : decode cX5_insertInto 35 = .ok (.iinc 4 (-1), 3) := by decide +kernel
theorem dX5_insertInto_38 : decode cX5_insertInto 38 = .ok (.goto (-19), 3) := by decide +kernel
theorem dX5_insertInto_41 : decode cX5_insertInto 41 = .ok (.aload_n 0, 1) := by decide +kernel
theorem dX5_insertInto_42 : decode cX5_insertInto 42 = .ok (.iload_n 2, 1) := by decide +kernel
theorem dX5_insertInto_43 : decode cX5_insertInto 43 = .ok (.iload_n 3, 1) := by decide +kernel
theorem dX5_insertInto_44 : decode cX5_insertInto 44 = .ok (.iastore, 1) := by decide +kernel
theorem dX5_insertInto_45 : decode cX5_insertInto 45 = .ok (.return_, 1) := by decide +kernel
theorem dX5_interpolate_0 : decode cX5_interpolate 0 = .ok (.lload 6, 2) := by decide +kernel
theorem dX5_interpolate_2 : decode cX5_interpolate 2 = .ok (.lconst 0, 1) := by decide +kernel
theorem dX5_interpolate_3 : decode cX5_interpolate 3 = .ok (.lcmp, 1) := by decide +kernel
theorem dX5_interpolate_4 : decode cX5_interpolate 4 = .ok (.ifCond .ne 7, 3) := by decide +kernel
theorem dX5_interpolate_7 : decode cX5_interpolate 7 = .ok (.lload_n 0, 1) := by decide +kernel
theorem dX5_interpolate_8 : decode cX5_interpolate 8 = .ok (.goto 14, 3) := by decide +kernel
theorem dX5_interpolate_11 : decode cX5_interpolate 11 = .ok (.lload_n 0, 1) := by decide +kernel
theorem dX5_interpolate_12 : decode cX5_interpolate 12 = .ok (.lload_n 2, 1) := by decide +kernel
theorem dX5_interpolate_13 : decode cX5_interpolate 13 = .ok (.lload_n 0, 1) := by decide +kernel
theorem dX5_interpolate_14 : decode cX5_interpolate 14 = .ok (.lsub, 1) := by decide +kernel
theorem dX5_interpolate_15 : decode cX5_interpolate 15 = .ok (.lload 4, 2) := by decide +kernel
theorem dX5_interpolate_17 : decode cX5_interpolate 17 = .ok (.lmul, 1) := by decide +kernel
theorem dX5_interpolate_18 : decode cX5_interpolate 18 = .ok (.lload 6, 2) := by decide +kernel
theorem dX5_interpolate_20 : decode cX5_interpolate 20 = .ok (.ldiv, 1) := by decide +kernel
theorem dX5_interpolate_21 : decode cX5_interpolate 21 = .ok (.ladd, 1) := by decide +kernel
theorem dX5_interpolate_22 : decode cX5_interpolate 22 = .ok (.lreturn, 1) := by decide +kernel
theorem dX5_curveAt_0 : decode cX5_curveAt 0 = .ok (.iload_n 1, 1) := by decide +kernel
theorem dX5_curveAt_1 : decode cX5_curveAt 1 = .ok (.ifCond .lt 17, 3) := by decide +kernel
theorem dX5_curveAt_4 : decode cX5_curveAt 4 = .ok (.iload_n 1, 1) := by decide +kernel
theorem dX5_curveAt_5 : decode cX5_curveAt 5 = .ok (.aload_n 0, 1) := by decide +kernel
theorem dX5_curveAt_6 : decode cX5_curveAt 6 = .ok (.getfield 64, 3) := by decide +kernel
theorem dX5_curveAt_9 : decode cX5_curveAt 9 = .ok (.if_icmp .ge 9, 3) := by decide +kernel
theorem dX5_curveAt_12 : decode cX5_curveAt 12 = .ok (.iload_n 1, 1) := by decide +kernel
theorem dX5_curveAt_13 : decode cX5_curveAt 13 = .ok (.bipush 6, 2) := by decide +kernel
theorem dX5_curveAt_15 : decode cX5_curveAt 15 = .ok (.if_icmp .lt 7, 3) := by decide +kernel
theorem dX5_curveAt_18 : decode cX5_curveAt 18 = .ok (.aconst_null, 1) := by decide +kernel
theorem dX5_curveAt_19 : decode cX5_curveAt 19 = .ok (.goto 9, 3) := by decide +kernel
theorem dX5_curveAt_22 : decode cX5_curveAt 22 = .ok (.aload_n 0, 1) := by decide +kernel
theorem dX5_curveAt_23 : decode cX5_curveAt 23 = .ok (.getfield 11, 3) := by decide +kernel
theorem dX5_curveAt_26 : decode cX5_curveAt 26 = .ok (.iload_n 1, 1) := by decide +kernel
theorem dX5_curveAt_27 : decode cX5_curveAt 27 = .ok (.aaload, 1) := by decide +kernel
theorem dX5_curveAt_28 : decode cX5_curveAt 28 = .ok (.areturn, 1) := by decide +kernel
set_option maxRecDepth 20000 in
theorem ggX5_hasCurveFrom_X5_curveNumberOn : GoodIn wsX5_hasCurveFrom wsX5_curveNumberOn := goodIn_r _ [5, 6, 7, 8, 4, 9, 10, 11, 12, 13, 14, 15, 16, 17, 18, 19, 20, 21, 22, 23, 24, 25, 26, 27, 28] (by decide +kernel) (by decide +kernel)
set_option maxRecDepth 20000 in
theorem gX5_hasCurveFrom_X5_curveNumberOn : GoodIn wsX5_hasCurveFrom (wsV RX5 131 RX5 yX5_curveNumberOn wsX5_curveNumberOn) := goodIn_app (goodIn_of _ (by decide +kernel)) ggX5_hasCurveFrom_X5_curveNumberOn
set_option maxRecDepth 20000 in
theorem ggX5_hasCurveFrom_X5_curveAt : GoodIn wsX5_hasCurveFrom wsX5_curveAt := goodIn_r _ [9, 10, 11, 16, 17, 18, 19, 20, 21, 22, 23, 24, 25, 26, 27, 28] (by decide +kernel) (by decide +kernel)
set_option maxRecDepth 20000 in
theorem gX5_hasCurveFrom_X5_curveAt : GoodIn wsX5_hasCurveFrom (wsV RX5 86 RX5 yX5_curveAt wsX5_curveAt) := goodIn_app (goodIn_of _ (by decide +kernel)) ggX5_hasCurveFrom_X5_curveAt
theorem dX5_hasCurveFrom_0 : decode cX5_hasCurveFrom 0 = .ok (.aload_n 0, 1) := by decide +kernel
theorem dX5_hasCurveFrom_1 : decode cX5_hasCurveFrom 1 = .ok (.aload_n 0, 1) := by decide +kernel
theorem dX5_hasCurveFrom_2 : decode cX5_hasCurveFrom 2 = .ok (.iload_n 1, 1) := by decide +kernel
theorem dX5_hasCurveFrom_3 : decode cX5_hasCurveFrom 3 = .ok (.invokevirtual 131, 3) := by decide +kernel
theorem dX5_hasCurveFrom_6 : decode cX5_hasCurveFrom 6 = .ok (.invokevirtual 86, 3) := by decide +kernel
theorem dX5_hasCurveFrom_9 : decode cX5_hasCurveFrom 9 = .ok (.astore_n 2, 1) := by decide +kernel
theorem dX5_hasCurveFrom_10 : decode cX5_hasCurveFrom 10 = .ok (.aload_n 2, 1) := by decide +kernel
theorem dX5_hasCurveFrom_11 : decode cX5_hasCurveFrom 11 = .ok (.ifnull 15, 3) := by decide +kernel
theorem dX5_hasCurveFrom_14 : decode cX5_hasCurveFrom 14 = .ok (.aload_n 2, 1) := by decide +kernel
theorem dX5_hasCurveFrom_15 : decode cX5_hasCurveFrom 15 = .ok (.getfield 269, 3) := by decide +kernel
theorem dX5_hasCurveFrom_18 : decode cX5_hasCurveFrom 18 = .ok (.iload_n 1, 1) := by decide +kernel
theorem dX5_hasCurveFrom_19 : decode cX5_hasCurveFrom 19 = .ok (.if_icmp .ne 7, 3) := by decide +kernel
theorem dX5_hasCurveFrom_22 : decode cX5_hasCurveFrom 22 = .ok (.iconst 1, 1) := by decide +kernel
theorem dX5_hasCurveFrom_23 : decode cX5_hasCurveFrom 23 = .ok (.goto 4, 3) := by decide +kernel
theorem dX5_hasCurveFrom_26 : decode cX5_hasCurveFrom 26 = .ok (.iconst 0, 1) := by decide +kernel
theorem dX5_hasCurveFrom_27 : decode cX5_hasCurveFrom 27 = .ok (.ireturn, 1) := by decide +kernel
set_option maxRecDepth 20000 in
theorem ggX5_curveNumberOn_X5_curveAt : GoodIn wsX5_curveNumberOn wsX5_curveAt := goodIn_r _ [5, 6, 7, 12, 13, 14, 15, 16, 17, 18, 19, 20, 21, 22, 23, 24] (by decide +kernel) (by decide +kernel)
set_option maxRecDepth 20000 in
theorem gX5_curveNumberOn_X5_curveAt : GoodIn wsX5_curveNumberOn (wsV RX5 86 RX5 yX5_curveAt wsX5_curveAt) := goodIn_app (goodIn_of _ (by decide +kernel)) ggX5_curveNumberOn_X5_curveAt
theorem dX5_curveNumberOn_0 : decode cX5_curveNumberOn 0 = .ok (.iconst (-1), 1) := by decide +kernel
theorem dX5_curveNumberOn_1 : decode cX5_curveNumberOn 1 = .ok (.istore_n 2, 1) := by decide +kernel
theorem dX5_curveNumberOn_2 : decode cX5_curveNumberOn 2 = .ok (.iconst (-1), 1) := by decide +kernel
theorem dX5_curveNumberOn_3 : decode cX5_curveNumberOn 3 = .ok (.istore_n 3, 1) := by decide +kernel
theorem dX5_curveNumberOn_4 : decode cX5_curveNumberOn 4 = .ok (.iconst 0, 1) := by decide +kernel
theorem dX5_curveNumberOn_5 : decode cX5_curveNumberOn 5 = .ok (.istore 4, 2) := by decide +kernel
theorem dX5_curveNumberOn_7 : decode cX5_curveNumberOn 7 = .ok (.iload 4, 2) := by decide +kernel
theorem dX5_curveNumberOn_9 : decode cX5_curveNumberOn 9 = .ok (.bipush 6, 2) := by decide +kernel
theorem dX5_curveNumberOn_11 : decode cX5_curveNumberOn 11 = .ok (.if_icmp .ge 49, 3) := by decide +kernel
theorem dX5_curveNumberOn_14 : decode cX5_curveNumberOn 14 = .ok (.aload_n 0, 1) := by decide +kernel
theorem dX5_curveNumberOn_15 : decode cX5_curveNumberOn 15 = .ok (.iload 4, 2) := by decide +kernel
theorem dX5_curveNumberOn_17 : decode cX5_curveNumberOn 17 = .ok (.invokevirtual 86, 3) := by decide +kernel
theorem dX5_curveNumberOn_20 : decode cX5_curveNumberOn 20 = .ok (.astore 5, 2) := by decide +kernel
theorem dX5_curveNumberOn_22 : decode cX5_curveNumberOn 22 = .ok (.aload 5, 2) := by decide +kernel
theorem dX5_curveNumberOn_24 : decode cX5_curveNumberOn 24 = .ok (.ifnull 30, 3) := by decide +kernel
theorem dX5_curveNumberOn_27 : decode cX5_curveNumberOn 27 = .ok (.aload 5, 2) := by decide +kernel
theorem dX5_curveNumberOn_29 : decode cX5_curveNumberOn 29 = .ok (.getfield 269, 3) := by decide +kernel
theorem dX5_curveNumberOn_32 : decode cX5_curveNumberOn 32 = .ok (.iload_n 1, 1) := by decide +kernel
theorem dX5_curveNumberOn_33 : decode cX5_curveNumberOn 33 = .ok (.if_icmp .gt 21, 3) := by decide +kernel
theorem dX5_curveNumberOn_36 : decode cX5_curveNumberOn 36 = .ok (.aload 5, 2) := by decide +kernel
theorem dX5_curveNumberOn_38 : decode cX5_curveNumberOn 38 = .ok (.getfield 269, 3) := by decide +kernel
theorem dX5_curveNumberOn_41 : decode cX5_curveNumberOn 41 = .ok (.iload_n 3, 1) := by decide +kernel
theorem dX5_curveNumberOn_42 : decode cX5_curveNumberOn 42 = .ok (.if_icmp .le 12, 3) := by decide +kernel
theorem dX5_curveNumberOn_45 : decode cX5_curveNumberOn 45 = .ok (.iload 4, 2) := by decide +kernel
theorem dX5_curveNumberOn_47 : decode cX5_curveNumberOn 47 = .ok (.istore_n 2, 1) := by decide +kernel
theorem dX5_curveNumberOn_48 : decode cX5_curveNumberOn 48 = .ok (.aload 5, 2) := by decide +kernel
theorem dX5_curveNumberOn_50 : decode cX5_curveNumberOn 50 = .ok (.getfield 269, 3) := by decide +kernel
theorem dX5_curveNumberOn_53 : decode cX5_curveNumberOn 53 = .ok (.istore_n 3, 1) := by decide +kernel
theorem dX5_curveNumberOn_54 : decode cX5_curveNumberOn 54 = .ok (.iinc 4 1, 3) := by decide +kernel
theorem dX5_curveNumberOn_57 : decode cX5_curveNumberOn 57 = .ok (.goto (-50), 3) := by decide +kernel
theorem dX5_curveNumberOn_60 : decode cX5_curveNumberOn 60 = .ok (.iload_n 2, 1) := by decide +kernel
theorem dX5_curveNumberOn_61 : decode cX5_curveNumberOn 61 = .ok (.ireturn, 1) := by decide +kernel
set_option maxRecDepth 20000 in
theorem ggX5_completeCurveOn_X5_curveNumberOn : GoodIn wsX5_completeCurveOn wsX5_curveNumberOn := goodIn_r _ [5, 6, 7, 8, 4, 9, 10, 11, 18, 19, 20, 21, 22, 23, 24, 25, 26, 27, 28, 29, 30, 31, 32, 33, 34] (by decide +kernel) (by decide +kernel)
set_option maxRecDepth 20000 in
theorem gX5_completeCurveOn_X5_curveNumberOn : GoodIn wsX5_completeCurveOn (wsV RX5 131 RX5 yX5_curveNumberOn wsX5_curveNumberOn) := goodIn_app (goodIn_of _ (by decide +kernel)) ggX5_completeCurveOn_X5_curveNumberOn
set_option maxRecDepth 20000 in
theorem ggX5_completeCurveOn_X5_curveAt : GoodIn wsX5_completeCurveOn wsX5_curveAt := goodIn_r _ [9, 10, 11, 22, 23, 24, 25, 26, 27, 28, 29, 30, 31, 32, 33, 34] (by decide +kernel) (by decide +kernel)
set_option maxRecDepth 20000 in
theorem gX5_completeCurveOn_X5_curveAt : GoodIn wsX5_completeCurveOn (wsV RX5 86 RX5 yX5_curveAt wsX5_curveAt) := goodIn_app (goodIn_of _ (by decide +kernel)) ggX5_completeCurveOn_X5_curveAt
set_option maxRecDepth 20000 in
theorem ggX5_completeCurveOn_X0_isComplete : GoodIn wsX5_completeCurveOn wsX0_isComplete := goodIn_r _ [16, 17, 18, 19, 20, 21] (by decide +kernel) (by decide +kernel)
set_option maxRecDepth 20000 in
theorem gX5_completeCurveOn_X0_isComplete : GoodIn wsX5_completeCurveOn (wsV RX5 117 RX0 yX0_isComplete wsX0_isComplete) := goodIn_app (goodIn_of _ (by decide +kernel)) ggX5_completeCurveOn_X0_isComplete
theorem dX5_completeCurveOn_0 : decode cX5_completeCurveOn 0 = .ok (.aload_n 0, 1) := by decide +kernel
theorem dX5_completeCurveOn_1 : decode cX5_completeCurveOn 1 = .ok (.aload_n 0, 1) := by decide +kernel
theorem dX5_completeCurveOn_2 : decode cX5_completeCurveOn 2 = .ok (.iload_n 1, 1) := by decide +kernel
theorem dX5_completeCurveOn_3 : decode cX5_completeCurveOn 3 = .ok (.invokevirtual 131, 3) := by decide +kernel
theorem dX5_completeCurveOn_6 : decode cX5_completeCurveOn 6 = .ok (.invokevirtual 86, 3) := by decide +kernel
theorem dX5_completeCurveOn_9 : decode cX5_completeCurveOn 9 = .ok (.astore_n 2, 1) := by decide +kernel
theorem dX5_completeCurveOn_10 : decode cX5_completeCurveOn 10 = .ok (.aload_n 2, 1) := by decide +kernel
theorem dX5_completeCurveOn_11 : decode cX5_completeCurveOn 11 = .ok (.ifnull 14, 3) := by decide +kernel
theorem dX5_completeCurveOn_14 : decode cX5_completeCurveOn 14 = .ok (.aload_n 2, 1) := by decide +kernel
theorem dX5_completeCurveOn_15 : decode cX5_completeCurveOn 15 = .ok (.invokevirtual 117, 3) := by decide +kernel
theorem dX5_completeCurveOn_18 : decode cX5_completeCurveOn 18 = .ok (.ifCond .eq 7, 3) := by decide +kernel
theorem dX5_completeCurveOn_21 : decode cX5_completeCurveOn 21 = .ok (.aload_n 2, 1) := by decide +kernel
theorem dX5_completeCurveOn_22 : decode cX5_completeCurveOn 22 = .ok (.goto 4, 3) := by decide +kernel
theorem dX5_completeCurveOn_25 : decode cX5_completeCurveOn 25 = .ok (.aconst_null, 1) := by decide +kernel
theorem dX5_completeCurveOn_26 : decode cX5_completeCurveOn 26 = .ok (.areturn, 1) := by decide +kernel
set_option maxRecDepth 20000 in
theorem ggX5_reckon_X5_reckonDay : GoodIn wsX5_reckon wsX5_reckonDay := goodIn_r _ [8, 9, 2, 10, 11, 12, 13, 14, 15, 16, 17, 18, 7, 19, 20, 21, 22, 23, 24, 25, 26, 27, 28, 29, 30, 31, 32, 33, 34, 35, 36, 37, 38, 39, 40, 41, 42, 43, 44, 45, 46, 47, 48, 49, 50, 51, 52, 53, 54, 55, 56, 57, 58, 59, 60, 61, 62, 63, 64, 65, 66, 67, 90, 91, 92, 93, 94, 95, 96, 97, 98, 99, 100, 101, 102, 103, 104, 105, 106, 107, 108, 109, 110, 111] (by decide +kernel) (by decide +kernel)
set_option maxRecDepth 20000 in
theorem gX5_reckon_X5_reckonDay : GoodIn wsX5_reckon (wsV RX5 272 RX5 yX5_reckonDay wsX5_reckonDay) := goodIn_app (goodIn_of _ (by decide +kernel)) ggX5_reckon_X5_reckonDay
set_option maxRecDepth 20000 in
theorem ggX5_reckon_X1_fillGaps : GoodIn wsX5_reckon wsX1_fillGaps := goodIn_r _ [71, 72, 73, 74, 39, 75, 76, 77, 78, 79, 42, 80, 81, 82, 83, 84, 85, 86, 87, 88, 41, 53, 7, 54, 89, 37, 38, 40, 107, 108] (by decide +kernel) (by decide +kernel)
set_option maxRecDepth 20000 in
theorem gX5_reckon_X1_fillGaps : GoodIn wsX5_reckon (wsV RX5 275 RX1 yX1_fillGaps wsX1_fillGaps) := goodIn_app (goodIn_of _ (by decide +kernel)) ggX5_reckon_X1_fillGaps
theorem dX5_reckon_0 : decode cX5_reckon 0 = .ok (.aload_n 0, 1) := by decide +kernel
theorem dX5_reckon_1 : decode cX5_reckon 1 = .ok (.getfield 82, 3) := by decide +kernel
theorem dX5_reckon_4 : decode cX5_reckon 4 = .ok (.ifCond .eq 4, 3) := by decide +kernel
theorem dX5_reckon_7 : decode cX5_reckon 7 = .ok (.return_, 1) := by decide +kernel
theorem dX5_reckon_8 : decode cX5_reckon 8 = .ok (.iconst 0, 1) := by decide +kernel
theorem dX5_reckon_9 : decode cX5_reckon 9 = .ok (.istore_n 1, 1) := by decide +kernel
theorem dX5_reckon_10 : decode cX5_reckon 10 = .ok (.iload_n 1, 1) := by decide +kernel
theorem dX5_reckon_11 : decode cX5_reckon 11 = .ok (.sipush 400, 3) := by decide +kernel
theorem dX5_reckon_14 : decode cX5_reckon 14 = .ok (.if_icmp .ge 14, 3) := by decide +kernel
theorem dX5_reckon_17 : decode cX5_reckon 17 = .ok (.aload_n 0, 1) := by decide +kernel
theorem dX5_reckon_18 : decode cX5_reckon 18 = .ok (.iload_n 1, 1) := by decide +kernel
theorem dX5_reckon_19 : decode cX5_reckon 19 = .ok (.invokevirtual 272, 3) := by decide +kernel
theorem dX5_reckon_22 : decode cX5_reckon 22 = .ok (.iinc 1 1, 3) := by decide +kernel
theorem dX5_reckon_25 : decode cX5_reckon 25 = .ok (.goto (-15), 3) := by decide +kernel
theorem dX5_reckon_28 : decode cX5_reckon 28 = .ok (.aload_n 0, 1) := by decide +kernel
theorem dX5_reckon_29 : decode cX5_reckon 29 = .ok (.getfield 42, 3) := by decide +kernel
theorem dX5_reckon_32 : decode cX5_reckon 32 = .ok (.aload_n 0, 1) := by decide +kernel
theorem dX5_reckon_33 : decode cX5_reckon 33 = .ok (.getfield 57, 3) := by decide +kernel
theorem dX5_reckon_36 : decode cX5_reckon 36 = .ok (.invokevirtual 275, 3) := by decide +kernel
theorem dX5_reckon_39 : decode cX5_reckon 39 = .ok (.aload_n 0, 1) := by decide +kernel
theorem dX5_reckon_40 : decode cX5_reckon 40 = .ok (.iconst 1, 1) := by decide +kernel
theorem dX5_reckon_41 : decode cX5_reckon 41 = .ok (.putfield 82, 3) := by decide +kernel
theorem dX5_reckon_44 : decode cX5_reckon 44 = .ok (.return_, 1) := by decide +kernel
set_option maxRecDepth 20000 in
theorem ggX5_reckonDay_X5_completeCurveOn : GoodIn wsX5_reckonDay wsX5_completeCurveOn := goodIn_r _ [13, 14, 15, 16, 12, 17, 18, 19, 20, 21, 22, 23, 24, 25, 26, 27, 28, 29, 75, 76, 77, 78, 62, 63, 64, 65, 66, 67, 68, 69, 70, 71, 72, 73, 74] (by decide +kernel) (by decide +kernel)
set_option maxRecDepth 20000 in
theorem gX5_reckonDay_X5_completeCurveOn : GoodIn wsX5_reckonDay (wsV RX5 229 RX5 yX5_completeCurveOn wsX5_completeCurveOn) := goodIn_app (goodIn_of _ (by decide +kernel)) ggX5_reckonDay_X5_completeCurveOn
set_option maxRecDepth 20000 in
theorem ggX5_reckonDay_X1_put : GoodIn wsX5_reckonDay wsX1_put := goodIn_r _ [34, 35, 36, 79, 80] (by decide +kernel) (by decide +kernel)
set_option maxRecDepth 20000 in
theorem gX5_reckonDay_X1_put : GoodIn wsX5_reckonDay (wsV RX5 280 RX1 yX1_put wsX1_put) := goodIn_app (goodIn_of _ (by decide +kernel)) ggX5_reckonDay_X1_put
set_option maxRecDepth 20000 in
theorem ggX5_reckonDay_X4_on : GoodIn wsX5_reckonDay wsX4_on := goodIn_r _ [41, 42, 43, 44, 45, 12, 46, 47, 48, 81, 82, 83] (by decide +kernel) (by decide +kernel)
set_option maxRecDepth 20000 in
theorem gX5_reckonDay_X4_on : GoodIn wsX5_reckonDay (wsV RX5 136 RX4 yX4_on wsX4_on) := goodIn_app (goodIn_of _ (by decide +kernel)) ggX5_reckonDay_X4_on
set_option maxRecDepth 20000 in
theorem ggX5_reckonDay_X0_flowAt : GoodIn wsX5_reckonDay wsX0_flowAt := goodIn_r _ [52, 29, 53, 54, 55, 56, 57, 58, 59, 60, 61, 45, 12, 46, 47, 48, 75, 76, 77, 78] (by decide +kernel) (by decide +kernel)
set_option maxRecDepth 20000 in
theorem gX5_reckonDay_X0_flowAt : GoodIn wsX5_reckonDay (wsV RX5 123 RX0 yX0_flowAt wsX0_flowAt) := goodIn_app (goodIn_of _ (by decide +kernel)) ggX5_reckonDay_X0_flowAt
theorem dX5_reckonDay_0 : decode cX5_reckonDay 0 = .ok (.aload_n 0, 1) := by decide +kernel
theorem dX5_reckonDay_1 : decode cX5_reckonDay 1 = .ok (.getfield 26, 3) := by decide +kernel
theorem dX5_reckonDay_4 : decode cX5_reckonDay 4 = .ok (.iload_n 1, 1) := by decide +kernel
theorem dX5_reckonDay_5 : decode cX5_reckonDay 5 = .ok (.baload, 1) := by decide +kernel
theorem dX5_reckonDay_6 : decode cX5_reckonDay 6 = .ok (.ifCond .eq 11, 3) := by decide +kernel
theorem dX5_reckonDay_9 : decode cX5_reckonDay 9 = .ok (.aload_n 0, 1) := by decide +kernel
theorem dX5_reckonDay_10 : decode cX5_reckonDay 10 = .ok (.iload_n 1, 1) := by decide +kernel
theorem dX5_reckonDay_11 : decode cX5_reckonDay 11 = .ok (.invokevirtual 229, 3) := by decide +kernel
theorem dX5_reckonDay_14 : decode cX5_reckonDay 14 = .ok (.goto 4, 3) := by decide +kernel
theorem dX5_reckonDay_17 : decode cX5_reckonDay 17 = .ok (.aconst_null, 1) := by decide +kernel
theorem dX5_reckonDay_18 : decode cX5_reckonDay 18 = .ok (.astore_n 2, 1) := by decide +kernel
theorem dX5_reckonDay_19 : decode cX5_reckonDay 19 = .ok (.aload_n 2, 1) := by decide +kernel
theorem dX5_reckonDay_20 : decode cX5_reckonDay 20 = .ok (.ifnonnull 16, 3) := by decide +kernel
theorem dX5_reckonDay_23 : decode cX5_reckonDay 23 = .ok (.aload_n 0, 1) := by decide +kernel
theorem dX5_reckonDay_24 : decode cX5_reckonDay 24 = .ok (.getfield 42, 3) := by decide +kernel
theorem dX5_reckonDay_27 : decode cX5_reckonDay 27 = .ok (.iload_n 1, 1) := by decide +kernel
theorem dX5_reckonDay_28 : decode cX5_reckonDay 28 = .ok (.ldc2_w 278, 3) := by decide +kernel
theorem dX5_reckonDay_31 : decode cX5_reckonDay 31 = .ok (.iconst 0, 1) := by decide +kernel
theorem dX5_reckonDay_32 : decode cX5_reckonDay 32 = .ok (.invokevirtual 280, 3) := by decide +kernel
theorem dX5_reckonDay_35 : decode cX5_reckonDay 35 = .ok (.return_, 1) := by decide +kernel
theorem dX5_reckonDay_36 : decode cX5_reckonDay 36 = .ok (.aload_n 2, 1) := by decide +kernel
theorem dX5_reckonDay_37 : decode cX5_reckonDay 37 = .ok (.aload_n 0, 1) := by decide +kernel
theorem dX5_reckonDay_38 : decode cX5_reckonDay 38 = .ok (.getfield 22, 3) := by decide +kernel
theorem dX5_reckonDay_41 : decode cX5_reckonDay 41 = .ok (.iload_n 1, 1) := by decide +kernel
theorem dX5_reckonDay_42 : decode cX5_reckonDay 42 = .ok (.iaload, 1) := by decide +kernel
theorem dX5_reckonDay_43 : decode cX5_reckonDay 43 = .ok (.aload_n 0, 1) := by decide +kernel
theorem dX5_reckonDay_44 : decode cX5_reckonDay 44 = .ok (.getfield 18, 3) := by decide +kernel
theorem dX5_reckonDay_47 : decode cX5_reckonDay 47 = .ok (.iload_n 1, 1) := by decide +kernel
theorem dX5_reckonDay_48 : decode cX5_reckonDay 48 = .ok (.invokevirtual 136, 3) := by decide +kernel
theorem dX5_reckonDay_51 : decode cX5_reckonDay 51 = .ok (.isub, 1) := by decide +kernel
theorem dX5_reckonDay_52 : decode cX5_reckonDay 52 = .ok (.invokevirtual 123, 3) := by decide +kernel
theorem dX5_reckonDay_55 : decode cX5_reckonDay 55 = .ok (.lstore_n 3, 1) := by decide +kernel
theorem dX5_reckonDay_56 : decode cX5_reckonDay 56 = .ok (.aload_n 0, 1) := by decide +kernel
theorem dX5_reckonDay_57 : decode cX5_reckonDay 57 = .ok (.getfield 30, 3) := by decide +kernel
theorem dX5_reckonDay_60 : decode cX5_reckonDay 60 = .ok (.iload_n 1, 1) := by decide +kernel
theorem dX5_reckonDay_61 : decode cX5_reckonDay 61 = .ok (.baload, 1) := by decide +kernel
theorem dX5_reckonDay_62 : decode cX5_reckonDay 62 = .ok (.ifCond .eq 26, 3) := by decide +kernel
theorem dX5_reckonDay_65 : decode cX5_reckonDay 65 = .ok (.aload_n 0, 1) := by decide +kernel
theorem dX5_reckonDay_66 : decode cX5_reckonDay 66 = .ok (.getfield 42, 3) := by decide +kernel
theorem dX5_reckonDay_69 : decode cX5_reckonDay 69 = .ok (.iload_n 1, 1) := by decide +kernel
theorem dX5_reckonDay_70 : decode cX5_reckonDay 70 = .ok (.lload_n 3, 1) := by decide +kernel
theorem dX5_reckonDay_71 : decode cX5_reckonDay 71 = .ok (.aload_n 0, 1) := by decide +kernel
theorem dX5_reckonDay_72 : decode cX5_reckonDay 72 = .ok (.getfield 53, 3) := by decide +kernel
theorem dX5_reckonDay_75 : decode cX5_reckonDay 75 = .ok (.i2l, 1) := by decide +kernel
theorem dX5_reckonDay_76 : decode cX5_reckonDay 76 = .ok (.lmul, 1) := by decide +kernel
theorem dX5_reckonDay_77 : decode cX5_reckonDay 77 = .ok (.ldc2_w 284, 3) := by decide +kernel
theorem dX5_reckonDay_80 : decode cX5_reckonDay 80 = .ok (.ldiv, 1) := by decide +kernel
theorem dX5_reckonDay_81 : decode cX5_reckonDay 81 = .ok (.iconst 2, 1) := by decide +kernel
theorem dX5_reckonDay_82 : decode cX5_reckonDay 82 = .ok (.invokevirtual 280, 3) := by decide +kernel
theorem dX5_reckonDay_85 : decode cX5_reckonDay 85 = .ok (.goto 13, 3) := by decide +kernel
theorem dX5_reckonDay_88 : decode cX5_reckonDay 88 = .ok (.aload_n 0, 1) := by decide +kernel
theorem dX5_reckonDay_89 : decode cX5_reckonDay 89 = .ok (.getfield 42, 3) := by decide +kernel
theorem dX5_reckonDay_92 : decode cX5_reckonDay 92 = .ok (.iload_n 1, 1) := by decide +kernel
theorem dX5_reckonDay_93 : decode cX5_reckonDay 93 = .ok (.lload_n 3, 1) := by decide +kernel
theorem dX5_reckonDay_94 : decode cX5_reckonDay 94 = .ok (.iconst 1, 1) := by decide +kernel
theorem dX5_reckonDay_95 : decode cX5_reckonDay 95 = .ok (.invokevirtual 280, 3) := by decide +kernel
theorem dX5_reckonDay_98 : decode cX5_reckonDay 98 = .ok (.return_, 1) := by decide +kernel
