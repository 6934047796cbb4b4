set_option maxRecDepth 20000 in
theorem gL_addCurve_X5_addCurve : GoodIn wsL_addCurve (wsV RL 7 RX5 yX5_addCurve wsX5_addCurve) := goodIn_app (goodIn_of _ (by decide +kernel)) ggL_addCurve_X5_addCurve
theorem dL_addCurve_0 : decode cL_addCurve 0 = .ok (.aload_n 2, 1) := by decide +kernel
theorem dL_addCurve_1 : decode cL_addCurve 1 = .ok (.iconst 0, 1) := by decide +kernel
theorem dL_addCurve_2 : decode cL_addCurve 2 = .ok (.aload_n 0, 1) := by decide +kernel
theorem dL_addCurve_3 : decode cL_addCurve 3 = .ok (.iload_n 1, 1) := by decide +kernel
theorem dL_addCurve_4 : decode cL_addCurve 4 = .ok (.invokevirtual 7, 3) := by decide +kernel
theorem dL_addCurve_7 : decode cL_addCurve 7 = .ok (.i2l, 1) := by decide +kernel
theorem dL_addCurve_8 : decode cL_addCurve 8 = .ok (.lastore, 1) := by decide +kernel
theorem dL_addCurve_9 : decode cL_addCurve 9 = .ok (.goto 9, 3) := by decide +kernel
theorem dL_addCurve_12 : decode cL_addCurve 12 = .ok (.astore_n 3, 1) := by decide +kernel
theorem dL_addCurve_13 : decode cL_addCurve 13 = .ok (.iconst 1, 1) := by decide +kernel
theorem dL_addCurve_14 : decode cL_addCurve 14 = .ok (.ireturn, 1) := by decide +kernel
theorem dL_addCurve_15 : decode cL_addCurve 15 = .ok (.astore_n 3, 1) := by decide +kernel
theorem dL_addCurve_16 : decode cL_addCurve 16 = .ok (.iconst 2, 1) := by decide +kernel
theorem dL_addCurve_17 : decode cL_addCurve 17 = .ok (.ireturn, 1) := by decide +kernel
theorem dL_addCurve_18 : decode cL_addCurve 18 = .ok (.iconst 0, 1) := by decide +kernel
theorem dL_addCurve_19 : decode cL_addCurve 19 = .ok (.ireturn, 1) := by decide +kernel
set_option maxRecDepth 20000 in
theorem ggL_addPoint_X5_addPoint : GoodIn wsL_addPoint wsX5_addPoint := goodIn_ca (goodIn_ca (goodIn_ca (goodIn_r _ [8, 9, 10, 11, 12, 13, 14, 15, 16, 7, 17, 18, 19, 20, 21, 22, 23, 24, 25, 26, 27, 28, 29, 30, 31, 32, 33, 34, 35, 36, 37, 38, 39, 40, 41, 42, 43, 44, 45, 46, 47, 48, 49, 50, 51, 52, 53, 54, 55, 56, 57, 58, 59, 60, 61, 62, 63, 64, 65, 66, 67] (by decide +kernel) (by decide +kernel)) (goodIn_sub (fun _ h => List.mem_cons_of_mem _ (List.mem_append_left _ (List.mem_append_left _ (List.mem_append_right _ h)))) (by decide +kernel))) (goodIn_sub (fun _ h => List.mem_cons_of_mem _ (List.mem_append_left _ (List.mem_append_right _ h))) (by decide +kernel))) (goodIn_sub (fun _ h => List.mem_cons_of_mem _ (List.mem_append_right _ h)) (by decide +kernel))
set_option maxRecDepth 20000 in
theorem gL_addPoint_X5_addPoint : GoodIn wsL_addPoint (wsV RL 17 RX5 yX5_addPoint wsX5_addPoint) := goodIn_app (goodIn_of _ (by decide +kernel)) ggL_addPoint_X5_addPoint
theorem dL_addPoint_0 : decode cL_addPoint 0 = .ok (.aload 4, 2) := by decide +kernel
theorem dL_addPoint_2 : decode cL_addPoint 2 = .ok (.iconst 0, 1) := by decide +kernel
theorem dL_addPoint_3 : decode cL_addPoint 3 = .ok (.aload_n 0, 1) := by decide +kernel
theorem dL_addPoint_4 : decode cL_addPoint 4 = .ok (.iload_n 1, 1) := by decide +kernel
theorem dL_addPoint_5 : decode cL_addPoint 5 = .ok (.iload_n 2, 1) := by decide +kernel
theorem dL_addPoint_6 : decode cL_addPoint 6 = .ok (.iload_n 3, 1) := by decide +kernel
theorem dL_addPoint_7 : decode cL_addPoint 7 = .ok (.invokevirtual 17, 3) := by decide +kernel
theorem dL_addPoint_10 : decode cL_addPoint 10 = .ok (.i2l, 1) := by decide +kernel
theorem dL_addPoint_11 : decode cL_addPoint 11 = .ok (.lastore, 1) := by decide +kernel
theorem dL_addPoint_12 : decode cL_addPoint 12 = .ok (.goto 15, 3) := by decide +kernel
theorem dL_addPoint_15 : decode cL_addPoint 15 = .ok (.astore 5, 2) := by decide +kernel
theorem dL_addPoint_17 : decode cL_addPoint 17 = .ok (.iconst 1, 1) := by decide +kernel
theorem dL_addPoint_18 : decode cL_addPoint 18 = .ok (.ireturn, 1) := by decide +kernel
theorem dL_addPoint_19 : decode cL_addPoint 19 = .ok (.astore 5, 2) := by decide +kernel
theorem dL_addPoint_21 : decode cL_addPoint 21 = .ok (.iconst 2, 1) := by decide +kernel
theorem dL_addPoint_22 : decode cL_addPoint 22 = .ok (.ireturn, 1) := by decide +kernel
theorem dL_addPoint_23 : decode cL_addPoint 23 = .ok (.astore 5, 2) := by decide +kernel
theorem dL_addPoint_25 : decode cL_addPoint 25 = .ok (.iconst 3, 1) := by decide +kernel
theorem dL_addPoint_26 : decode cL_addPoint 26 = .ok (.ireturn, 1) := by decide +kernel
theorem dL_addPoint_27 : decode cL_addPoint 27 = .ok (.iconst 0, 1) := by decide +kernel
theorem dL_addPoint_28 : decode cL_addPoint 28 = .ok (.ireturn, 1) := by decide +kernel
set_option maxRecDepth 20000 in
theorem ggL_flowBy_X5_flowBy : GoodIn wsL_flowBy wsX5_flowBy := goodIn_ca (goodIn_ca (goodIn_ca (goodIn_r _ [8, 9, 10, 11, 12, 13, 14, 15, 16, 17, 7, 18, 19, 20, 21, 22, 23, 24, 25, 26, 27, 28, 29, 30, 31, 32, 33, 34, 35, 36, 37, 38, 39, 40, 41, 42, 43, 44, 45, 46, 47, 48, 49, 50, 51, 52, 53, 54, 55, 56, 57, 58, 59, 60] (by decide +kernel) (by decide +kernel)) (goodIn_sub (fun _ h => List.mem_cons_of_mem _ (List.mem_append_left _ (List.mem_append_left _ (List.mem_append_right _ h)))) (by decide +kernel))) (goodIn_sub (fun _ h => List.mem_cons_of_mem _ (List.mem_append_left _ (List.mem_append_right _ h))) (by decide +kernel))) (goodIn_sub (fun _ h => List.mem_cons_of_mem _ (List.mem_append_right _ h)) (by decide +kernel))
set_option maxRecDepth 20000 in
theorem gL_flowBy_X5_flowBy : GoodIn wsL_flowBy (wsV RL 23 RX5 yX5_flowBy wsX5_flowBy) := goodIn_app (goodIn_of _ (by decide +kernel)) ggL_flowBy_X5_flowBy
theorem dL_flowBy_0 : decode cL_flowBy 0 = .ok (.aload_n 3, 1) := by decide +kernel
theorem dL_flowBy_1 : decode cL_flowBy 1 = .ok (.iconst 0, 1) := by decide +kernel
theorem dL_flowBy_2 : decode cL_flowBy 2 = .ok (.aload_n 0, 1) := by decide +kernel
theorem dL_flowBy_3 : decode cL_flowBy 3 = .ok (.iload_n 1, 1) := by decide +kernel
theorem dL_flowBy_4 : decode cL_flowBy 4 = .ok (.iload_n 2, 1) := by decide +kernel
theorem dL_flowBy_5 : decode cL_flowBy 5 = .ok (.invokevirtual 23, 3) := by decide +kernel
theorem dL_flowBy_8 : decode cL_flowBy 8 = .ok (.lastore, 1) := by decide +kernel
theorem dL_flowBy_9 : decode cL_flowBy 9 = .ok (.goto 15, 3) := by decide +kernel
theorem dL_flowBy_12 : decode cL_flowBy 12 = .ok (.astore 4, 2) := by decide +kernel
theorem dL_flowBy_14 : decode cL_flowBy 14 = .ok (.iconst 1, 1) := by decide +kernel
theorem dL_flowBy_15 : decode cL_flowBy 15 = .ok (.ireturn, 1) := by decide +kernel
theorem dL_flowBy_16 : decode cL_flowBy 16 = .ok (.astore 4, 2) := by decide +kernel
theorem dL_flowBy_18 : decode cL_flowBy 18 = .ok (.iconst 2, 1) := by decide +kernel
theorem dL_flowBy_19 : decode cL_flowBy 19 = .ok (.ireturn, 1) := by decide +kernel
theorem dL_flowBy_20 : decode cL_flowBy 20 = .ok (.astore 4, 2) := by decide +kernel
theorem dL_flowBy_22 : decode cL_flowBy 22 = .ok (.iconst 3, 1) := by decide +kernel
theorem dL_flowBy_23 : decode cL_flowBy 23 = .ok (.ireturn, 1) := by decide +kernel
theorem dL_flowBy_24 : decode cL_flowBy 24 = .ok (.iconst 0, 1) := by decide +kernel
theorem dL_flowBy_25 : decode cL_flowBy 25 = .ok (.ireturn, 1) := by decide +kernel
set_option maxRecDepth 20000 in
theorem ggL_stageBy_X5_stageBy : GoodIn wsL_stageBy wsX5_stageBy := goodIn_ca (goodIn_ca (goodIn_ca (goodIn_r _ [8, 9, 10, 11, 12, 13, 14, 15, 7, 16, 17, 18, 19, 20, 21, 22, 23, 24, 25, 26, 27, 28, 29, 30, 31, 32, 33, 34, 35, 36, 37, 38, 39, 40, 41, 42, 43, 44, 45, 46, 47, 48, 49, 50, 51, 52, 53, 54, 55, 56, 57, 58] (by decide +kernel) (by decide +kernel)) (goodIn_sub (fun _ h => List.mem_cons_of_mem _ (List.mem_append_left _ (List.mem_append_left _ (List.mem_append_right _ h)))) (by decide +kernel))) (goodIn_sub (fun _ h => List.mem_cons_of_mem _ (List.mem_append_left _ (List.mem_append_right _ h))) (by decide +kernel))) (goodIn_sub (fun _ h => List.mem_cons_of_mem _ (List.mem_append_right _ h)) (by decide +kernel))
set_option maxRecDepth 20000 in
theorem gL_stageBy_X5_stageBy : GoodIn wsL_stageBy (wsV RL 27 RX5 yX5_stageBy wsX5_stageBy) := goodIn_app (goodIn_of _ (by decide +kernel)) ggL_stageBy_X5_stageBy
theorem dL_stageBy_0 : decode cL_stageBy 0 = .ok (.aload_n 3, 1) := by decide +kernel
theorem dL_stageBy_1 : decode cL_stageBy 1 = .ok (.iconst 0, 1) := by decide +kernel
theorem dL_stageBy_2 : decode cL_stageBy 2 = .ok (.aload_n 0, 1) := by decide +kernel
theorem dL_stageBy_3 : decode cL_stageBy 3 = .ok (.iload_n 1, 1) := by decide +kernel
theorem dL_stageBy_4 : decode cL_stageBy 4 = .ok (.iload_n 2, 1) := by decide +kernel
theorem dL_stageBy_5 : decode cL_stageBy 5 = .ok (.invokevirtual 27, 3) := by decide +kernel
theorem dL_stageBy_8 : decode cL_stageBy 8 = .ok (.i2l, 1) := by decide +kernel
theorem dL_stageBy_9 : decode cL_stageBy 9 = .ok (.lastore, 1) := by decide +kernel
theorem dL_stageBy_10 : decode cL_stageBy 10 = .ok (.goto 15, 3) := by decide +kernel
theorem dL_stageBy_13 : decode cL_stageBy 13 = .ok (.astore 4, 2) := by decide +kernel
theorem dL_stageBy_15 : decode cL_stageBy 15 = .ok (.iconst 1, 1) := by decide +kernel
theorem dL_stageBy_16 : decode cL_stageBy 16 = .ok (.ireturn, 1) := by decide +kernel
theorem dL_stageBy_17 : decode cL_stageBy 17 = .ok (.astore 4, 2) := by decide +kernel
theorem dL_stageBy_19 : decode cL_stageBy 19 = .ok (.iconst 2, 1) := by decide +kernel
theorem dL_stageBy_20 : decode cL_stageBy 20 = .ok (.ireturn, 1) := by decide +kernel
theorem dL_stageBy_21 : decode cL_stageBy 21 = .ok (.astore 4, 2) := by decide +kernel
theorem dL_stageBy_23 : decode cL_stageBy 23 = .ok (.iconst 3, 1) := by decide +kernel
theorem dL_stageBy_24 : decode cL_stageBy 24 = .ok (.ireturn, 1) := by decide +kernel
theorem dL_stageBy_25 : decode cL_stageBy 25 = .ok (.iconst 0, 1) := by decide +kernel
theorem dL_stageBy_26 : decode cL_stageBy 26 = .ok (.ireturn, 1) := by decide +kernel
set_option maxRecDepth 20000 in
theorem ggL_curveOf_X5_curveOf : GoodIn wsL_curveOf wsX5_curveOf := goodIn_ca (goodIn_r _ [6, 7, 8, 5, 9, 10, 11, 12, 13, 14, 15, 16, 17, 18, 19, 20, 21, 22, 23, 24, 25, 26, 27, 28, 29, 30, 31, 32, 33, 34, 35, 36, 37, 38] (by decide +kernel) (by decide +kernel)) (goodIn_sub (fun _ h => List.mem_cons_of_mem _ (List.mem_append_right _ h)) (by decide +kernel))
set_option maxRecDepth 20000 in
theorem gL_curveOf_X5_curveOf : GoodIn wsL_curveOf (wsV RL 31 RX5 yX5_curveOf wsX5_curveOf) := goodIn_app (goodIn_of _ (by decide +kernel)) ggL_curveOf_X5_curveOf
theorem dL_curveOf_0 : decode cL_curveOf 0 = .ok (.aload_n 2, 1) := by decide +kernel
theorem dL_curveOf_1 : decode cL_curveOf 1 = .ok (.iconst 0, 1) := by decide +kernel
theorem dL_curveOf_2 : decode cL_curveOf 2 = .ok (.aload_n 0, 1) := by decide +kernel
theorem dL_curveOf_3 : decode cL_curveOf 3 = .ok (.iload_n 1, 1) := by decide +kernel
theorem dL_curveOf_4 : decode cL_curveOf 4 = .ok (.invokevirtual 31, 3) := by decide +kernel
theorem dL_curveOf_7 : decode cL_curveOf 7 = .ok (.i2l, 1) := by decide +kernel
theorem dL_curveOf_8 : decode cL_curveOf 8 = .ok (.lastore, 1) := by decide +kernel
theorem dL_curveOf_9 : decode cL_curveOf 9 = .ok (.goto 6, 3) := by decide +kernel
theorem dL_curveOf_12 : decode cL_curveOf 12 = .ok (.astore_n 3, 1) := by decide +kernel
theorem dL_curveOf_13 : decode cL_curveOf 13 = .ok (.iconst 1, 1) := by decide +kernel
theorem dL_curveOf_14 : decode cL_curveOf 14 = .ok (.ireturn, 1) := by decide +kernel
theorem dL_curveOf_15 : decode cL_curveOf 15 = .ok (.iconst 0, 1) := by decide +kernel
theorem dL_curveOf_16 : decode cL_curveOf 16 = .ok (.ireturn, 1) := by decide +kernel
set_option maxRecDepth 20000 in
theorem ggL_setShift_X5_setShift : GoodIn wsL_setShift wsX5_setShift := goodIn_ca (goodIn_ca (goodIn_r _ [7, 8, 9, 10, 11, 12, 13, 14, 15, 6, 16, 17, 18, 19, 20, 21, 22, 23, 24, 25, 26, 27, 28, 29, 30, 31, 32, 33, 34, 35, 36, 37, 38, 39, 40, 41, 42, 43, 44, 45, 46, 47, 48, 49, 50] (by decide +kernel) (by decide +kernel)) (goodIn_sub (fun _ h => List.mem_cons_of_mem _ (List.mem_append_left _ (List.mem_append_right _ h))) (by decide +kernel))) (goodIn_sub (fun _ h => List.mem_cons_of_mem _ (List.mem_append_right _ h)) (by decide +kernel))
set_option maxRecDepth 20000 in
theorem gL_setShift_X5_setShift : GoodIn wsL_setShift (wsV RL 34 RX5 yX5_setShift wsX5_setShift) := goodIn_app (goodIn_of _ (by decide +kernel)) ggL_setShift_X5_setShift
theorem dL_setShift_0 : decode cL_setShift 0 = .ok (.aload_n 3, 1) := by decide +kernel
theorem dL_setShift_1 : decode cL_setShift 1 = .ok (.iconst 0, 1) := by decide +kernel
theorem dL_setShift_2 : decode cL_setShift 2 = .ok (.aload_n 0, 1) := by decide +kernel
theorem dL_setShift_3 : decode cL_setShift 3 = .ok (.iload_n 1, 1) := by decide +kernel
theorem dL_setShift_4 : decode cL_setShift 4 = .ok (.iload_n 2, 1) := by decide +kernel
theorem dL_setShift_5 : decode cL_setShift 5 = .ok (.invokevirtual 34, 3) := by decide +kernel
theorem dL_setShift_8 : decode cL_setShift 8 = .ok (.i2l, 1) := by decide +kernel
theorem dL_setShift_9 : decode cL_setShift 9 = .ok (.lastore, 1) := by decide +kernel
theorem dL_setShift_10 : decode cL_setShift 10 = .ok (.goto 11, 3) := by decide +kernel
theorem dL_setShift_13 : decode cL_setShift 13 = .ok (.astore 4, 2) := by decide +kernel
theorem dL_setShift_15 : decode cL_setShift 15 = .ok (.iconst 1, 1) := by decide +kernel
theorem dL_setShift_16 : decode cL_setShift 16 = .ok (.ireturn, 1) := by decide +kernel
theorem dL_setShift_17 : decode cL_setShift 17 = .ok (.astore 4, 2) := by decide +kernel
theorem dL_setShift_19 : decode cL_setShift 19 = .ok (.iconst 2, 1) := by decide +kernel
theorem dL_setShift_20 : decode cL_setShift 20 = .ok (.ireturn, 1) := by decide +kernel
theorem dL_setShift_21 : decode cL_setShift 21 = .ok (.iconst 0, 1) := by decide +kernel
theorem dL_setShift_22 : decode cL_setShift 22 = .ok (.ireturn, 1) := by decide +kernel
set_option maxRecDepth 20000 in
theorem ggL_shift_X5_shift : GoodIn wsL_shift wsX5_shift := goodIn_ca (goodIn_r _ [6, 7, 8, 9, 5, 10, 11, 12, 13, 14, 15, 16, 17, 18, 19, 20, 21, 22, 23, 24, 25, 26, 27, 28, 29, 30, 31, 32, 33, 34, 35, 36, 37, 38, 39, 40] (by decide +kernel) (by decide +kernel)) (goodIn_sub (fun _ h => List.mem_cons_of_mem _ (List.mem_append_right _ h)) (by decide +kernel))
set_option maxRecDepth 20000 in
theorem gL_shift_X5_shift : GoodIn wsL_shift (wsV RL 37 RX5 yX5_shift wsX5_shift) := goodIn_app (goodIn_of _ (by decide +kernel)) ggL_shift_X5_shift
theorem dL_shift_0 : decode cL_shift 0 = .ok (.aload_n 2, 1) := by decide +kernel
theorem dL_shift_1 : decode cL_shift 1 = .ok (.iconst 0, 1) := by decide +kernel
theorem dL_shift_2 : decode cL_shift 2 = .ok (.aload_n 0, 1) := by decide +kernel
theorem dL_shift_3 : decode cL_shift 3 = .ok (.iload_n 1, 1) := by decide +kernel
theorem dL_shift_4 : decode cL_shift 4 = .ok (.invokevirtual 37, 3) := by decide +kernel
theorem dL_shift_7 : decode cL_shift 7 = .ok (.i2l, 1) := by decide +kernel
theorem dL_shift_8 : decode cL_shift 8 = .ok (.lastore, 1) := by decide +kernel
theorem dL_shift_9 : decode cL_shift 9 = .ok (.goto 6, 3) := by decide +kernel
theorem dL_shift_12 : decode cL_shift 12 = .ok (.astore_n 3, 1) := by decide +kernel
theorem dL_shift_13 : decode cL_shift 13 = .ok (.iconst 1, 1) := by decide +kernel
theorem dL_shift_14 : decode cL_shift 14 = .ok (.ireturn, 1) := by decide +kernel
theorem dL_shift_15 : decode cL_shift 15 = .ok (.iconst 0, 1) := by decide +kernel
theorem dL_shift_16 : decode cL_shift 16 = .ok (.ireturn, 1) := by decide +kernel
set_option maxRecDepth 20000 in
theorem ggL_read_X5_read : GoodIn wsL_read wsX5_read := goodIn_ca (goodIn_r _ [6, 7, 8, 9, 10, 11, 5, 12, 13, 14, 15, 16, 17, 18, 19, 20, 21, 22, 23, 24, 25, 26, 27, 28, 29, 30, 31, 32, 33, 34, 35, 36, 37, 38] (by decide +kernel) (by decide +kernel)) (goodIn_sub (fun _ h => List.mem_cons_of_mem _ (List.mem_append_right _ h)) (by decide +kernel))
set_option maxRecDepth 20000 in
theorem gL_read_X5_read : GoodIn wsL_read (wsV RL 40 RX5 yX5_read wsX5_read) := goodIn_app (goodIn_of _ (by decide +kernel)) ggL_read_X5_read
theorem dL_read_0 : decode cL_read 0 = .ok (.aload 5, 2) := by decide +kernel
theorem dL_read_2 : decode cL_read 2 = .ok (.iconst 0, 1) := by decide +kernel
theorem dL_read_3 : decode cL_read 3 = .ok (.aload_n 0, 1) := by decide +kernel
theorem dL_read_4 : decode cL_read 4 = .ok (.iload_n 1, 1) := by decide +kernel
theorem dL_read_5 : decode cL_read 5 = .ok (.iload_n 2, 1) := by decide +kernel
theorem dL_read_6 : decode cL_read 6 = .ok (.iload_n 3, 1) := by decide +kernel
theorem dL_read_7 : decode cL_read 7 = .ok (.iload 4, 2) := by decide +kernel
theorem dL_read_9 : decode cL_read 9 = .ok (.invokevirtual 40, 3) := by decide +kernel
theorem dL_read_12 : decode cL_read 12 = .ok (.i2l, 1) := by decide +kernel
theorem dL_read_13 : decode cL_read 13 = .ok (.lastore, 1) := by decide +kernel
theorem dL_read_14 : decode cL_read 14 = .ok (.goto 7, 3) := by decide +kernel
theorem dL_read_17 : decode cL_read 17 = .ok (.astore 6, 2) := by decide +kernel
theorem dL_read_19 : decode cL_read 19 = .ok (.iconst 1, 1) := by decide +kernel
theorem dL_read_20 : decode cL_read 20 = .ok (.ireturn, 1) := by decide +kernel
theorem dL_read_21 : decode cL_read 21 = .ok (.iconst 0, 1) := by decide +kernel
theorem dL_read_22 : decode cL_read 22 = .ok (.ireturn, 1) := by decide +kernel
set_option maxRecDepth 20000 in
theorem ggL_erase_X5_erase : GoodIn wsL_erase wsX5_erase := goodIn_ca (goodIn_r _ [6, 7, 8, 9, 10, 5, 11, 12, 13, 14, 15, 16, 17, 18, 19, 20, 21, 22, 23, 24, 25, 26, 27, 28, 29, 30, 31, 32] (by decide +kernel) (by decide +kernel)) (goodIn_sub (fun _ h => List.mem_cons_of_mem _ (List.mem_append_right _ h)) (by decide +kernel))
set_option maxRecDepth 20000 in
theorem gL_erase_X5_erase : GoodIn wsL_erase (wsV RL 44 RX5 yX5_erase wsX5_erase) := goodIn_app (goodIn_of _ (by decide +kernel)) ggL_erase_X5_erase
theorem dL_erase_0 : decode cL_erase 0 = .ok (.aload_n 3, 1) := by decide +kernel
theorem dL_erase_1 : decode cL_erase 1 = .ok (.iconst 0, 1) := by decide +kernel
theorem dL_erase_2 : decode cL_erase 2 = .ok (.aload_n 0, 1) := by decide +kernel
theorem dL_erase_3 : decode cL_erase 3 = .ok (.iload_n 1, 1) := by decide +kernel
theorem dL_erase_4 : decode cL_erase 4 = .ok (.iload_n 2, 1) := by decide +kernel
theorem dL_erase_5 : decode cL_erase 5 = .ok (.invokevirtual 44, 3) := by decide +kernel
theorem dL_erase_8 : decode cL_erase 8 = .ok (.i2l, 1) := by decide +kernel
theorem dL_erase_9 : decode cL_erase 9 = .ok (.lastore, 1) := by decide +kernel
theorem dL_erase_10 : decode cL_erase 10 = .ok (.goto 7, 3) := by decide +kernel
theorem dL_erase_13 : decode cL_erase 13 = .ok (.astore 4, 2) := by decide +kernel
theorem dL_erase_15 : decode cL_erase 15 = .ok (.iconst 1, 1) := by decide +kernel
theorem dL_erase_16 : decode cL_erase 16 = .ok (.ireturn, 1) := by decide +kernel
theorem dL_erase_17 : decode cL_erase 17 = .ok (.iconst 0, 1) := by decide +kernel
theorem dL_erase_18 : decode cL_erase 18 = .ok (.ireturn, 1) := by decide +kernel
set_option maxRecDepth 20000 in
theorem ggL_freeze_X5_freeze : GoodIn wsL_freeze wsX5_freeze := goodIn_ca (goodIn_r _ [6, 7, 8, 9, 10, 5, 11, 12, 13, 14, 15, 16, 17, 18, 19, 20, 21, 22, 23, 24, 25, 26, 27, 28, 29, 30, 31, 32] (by decide +kernel) (by decide +kernel)) (goodIn_sub (fun _ h => List.mem_cons_of_mem _ (List.mem_append_right _ h)) (by decide +kernel))
set_option maxRecDepth 20000 in
theorem gL_freeze_X5_freeze : GoodIn wsL_freeze (wsV RL 47 RX5 yX5_freeze wsX5_freeze) := goodIn_app (goodIn_of _ (by decide +kernel)) ggL_freeze_X5_freeze
theorem dL_freeze_0 : decode cL_freeze 0 = .ok (.aload 4, 2) := by decide +kernel
theorem dL_freeze_2 : decode cL_freeze 2 = .ok (.iconst 0, 1) := by decide +kernel
theorem dL_freeze_3 : decode cL_freeze 3 = .ok (.aload_n 0, 1) := by decide +kernel
theorem dL_freeze_4 : decode cL_freeze 4 = .ok (.iload_n 1, 1) := by decide +kernel
theorem dL_freeze_5 : decode cL_freeze 5 = .ok (.iload_n 2, 1) := by decide +kernel
theorem dL_freeze_6 : decode cL_freeze 6 = .ok (.iload_n 3, 1) := by decide +kernel
theorem dL_freeze_7 : decode cL_freeze 7 = .ok (.invokevirtual 47, 3) := by decide +kernel
theorem dL_freeze_10 : decode cL_freeze 10 = .ok (.i2l, 1) := by decide +kernel
theorem dL_freeze_11 : decode cL_freeze 11 = .ok (.lastore, 1) := by decide +kernel
theorem dL_freeze_12 : decode cL_freeze 12 = .ok (.goto 7, 3) := by decide +kernel
theorem dL_freeze_15 : decode cL_freeze 15 = .ok (.astore 5, 2) := by decide +kernel
theorem dL_freeze_17 : decode cL_freeze 17 = .ok (.iconst 1, 1) := by decide +kernel
theorem dL_freeze_18 : decode cL_freeze 18 = .ok (.ireturn, 1) := by decide +kernel
theorem dL_freeze_19 : decode cL_freeze 19 = .ok (.iconst 0, 1) := by decide +kernel
theorem dL_freeze_20 : decode cL_freeze 20 = .ok (.ireturn, 1) := by decide +kernel
set_option maxRecDepth 20000 in
theorem ggL_setRules_X5_setRules : GoodIn wsL_setRules wsX5_setRules := goodIn_ca (goodIn_r _ [6, 7, 8, 9, 10, 11, 12, 13, 14, 15, 16, 17, 18, 19, 20, 21, 22, 23, 24] (by decide +kernel) (by decide +kernel)) (goodIn_sub (fun _ h => List.mem_cons_of_mem _ (List.mem_append_right _ h)) (by decide +kernel))
set_option maxRecDepth 20000 in
theorem gL_setRules_X5_setRules : GoodIn wsL_setRules (wsV RL 51 RX5 yX5_setRules wsX5_setRules) := goodIn_app (goodIn_of _ (by decide +kernel)) ggL_setRules_X5_setRules
theorem dL_setRules_0 : decode cL_setRules 0 = .ok (.aload_n 3, 1) := by decide +kernel
theorem dL_setRules_1 : decode cL_setRules 1 = .ok (.iconst 0, 1) := by decide +kernel
theorem dL_setRules_2 : decode cL_setRules 2 = .ok (.aload_n 0, 1) := by decide +kernel
theorem dL_setRules_3 : decode cL_setRules 3 = .ok (.iload_n 1, 1) := by decide +kernel
theorem dL_setRules_4 : decode cL_setRules 4 = .ok (.iload_n 2, 1) := by decide +kernel
theorem dL_setRules_5 : decode cL_setRules 5 = .ok (.invokevirtual 51, 3) := by decide +kernel
theorem dL_setRules_8 : decode cL_setRules 8 = .ok (.i2l, 1) := by decide +kernel
theorem dL_setRules_9 : decode cL_setRules 9 = .ok (.lastore, 1) := by decide +kernel
theorem dL_setRules_10 : decode cL_setRules 10 = .ok (.goto 7, 3) := by decide +kernel
theorem dL_setRules_13 : decode cL_setRules 13 = .ok (.astore 4, 2) := by decide +kernel
theorem dL_setRules_15 : decode cL_setRules 15 = .ok (.iconst 1, 1) := by decide +kernel
theorem dL_setRules_16 : decode cL_setRules 16 = .ok (.ireturn, 1) := by decide +kernel
theorem dL_setRules_17 : decode cL_setRules 17 = .ok (.iconst 0, 1) := by decide +kernel
theorem dL_setRules_18 : decode cL_setRules 18 = .ok (.ireturn, 1) := by decide +kernel
set_option maxRecDepth 20000 in
theorem ggL_state_X5_state : GoodIn wsL_state wsX5_state := goodIn_ca (goodIn_r _ [6, 7, 8, 9, 5, 10, 11, 12, 13, 14, 15, 16, 17, 18, 19, 20, 21, 22, 23, 24, 25, 26, 27, 28, 29, 30, 31, 32, 33, 34, 35, 36, 37, 38, 39, 40, 41, 42, 43, 44, 45, 46, 47, 48, 49, 50, 51, 52, 53, 54, 55, 56, 57, 58, 59, 60, 61, 62, 63, 64, 65, 66, 67, 68, 69, 70, 71, 72, 73, 74, 75, 76, 77, 78, 79, 80, 81, 82, 83, 84, 85, 86, 87, 88, 89, 90, 91, 92, 93, 94, 95, 96, 97, 98, 99, 100, 101, 102, 103, 104, 105, 106, 107, 108, 109, 110, 111, 112, 113, 114, 115, 116, 117, 118, 119, 120, 121, 122, 123, 124, 125, 126] (by decide +kernel) (by decide +kernel)) (goodIn_sub (fun _ h => List.mem_cons_of_mem _ (List.mem_append_right _ h)) (by decide +kernel))
set_option maxRecDepth 20000 in
theorem gL_state_X5_state : GoodIn wsL_state (wsV RL 54 RX5 yX5_state wsX5_state) := goodIn_app (goodIn_of _ (by decide +kernel)) ggL_state_X5_state
theorem dL_state_0 : decode cL_state 0 = .ok (.aload_n 2, 1) := by decide +kernel
theorem dL_state_1 : decode cL_state 1 = .ok (.iconst 0, 1) := by decide +kernel
theorem dL_state_2 : decode cL_state 2 = .ok (.aload_n 0, 1) := by decide +kernel
theorem dL_state_3 : decode cL_state 3 = .ok (.iload_n 1, 1) := by decide +kernel
theorem dL_state_4 : decode cL_state 4 = .ok (.invokevirtual 54, 3) := by decide +kernel
theorem dL_state_7 : decode cL_state 7 = .ok (.i2l, 1) := by decide +kernel
theorem dL_state_8 : decode cL_state 8 = .ok (.lastore, 1) := by decide +kernel
theorem dL_state_9 : decode cL_state 9 = .ok (.goto 6, 3) := by decide +kernel
theorem dL_state_12 : decode cL_state 12 = .ok (.astore_n 3, 1) := by decide +kernel
theorem dL_state_13 : decode cL_state 13 = .ok (.iconst 1, 1) := by decide +kernel
theorem dL_state_14 : decode cL_state 14 = .ok (.ireturn, 1) := by decide +kernel
theorem dL_state_15 : decode cL_state 15 = .ok (.iconst 0, 1) := by decide +kernel
theorem dL_state_16 : decode cL_state 16 = .ok (.ireturn, 1) := by decide +kernel
set_option maxRecDepth 20000 in
theorem ggL_flow_X5_flow : GoodIn wsL_flow wsX5_flow := goodIn_ca (goodIn_r _ [6, 7, 8, 9, 5, 10, 11, 12, 13, 14, 15, 16, 17, 18, 19, 20, 21, 22, 23, 24, 25, 26, 27, 28, 29, 30, 31, 32, 33, 34, 35, 36, 37, 38, 39, 40, 41, 42, 43, 44, 45, 46, 47, 48, 49, 50, 51, 52, 53, 54, 55, 56, 57, 58, 59, 60, 61, 62, 63, 64, 65, 66, 67, 68, 69, 70, 71, 72, 73, 74, 75, 76, 77, 78, 79, 80, 81, 82, 83, 84, 85, 86, 87, 88, 89, 90, 91, 92, 93, 94, 95, 96, 97, 98, 99, 100, 101, 102, 103, 104, 105, 106, 107, 108, 109, 110, 111, 112, 113, 114, 115, 116, 117, 118, 119, 120, 121, 122, 123, 124, 125, 126] (by decide +kernel) (by decide +kernel)) (goodIn_sub (fun _ h => List.mem_cons_of_mem _ (List.mem_append_right _ h)) (by decide +kernel))
set_option maxRecDepth 20000 in
theorem gL_flow_X5_flow : GoodIn wsL_flow (wsV RL 57 RX5 yX5_flow wsX5_flow) := goodIn_app (goodIn_of _ (by decide +kernel)) ggL_flow_X5_flow
theorem dL_flow_0 : decode cL_flow 0 = .ok (.aload_n 2, 1) := by decide +kernel
theorem dL_flow_1 : decode cL_flow 1 = .ok (.iconst 0, 1) := by decide +kernel
theorem dL_flow_2 : decode cL_flow 2 = .ok (.aload_n 0, 1) := by decide +kernel
theorem dL_flow_3 : decode cL_flow 3 = .ok (.iload_n 1, 1) := by decide +kernel
theorem dL_flow_4 : decode cL_flow 4 = .ok (.invokevirtual 57, 3) := by decide +kernel
theorem dL_flow_7 : decode cL_flow 7 = .ok (.lastore, 1) := by decide +kernel
theorem dL_flow_8 : decode cL_flow 8 = .ok (.goto 6, 3) := by decide +kernel
theorem dL_flow_11 : decode cL_flow 11 = .ok (.astore_n 3, 1) := by decide +kernel
theorem dL_flow_12 : decode cL_flow 12 = .ok (.iconst 1, 1) := by decide +kernel
theorem dL_flow_13 : decode cL_flow 13 = .ok (.ireturn, 1) := by decide +kernel
theorem dL_flow_14 : decode cL_flow 14 = .ok (.iconst 0, 1) := by decide +kernel
theorem dL_flow_15 : decode cL_flow 15 = .ok (.ireturn, 1) := by decide +kernel
set_option maxRecDepth 20000 in
theorem ggL_sum_X5_sum : GoodIn wsL_sum wsX5_sum := goodIn_ca (goodIn_ca (goodIn_r _ [7, 8, 9, 10, 11, 12, 6, 13, 14, 15, 16, 17, 18, 19, 20, 21, 22, 23, 24, 25, 26, 27, 28, 29, 30, 31, 32, 33, 34, 35, 36, 37, 38, 39, 40, 41, 42, 43, 44, 45, 46, 47, 48, 49, 50, 51, 52, 53, 54, 55, 56, 57, 58, 59, 60, 61, 62, 63, 64, 65, 66, 67, 68, 69, 70, 71, 72, 73, 74, 75, 76, 77, 78, 79, 80, 81, 82, 83, 84, 85, 86, 87, 88, 89, 90, 91, 92, 93, 94, 95, 96, 97, 98, 99, 100, 101, 102, 103, 104, 105, 106, 107, 108, 109, 110, 111, 112, 113, 114, 115, 116, 117, 118, 119, 120, 121, 122, 123, 124, 125, 126, 127, 128, 129, 130, 131, 132, 133, 134, 135, 136, 137, 138, 139, 140, 141, 142, 143, 144, 145] (by decide +kernel) (by decide +kernel)) (goodIn_sub (fun _ h => List.mem_cons_of_mem _ (List.mem_append_left _ (List.mem_append_right _ h))) (by decide +kernel))) (goodIn_sub (fun _ h => List.mem_cons_of_mem _ (List.mem_append_right _ h)) (by decide +kernel))
set_option maxRecDepth 20000 in
theorem gL_sum_X5_sum : GoodIn wsL_sum (wsV RL 61 RX5 yX5_sum wsX5_sum) := goodIn_app (goodIn_of _ (by decide +kernel)) ggL_sum_X5_sum
theorem dL_sum_0 : decode cL_sum 0 = .ok (.aload 4, 2) := by decide +kernel
theorem dL_sum_2 : decode cL_sum 2 = .ok (.iconst 0, 1) := by decide +kernel
theorem dL_sum_3 : decode cL_sum 3 = .ok (.aload_n 0, 1) := by decide +kernel
theorem dL_sum_4 : decode cL_sum 4 = .ok (.iload_n 1, 1) := by decide +kernel
theorem dL_sum_5 : decode cL_sum 5 = .ok (.iload_n 2, 1) := by decide +kernel
theorem dL_sum_6 : decode cL_sum 6 = .ok (.iload_n 3, 1) := by decide +kernel
theorem dL_sum_7 : decode cL_sum 7 = .ok (.invokevirtual 61, 3) := by decide +kernel
theorem dL_sum_10 : decode cL_sum 10 = .ok (.lastore, 1) := by decide +kernel
theorem dL_sum_11 : decode cL_sum 11 = .ok (.goto 11, 3) := by decide +kernel
theorem dL_sum_14 : decode cL_sum 14 = .ok (.astore 5, 2) := by decide +kernel
theorem dL_sum_16 : decode cL_sum 16 = .ok (.iconst 1, 1) := by decide +kernel
theorem dL_sum_17 : decode cL_sum 17 = .ok (.ireturn, 1) := by decide +kernel
theorem dL_sum_18 : decode cL_sum 18 = .ok (.astore 5, 2) := by decide +kernel
theorem dL_sum_20 : decode cL_sum 20 = .ok (.iconst 2, 1) := by decide +kernel
theorem dL_sum_21 : decode cL_sum 21 = .ok (.ireturn, 1) := by decide +kernel
theorem dL_sum_22 : decode cL_sum 22 = .ok (.iconst 0, 1) := by decide +kernel
theorem dL_sum_23 : decode cL_sum 23 = .ok (.ireturn, 1) := by decide +kernel
set_option maxRecDepth 20000 in
theorem ggL_mean_X5_mean : GoodIn wsL_mean wsX5_mean := goodIn_ca (goodIn_r _ [6, 7, 8, 9, 5, 10, 11, 12, 13, 14, 15, 16, 17, 18, 19, 20, 21, 22, 23, 24, 25, 26, 27, 28, 29, 30, 31, 32, 33, 34, 35, 36, 37, 38, 39, 40, 41, 42, 43, 44, 45, 46, 47, 48, 49, 50, 51, 52, 53, 54, 55, 56, 57, 58, 59, 60, 61, 62, 63, 64, 65, 66, 67, 68, 69, 70, 71, 72, 73, 74, 75, 76, 77, 78, 79, 80, 81, 82, 83, 84, 85, 86, 87, 88, 89, 90, 91, 92, 93, 94, 95, 96, 97, 98, 99, 100, 101, 102, 103, 104, 105, 106, 107, 108, 109, 110, 111, 112, 113, 114, 115, 116, 117, 118, 119, 120, 121, 122, 123, 124, 125, 126, 127, 128, 129, 130, 131, 132, 133] (by decide +kernel) (by decide +kernel)) (goodIn_sub (fun _ h => List.mem_cons_of_mem _ (List.mem_append_right _ h)) (by decide +kernel))
set_option maxRecDepth 20000 in
theorem gL_mean_X5_mean : GoodIn wsL_mean (wsV RL 65 RX5 yX5_mean wsX5_mean) := goodIn_app (goodIn_of _ (by decide +kernel)) ggL_mean_X5_mean
theorem dL_mean_0 : decode cL_mean 0 = .ok (.aload_n 3, 1) := by decide +kernel
theorem dL_mean_1 : decode cL_mean 1 = .ok (.iconst 0, 1) := by decide +kernel
theorem dL_mean_2 : decode cL_mean 2 = .ok (.aload_n 0, 1) := by decide +kernel
theorem dL_mean_3 : decode cL_mean 3 = .ok (.iload_n 1, 1) := by decide +kernel
theorem dL_mean_4 : decode cL_mean 4 = .ok (.iload_n 2, 1) := by decide +kernel
theorem dL_mean_5 : decode cL_mean 5 = .ok (.invokevirtual 65, 3) := by decide +kernel
theorem dL_mean_8 : decode cL_mean 8 = .ok (.dastore, 1) := by decide +kernel
theorem dL_mean_9 : decode cL_mean 9 = .ok (.goto 7, 3) := by decide +kernel
theorem dL_mean_12 : decode cL_mean 12 = .ok (.astore 4, 2) := by decide +kernel
theorem dL_mean_14 : decode cL_mean 14 = .ok (.iconst 1, 1) := by decide +kernel
theorem dL_mean_15 : decode cL_mean 15 = .ok (.ireturn, 1) := by decide +kernel
theorem dL_mean_16 : decode cL_mean 16 = .ok (.iconst 0, 1) := by decide +kernel
theorem dL_mean_17 : decode cL_mean 17 = .ok (.ireturn, 1) := by decide +kernel
set_option maxRecDepth 20000 in
theorem ggL_reached_X5_reached : GoodIn wsL_reached wsX5_reached := goodIn_ca (goodIn_r _ [6, 7, 8, 9, 10, 11, 12, 13, 14, 15, 16, 17, 5, 18, 19, 20, 21, 22, 23, 24, 25, 26, 27, 28, 29, 30, 31, 32, 33, 34, 35, 36, 37, 38, 39, 40, 41, 42, 43, 44, 45, 46, 47, 48, 49, 50, 51, 52, 53, 54, 55, 56, 57, 58, 59, 60, 61, 62, 63, 64, 65, 66, 67, 68, 69, 70, 71, 72, 73, 74, 75, 76, 77, 78, 79, 80, 81, 82, 83, 84, 85, 86, 87, 88, 89, 90, 91, 92, 93, 94, 95, 96, 97, 98, 99, 100, 101, 102, 103, 104, 105, 106, 107, 108, 109, 110, 111, 112, 113, 114, 115, 116, 117, 118, 119, 120, 121, 122, 123, 124, 125, 126, 127, 128, 129, 130, 131, 132, 133, 134, 135, 136, 137, 138, 139, 140, 141, 142, 143, 144, 145, 146, 147, 148, 149, 150, 151, 152, 153, 154, 155, 156, 157, 158, 159, 160] (by decide +kernel) (by decide +kernel)) (goodIn_sub (fun _ h => List.mem_cons_of_mem _ (List.mem_append_right _ h)) (by decide +kernel))
set_option maxRecDepth 20000 in
theorem gL_reached_X5_reached : GoodIn wsL_reached (wsV RL 69 RX5 yX5_reached wsX5_reached) := goodIn_app (goodIn_of _ (by decide +kernel)) ggL_reached_X5_reached
theorem dL_reached_0 : decode cL_reached 0 = .ok (.aload_n 2, 1) := by decide +kernel
theorem dL_reached_1 : decode cL_reached 1 = .ok (.iconst 0, 1) := by decide +kernel
theorem dL_reached_2 : decode cL_reached 2 = .ok (.aload_n 0, 1) := by decide +kernel
theorem dL_reached_3 : decode cL_reached 3 = .ok (.iload_n 1, 1) := by decide +kernel
theorem dL_reached_4 : decode cL_reached 4 = .ok (.invokevirtual 69, 3) := by decide +kernel
theorem dL_reached_7 : decode cL_reached 7 = .ok (.lastore, 1) := by decide +kernel
theorem dL_reached_8 : decode cL_reached 8 = .ok (.goto 6, 3) := by decide +kernel
theorem dL_reached_11 : decode cL_reached 11 = .ok (.astore_n 3, 1) := by decide +kernel
theorem dL_reached_12 : decode cL_reached 12 = .ok (.iconst 1, 1) := by decide +kernel
theorem dL_reached_13 : decode cL_reached 13 = .ok (.ireturn, 1) := by decide +kernel
theorem dL_reached_14 : decode cL_reached 14 = .ok (.iconst 0, 1) := by decide +kernel
theorem dL_reached_15 : decode cL_reached 15 = .ok (.ireturn, 1) := by decide +kernel
set_option maxRecDepth 20000 in
theorem ggL_peaks_X5_peaks : GoodIn wsL_peaks wsX5_peaks := goodIn_ca (goodIn_r _ [6, 7, 8, 9, 10, 11, 12, 5, 13, 14, 15, 16, 17, 18, 19, 20, 21, 22, 23, 24, 25, 26, 27, 28, 29, 30, 31, 32, 33, 34, 35, 36, 37, 38, 39, 40, 41, 42, 43, 44, 45, 46, 47, 48, 49, 50, 51, 52, 53, 54, 55, 56, 57, 58, 59, 60, 61, 62, 63, 64, 65, 66, 67, 68, 69, 70, 71, 72, 73, 74, 75, 76, 77, 78, 79, 80, 81, 82, 83, 84, 85, 86, 87, 88, 89, 90, 91, 92, 93, 94, 95, 96, 97, 98, 99, 100, 101, 102, 103, 104, 105, 106, 107, 108, 109, 110, 111, 112, 113, 114, 115, 116, 117, 118, 119, 120, 121, 122, 123, 124, 125, 126, 127, 128, 129, 130, 131, 132, 133, 134, 135, 136, 137, 138, 139, 140, 141, 142, 143, 144, 145, 146, 147, 148, 149, 150, 151, 152, 153, 154, 155, 156, 157, 158, 159, 160, 161, 162, 163, 164, 165, 166, 167, 168, 169, 170, 171] (by decide +kernel) (by decide +kernel)) (goodIn_sub (fun _ h => List.mem_cons_of_mem _ (List.mem_append_right _ h)) (by decide +kernel))
set_option maxRecDepth 20000 in
theorem gL_peaks_X5_peaks : GoodIn wsL_peaks (wsV RL 72 RX5 yX5_peaks wsX5_peaks) := goodIn_app (goodIn_of _ (by decide +kernel)) ggL_peaks_X5_peaks
theorem dL_peaks_0 : decode cL_peaks 0 = .ok (.aload 4, 2) := by decide +kernel
theorem dL_peaks_2 : decode cL_peaks 2 = .ok (.iconst 0, 1) := by decide +kernel
theorem dL_peaks_3 : decode cL_peaks 3 = .ok (.aload_n 0, 1) := by decide +kernel
theorem dL_peaks_4 : decode cL_peaks 4 = .ok (.lload_n 1, 1) := by decide +kernel
theorem dL_peaks_5 : decode cL_peaks 5 = .ok (.iload_n 3, 1) := by decide +kernel
theorem dL_peaks_6 : decode cL_peaks 6 = .ok (.invokevirtual 72, 3) := by decide +kernel
theorem dL_peaks_9 : decode cL_peaks 9 = .ok (.i2l, 1) := by decide +kernel
theorem dL_peaks_10 : decode cL_peaks 10 = .ok (.lastore, 1) := by decide +kernel
theorem dL_peaks_11 : decode cL_peaks 11 = .ok (.goto 7, 3) := by decide +kernel
theorem dL_peaks_14 : decode cL_peaks 14 = .ok (.astore 5, 2) := by decide +kernel
theorem dL_peaks_16 : decode cL_peaks 16 = .ok (.iconst 1, 1) := by decide +kernel
theorem dL_peaks_17 : decode cL_peaks 17 = .ok (.ireturn, 1) := by decide +kernel
theorem dL_peaks_18 : decode cL_peaks 18 = .ok (.iconst 0, 1) := by decide +kernel
theorem dL_peaks_19 : decode cL_peaks 19 = .ok (.ireturn, 1) := by decide +kernel
set_option maxRecDepth 20000 in
theorem ggL_spell_X5_spell : GoodIn wsL_spell wsX5_spell := goodIn_ca (goodIn_r _ [6, 7, 8, 9, 5, 10, 11, 12, 13, 14, 15, 16, 17, 18, 19, 20, 21, 22, 23, 24, 25, 26, 27, 28, 29, 30, 31, 32, 33, 34, 35, 36, 37, 38, 39, 40, 41, 42, 43, 44, 45, 46, 47, 48, 49, 50, 51, 52, 53, 54, 55, 56, 57, 58, 59, 60, 61, 62, 63, 64, 65, 66, 67, 68, 69, 70, 71, 72, 73, 74, 75, 76, 77, 78, 79, 80, 81, 82, 83, 84, 85, 86, 87, 88, 89, 90, 91, 92, 93, 94, 95, 96, 97, 98, 99, 100, 101, 102, 103, 104, 105, 106, 107, 108, 109, 110, 111, 112, 113, 114, 115, 116, 117, 118, 119, 120, 121, 122, 123, 124, 125, 126, 127, 128, 129, 130] (by decide +kernel) (by decide +kernel)) (goodIn_sub (fun _ h => List.mem_cons_of_mem _ (List.mem_append_right _ h)) (by decide +kernel))
set_option maxRecDepth 20000 in
theorem gL_spell_X5_spell : GoodIn wsL_spell (wsV RL 76 RX5 yX5_spell wsX5_spell) := goodIn_app (goodIn_of _ (by decide +kernel)) ggL_spell_X5_spell
theorem dL_spell_0 : decode cL_spell 0 = .ok (.aload_n 3, 1) := by decide +kernel
theorem dL_spell_1 : decode cL_spell 1 = .ok (.iconst 0, 1) := by decide +kernel
theorem dL_spell_2 : decode cL_spell 2 = .ok (.aload_n 0, 1) := by decide +kernel
theorem dL_spell_3 : decode cL_spell 3 = .ok (.lload_n 1, 1) := by decide +kernel
theorem dL_spell_4 : decode cL_spell 4 = .ok (.invokevirtual 76, 3) := by decide +kernel
theorem dL_spell_7 : decode cL_spell 7 = .ok (.i2l, 1) := by decide +kernel
theorem dL_spell_8 : decode cL_spell 8 = .ok (.lastore, 1) := by decide +kernel
theorem dL_spell_9 : decode cL_spell 9 = .ok (.goto 7, 3) := by decide +kernel
theorem dL_spell_12 : decode cL_spell 12 = .ok (.astore 4, 2) := by decide +kernel
theorem dL_spell_14 : decode cL_spell 14 = .ok (.iconst 1, 1) := by decide +kernel
theorem dL_spell_15 : decode cL_spell 15 = .ok (.ireturn, 1) := by decide +kernel
theorem dL_spell_16 : decode cL_spell 16 = .ok (.iconst 0, 1) := by decide +kernel
theorem dL_spell_17 : decode cL_spell 17 = .ok (.ireturn, 1) := by decide +kernel
set_option maxRecDepth 20000 in
theorem ggL_measure_X5_measure : GoodIn wsL_measure wsX5_measure := goodIn_ca (goodIn_ca (goodIn_r _ [7, 8, 9, 10, 11, 12, 13, 14, 15, 16, 6, 17, 18, 19, 20, 21, 22, 23, 24, 25, 26, 27, 28, 29, 30, 31, 32, 33, 34, 35, 36, 37, 38, 39, 40, 41, 42, 43, 44, 45, 46, 47, 48, 49, 50, 51, 52, 53] (by decide +kernel) (by decide +kernel)) (goodIn_sub (fun _ h => List.mem_cons_of_mem _ (List.mem_append_left _ (List.mem_append_right _ h))) (by decide +kernel))) (goodIn_sub (fun _ h => List.mem_cons_of_mem _ (List.mem_append_right _ h)) (by decide +kernel))
set_option maxRecDepth 20000 in
theorem gL_measure_X5_measure : GoodIn wsL_measure (wsV RL 80 RX5 yX5_measure wsX5_measure) := goodIn_app (goodIn_of _ (by decide +kernel)) ggL_measure_X5_measure
theorem dL_measure_0 : decode cL_measure 0 = .ok (.aload 4, 2) := by decide +kernel
theorem dL_measure_2 : decode cL_measure 2 = .ok (.iconst 0, 1) := by decide +kernel
theorem dL_measure_3 : decode cL_measure 3 = .ok (.aload_n 0, 1) := by decide +kernel
theorem dL_measure_4 : decode cL_measure 4 = .ok (.iload_n 1, 1) := by decide +kernel
theorem dL_measure_5 : decode cL_measure 5 = .ok (.iload_n 2, 1) := by decide +kernel
theorem dL_measure_6 : decode cL_measure 6 = .ok (.iload_n 3, 1) := by decide +kernel
theorem dL_measure_7 : decode cL_measure 7 = .ok (.invokevirtual 80, 3) := by decide +kernel
theorem dL_measure_10 : decode cL_measure 10 = .ok (.i2l, 1) := by decide +kernel
theorem dL_measure_11 : decode cL_measure 11 = .ok (.lastore, 1) := by decide +kernel
theorem dL_measure_12 : decode cL_measure 12 = .ok (.goto 11, 3) := by decide +kernel
theorem dL_measure_15 : decode cL_measure 15 = .ok (.astore 5, 2) := by decide +kernel
theorem dL_measure_17 : decode cL_measure 17 = .ok (.iconst 1, 1) := by decide +kernel
theorem dL_measure_18 : decode cL_measure 18 = .ok (.ireturn, 1) := by decide +kernel
theorem dL_measure_19 : decode cL_measure 19 = .ok (.astore 5, 2) := by decide +kernel
theorem dL_measure_21 : decode cL_measure 21 = .ok (.iconst 2, 1) := by decide +kernel
theorem dL_measure_22 : decode cL_measure 22 = .ok (.ireturn, 1) := by decide +kernel
theorem dL_measure_23 : decode cL_measure 23 = .ok (.iconst 0, 1) := by decide +kernel
theorem dL_measure_24 : decode cL_measure 24 = .ok (.ireturn, 1) := by decide +kernel
set_option maxRecDepth 20000 in
theorem ggL_deviation_X5_deviation : GoodIn wsL_deviation wsX5_deviation := goodIn_ca (goodIn_ca (goodIn_r _ [7, 8, 9, 10, 11, 12, 13, 14, 15, 6, 16, 17, 18, 19, 20, 21, 22, 23, 24, 25, 26, 27, 28, 29, 30, 31, 32, 33, 34, 35, 36, 37, 38, 39, 40, 41, 42, 43, 44, 45, 46, 47, 48, 49, 50, 51, 52, 53, 54, 55, 56, 57, 58, 59, 60, 61, 62, 63, 64, 65, 66, 67, 68, 69, 70, 71, 72, 73, 74, 75, 76, 77, 78, 79, 80, 81, 82, 83, 84, 85, 86] (by decide +kernel) (by decide +kernel)) (goodIn_sub (fun _ h => List.mem_cons_of_mem _ (List.mem_append_left _ (List.mem_append_right _ h))) (by decide +kernel))) (goodIn_sub (fun _ h => List.mem_cons_of_mem _ (List.mem_append_right _ h)) (by decide +kernel))
set_option maxRecDepth 20000 in
theorem gL_deviation_X5_deviation : GoodIn wsL_deviation (wsV RL 83 RX5 yX5_deviation wsX5_deviation) := goodIn_app (goodIn_of _ (by decide +kernel)) ggL_deviation_X5_deviation
theorem dL_deviation_0 : decode cL_deviation 0 = .ok (.aload_n 2, 1) := by decide +kernel
theorem dL_deviation_1 : decode cL_deviation 1 = .ok (.iconst 0, 1) := by decide +kernel
theorem dL_deviation_2 : decode cL_deviation 2 = .ok (.aload_n 0, 1) := by decide +kernel
theorem dL_deviation_3 : decode cL_deviation 3 = .ok (.iload_n 1, 1) := by decide +kernel
theorem dL_deviation_4 : decode cL_deviation 4 = .ok (.invokevirtual 83, 3) := by decide +kernel
theorem dL_deviation_7 : decode cL_deviation 7 = .ok (.lastore, 1) := by decide +kernel
theorem dL_deviation_8 : decode cL_deviation 8 = .ok (.goto 9, 3) := by decide +kernel
theorem dL_deviation_11 : decode cL_deviation 11 = .ok (.astore_n 3, 1) := by decide +kernel
theorem dL_deviation_12 : decode cL_deviation 12 = .ok (.iconst 1, 1) := by decide +kernel
theorem dL_deviation_13 : decode cL_deviation 13 = .ok (.ireturn, 1) := by decide +kernel
theorem dL_deviation_14 : decode cL_deviation 14 = .ok (.astore_n 3, 1) := by decide +kernel
theorem dL_deviation_15 : decode cL_deviation 15 = .ok (.iconst 2, 1) := by decide +kernel
theorem dL_deviation_16 : decode cL_deviation 16 = .ok (.ireturn, 1) := by decide +kernel
theorem dL_deviation_17 : decode cL_deviation 17 = .ok (.iconst 0, 1) := by decide +kernel
theorem dL_deviation_18 : decode cL_deviation 18 = .ok (.ireturn, 1) := by decide +kernel
set_option maxRecDepth 20000 in
theorem ggL_wouldShift_X5_wouldShift : GoodIn wsL_wouldShift wsX5_wouldShift := goodIn_ca (goodIn_ca (goodIn_r _ [7, 8, 9, 10, 11, 12, 13, 14, 6, 15, 16, 17, 18, 19, 20, 21, 22, 23, 24, 25, 26, 27, 28, 29, 30, 31, 32, 33, 34, 35, 36, 37, 38, 39, 40, 41, 42, 43, 44, 45, 46, 47, 48, 49, 50, 51, 52, 53, 54, 55, 56, 57, 58, 59, 60, 61, 62, 63, 64, 65, 66, 67, 68] (by decide +kernel) (by decide +kernel)) (goodIn_sub (fun _ h => List.mem_cons_of_mem _ (List.mem_append_left _ (List.mem_append_right _ h))) (by decide +kernel))) (goodIn_sub (fun _ h => List.mem_cons_of_mem _ (List.mem_append_right _ h)) (by decide +kernel))
set_option maxRecDepth 20000 in
theorem gL_wouldShift_X5_wouldShift : GoodIn wsL_wouldShift (wsV RL 86 RX5 yX5_wouldShift wsX5_wouldShift) := goodIn_app (goodIn_of _ (by decide +kernel)) ggL_wouldShift_X5_wouldShift
theorem dL_wouldShift_0 : decode cL_wouldShift 0 = .ok (.aload_n 2, 1) := by decide +kernel
theorem dL_wouldShift_1 : decode cL_wouldShift 1 = .ok (.iconst 0, 1) := by decide +kernel
theorem dL_wouldShift_2 : decode cL_wouldShift 2 = .ok (.aload_n 0, 1) := by decide +kernel
theorem dL_wouldShift_3 : decode cL_wouldShift 3 = .ok (.iload_n 1, 1) := by decide +kernel
theorem dL_wouldShift_4 : decode cL_wouldShift 4 = .ok (.invokevirtual 86, 3) := by decide +kernel
theorem dL_wouldShift_7 : decode cL_wouldShift 7 = .ok (.i2l, 1) := by decide +kernel
theorem dL_wouldShift_8 : decode cL_wouldShift 8 = .ok (.lastore, 1) := by decide +kernel
theorem dL_wouldShift_9 : decode cL_wouldShift 9 = .ok (.goto 9, 3) := by decide +kernel
theorem dL_wouldShift_12 : decode cL_wouldShift 12 = .ok (.astore_n 3, 1) := by decide +kernel
theorem dL_wouldShift_13 : decode cL_wouldShift 13 = .ok (.iconst 1, 1) := by decide +kernel
theorem dL_wouldShift_14 : decode cL_wouldShift 14 = .ok (.ireturn, 1) := by decide +kernel
theorem dL_wouldShift_15 : decode cL_wouldShift 15 = .ok (.astore_n 3, 1) := by decide +kernel
theorem dL_wouldShift_16 : decode cL_wouldShift 16 = .ok (.iconst 2, 1) := by decide +kernel
theorem dL_wouldShift_17 : decode cL_wouldShift 17 = .ok (.ireturn, 1) := by decide +kernel
theorem dL_wouldShift_18 : decode cL_wouldShift 18 = .ok (.iconst 0, 1) := by decide +kernel
theorem dL_wouldShift_19 : decode cL_wouldShift 19 = .ok (.ireturn, 1) := by decide +kernel
set_option maxRecDepth 20000 in
theorem ggL_count_X5_count : GoodIn wsL_count wsX5_count := goodIn_ca (goodIn_r _ [6, 7, 8, 9, 10, 11, 12, 13, 14, 15, 16, 17, 18, 19, 20, 21, 5, 22, 23, 24, 25, 26, 27, 28, 29, 30, 31, 32, 33, 34, 35, 36, 37, 38] (by decide +kernel) (by decide +kernel)) (goodIn_sub (fun _ h => List.mem_cons_of_mem _ (List.mem_append_right _ h)) (by decide +kernel))
set_option maxRecDepth 20000 in
theorem gL_count_X5_count : GoodIn wsL_count (wsV RL 89 RX5 yX5_count wsX5_count) := goodIn_app (goodIn_of _ (by decide +kernel)) ggL_count_X5_count
theorem dL_count_0 : decode cL_count 0 = .ok (.aload_n 2, 1) := by decide +kernel
theorem dL_count_1 : decode cL_count 1 = .ok (.iconst 0, 1) := by decide +kernel
theorem dL_count_2 : decode cL_count 2 = .ok (.aload_n 0, 1) := by decide +kernel
theorem dL_count_3 : decode cL_count 3 = .ok (.iload_n 1, 1) := by decide +kernel
theorem dL_count_4 : decode cL_count 4 = .ok (.invokevirtual 89, 3) := by decide +kernel
theorem dL_count_7 : decode cL_count 7 = .ok (.i2l, 1) := by decide +kernel
theorem dL_count_8 : decode cL_count 8 = .ok (.lastore, 1) := by decide +kernel
theorem dL_count_9 : decode cL_count 9 = .ok (.goto 6, 3) := by decide +kernel
theorem dL_count_12 : decode cL_count 12 = .ok (.astore_n 3, 1) := by decide +kernel
theorem dL_count_13 : decode cL_count 13 = .ok (.iconst 1, 1) := by decide +kernel
theorem dL_count_14 : decode cL_count 14 = .ok (.ireturn, 1) := by decide +kernel
theorem dL_count_15 : decode cL_count 15 = .ok (.iconst 0, 1) := by decide +kernel
theorem dL_count_16 : decode cL_count 16 = .ok (.ireturn, 1) := by decide +kernel
set_option maxRecDepth 20000 in
theorem ggL_law_X5_init : GoodIn wsL_law wsX5_init := goodIn_r _ [11, 12, 13, 14, 15, 16, 17, 18, 19, 20, 21, 22, 23, 24, 25, 26, 27, 28, 29, 30, 31, 32, 33, 34, 35, 36, 37, 38, 39, 40, 41, 42, 43, 44, 45, 46, 47, 6, 48, 49, 50, 51, 52, 53, 54, 55, 56, 652, 653, 654, 655, 656, 657, 658, 659, 660, 661, 662, 663, 664, 684, 685, 686, 687, 688, 689, 690, 691, 692] (by decide +kernel) (by decide +kernel)
set_option maxRecDepth 20000 in
theorem gL_law_X5_init : GoodIn wsL_law (wsX5_init) := ggL_law_X5_init
set_option maxRecDepth 20000 in
theorem ggL_law_X6_init : GoodIn wsL_law wsX6_init := goodIn_r _ [59, 60, 13, 14, 21, 61, 62, 63, 64, 23, 65, 66, 67, 68, 69, 70, 71, 72, 73, 6, 74, 665, 666, 667, 668, 669, 670, 671, 672, 673, 674, 675, 676, 677, 678, 679, 680, 681, 682, 683] (by decide +kernel) (by decide +kernel)
set_option maxRecDepth 20000 in
theorem gL_law_X6_init : GoodIn wsL_law (wsX6_init) := ggL_law_X6_init
set_option maxRecDepth 20000 in
theorem ggL_law_L_addCurve : GoodIn wsL_law wsL_addCurve := goodIn_ca (goodIn_ca (goodIn_r _ [78, 79, 80, 81, 82, 83, 2, 84, 85, 86, 87, 16, 15, 88, 89, 90, 91, 92, 93, 94, 95, 96, 97, 98, 99, 100, 101, 102, 103, 104, 105, 106, 107, 108, 109, 110, 111, 13, 14, 112, 21, 113, 114, 652, 653, 654, 655, 656, 657, 658, 659, 660, 661, 662, 663, 664, 693, 694, 695, 696] (by decide +kernel) (by decide +kernel)) (goodIn_sub (fun _ h => List.mem_append_left _ (List.mem_append_left _ (List.mem_append_right _ h))) (by decide +kernel))) (goodIn_sub (fun _ h => List.mem_append_left _ (List.mem_append_right _ h)) (by decide +kernel))
set_option maxRecDepth 20000 in
theorem gL_law_L_addCurve : GoodIn wsL_law (va_wsS RL 96 yL_addCurve wsL_addCurve) := goodIn_app (goodIn_of _ (by decide +kernel)) ggL_law_L_addCurve
set_option maxRecDepth 20000 in
theorem ggL_law_X6_addCurve : GoodIn wsL_law wsX6_addCurve := goodIn_r _ [118, 119, 120, 61, 62, 121, 122, 123, 5, 124, 125, 126, 127, 128, 129, 130, 131, 132, 665, 666, 667, 668, 669, 670, 671, 672, 673, 674, 675, 676, 677, 678, 679, 680, 681, 682, 683] (by decide +kernel) (by decide +kernel)
set_option maxRecDepth 20000 in
theorem gL_law_X6_addCurve : GoodIn wsL_law (wsV RL 101 RX6 yX6_addCurve wsX6_addCurve) := goodIn_app (goodIn_of _ (by decide +kernel)) ggL_law_X6_addCurve
set_option maxRecDepth 20000 in
theorem ggL_law_X6_thrown : GoodIn wsL_law wsX6_thrown := goodIn_r _ [136, 119, 665, 666, 667, 668, 669, 670, 671, 672, 673, 674, 675, 676, 677, 678, 679, 680, 681, 682, 683] (by decide +kernel) (by decide +kernel)
set_option maxRecDepth 20000 in
theorem gL_law_X6_thrown : GoodIn wsL_law (wsV RL 102 RX6 yX6_thrown wsX6_thrown) := goodIn_app (goodIn_of _ (by decide +kernel)) ggL_law_X6_thrown
set_option maxRecDepth 20000 in
theorem ggL_law_L_addPoint : GoodIn wsL_law wsL_addPoint := goodIn_ca (goodIn_ca (goodIn_ca (goodIn_r _ [139, 140, 79, 80, 141, 142, 143, 2, 144, 145, 146, 85, 86, 90, 104, 105, 106, 107, 87, 16, 147, 148, 149, 94, 95, 150, 151, 152, 153, 154, 155, 156, 157, 158, 89, 159, 113, 160, 114, 161, 162, 163, 164, 165, 166, 167, 168, 169, 170, 171, 172, 652, 653, 654, 655, 656, 657, 658, 659, 660, 661, 662, 663, 664, 693, 694, 695, 696] (by decide +kernel) (by decide +kernel)) (goodIn_sub (fun _ h => List.mem_append_right _ h) (by decide +kernel))) (goodIn_sub (fun _ h => List.mem_append_left _ (List.mem_append_left _ (List.mem_append_right _ h))) (by decide +kernel))) (goodIn_sub (fun _ h => List.mem_append_left _ (List.mem_append_right _ h)) (by decide +kernel))
set_option maxRecDepth 20000 in
theorem gL_law_L_addPoint : GoodIn wsL_law (va_wsS RL 106 yL_addPoint wsL_addPoint) := goodIn_app (goodIn_of _ (by decide +kernel)) ggL_law_L_addPoint
set_option maxRecDepth 20000 in
theorem ggL_law_X6_addPoint : GoodIn wsL_law wsX6_addPoint := goodIn_r _ [176, 119, 177, 178, 179, 62, 63, 64, 121, 180, 181, 182, 5, 183, 120, 126, 127, 128, 129, 130, 131, 132, 665, 666, 667, 668, 669, 670, 671, 672, 673, 674, 675, 676, 677, 678, 679, 680, 681, 682, 683] (by decide +kernel) (by decide +kernel)
set_option maxRecDepth 20000 in
theorem gL_law_X6_addPoint : GoodIn wsL_law (wsV RL 109 RX6 yX6_addPoint wsX6_addPoint) := goodIn_app (goodIn_of _ (by decide +kernel)) ggL_law_X6_addPoint
set_option maxRecDepth 20000 in
theorem ggL_law_L_flowBy : GoodIn wsL_law wsL_flowBy := goodIn_ca (goodIn_ca (goodIn_ca (goodIn_r _ [186, 140, 79, 80, 187, 188, 189, 2, 190, 145, 146, 94, 95, 85, 86, 104, 105, 106, 107, 87, 16, 191, 192, 193, 89, 194, 160, 195, 196, 197, 198, 113, 199, 200, 201, 202, 203, 204, 205, 114, 161, 162, 206, 207, 652, 653, 654, 655, 656, 657, 658, 659, 660, 661, 662, 663, 664, 693, 694, 695, 696] (by decide +kernel) (by decide +kernel)) (goodIn_sub (fun _ h => List.mem_append_right _ h) (by decide +kernel))) (goodIn_sub (fun _ h => List.mem_append_left _ (List.mem_append_right _ h)) (by decide +kernel))) (goodIn_sub (fun _ h => List.mem_append_left _ (List.mem_append_left _ (List.mem_append_right _ h))) (by decide +kernel))
set_option maxRecDepth 20000 in
theorem gL_law_L_flowBy : GoodIn wsL_law (va_wsS RL 110 yL_flowBy wsL_flowBy) := goodIn_app (goodIn_of _ (by decide +kernel)) ggL_law_L_flowBy
set_option maxRecDepth 20000 in
theorem ggL_law_X6_flowBy : GoodIn wsL_law wsX6_flowBy := goodIn_r _ [211, 212, 213, 119, 126, 127, 5, 128, 214, 215, 216, 217, 180, 181, 182, 183, 120, 218, 219, 220, 221, 62, 222, 223, 224, 225, 63, 64, 665, 666, 667, 668, 669, 670, 671, 672, 673, 674, 675, 676, 677, 678, 679, 680, 681, 682, 683] (by decide +kernel) (by decide +kernel)
set_option maxRecDepth 20000 in
theorem gL_law_X6_flowBy : GoodIn wsL_law (wsV RL 113 RX6 yX6_flowBy wsX6_flowBy) := goodIn_app (goodIn_of _ (by decide +kernel)) ggL_law_X6_flowBy
set_option maxRecDepth 20000 in
theorem ggL_law_L_stageBy : GoodIn wsL_law wsL_stageBy := goodIn_ca (goodIn_ca (goodIn_ca (goodIn_r _ [228, 140, 79, 80, 229, 230, 231, 2, 232, 145, 146, 85, 86, 104, 105, 106, 107, 87, 16, 152, 153, 154, 94, 95, 155, 191, 192, 193, 89, 194, 160, 233, 234, 235, 236, 114, 113, 161, 162, 237, 238, 239, 652, 653, 654, 655, 656, 657, 658, 659, 660, 661, 662, 663, 664, 693, 694, 695, 696] (by decide +kernel) (by decide +kernel)) (goodIn_sub (fun _ h => List.mem_append_right _ h) (by decide +kernel))) (goodIn_sub (fun _ h => List.mem_append_left _ (List.mem_append_left _ (List.mem_append_right _ h))) (by decide +kernel))) (goodIn_sub (fun _ h => List.mem_append_left _ (List.mem_append_right _ h)) (by decide +kernel))
set_option maxRecDepth 20000 in
theorem gL_law_L_stageBy : GoodIn wsL_law (va_wsS RL 114 yL_stageBy wsL_stageBy) := goodIn_app (goodIn_of _ (by decide +kernel)) ggL_law_L_stageBy
set_option maxRecDepth 20000 in
theorem ggL_law_X6_stageBy : GoodIn wsL_law wsX6_stageBy := goodIn_r _ [243, 179, 119, 126, 127, 5, 128, 214, 215, 216, 217, 180, 181, 182, 183, 120, 218, 219, 220, 221, 62, 244, 245, 246, 247, 64, 63, 222, 223, 224, 225, 665, 666, 667, 668, 669, 670, 671, 672, 673, 674, 675, 676, 677, 678, 679, 680, 681, 682, 683] (by decide +kernel) (by decide +kernel)
set_option maxRecDepth 20000 in
theorem gL_law_X6_stageBy : GoodIn wsL_law (wsV RL 116 RX6 yX6_stageBy wsX6_stageBy) := goodIn_app (goodIn_of _ (by decide +kernel)) ggL_law_X6_stageBy
set_option maxRecDepth 20000 in
theorem ggL_law_L_curveOf : GoodIn wsL_law wsL_curveOf := goodIn_ca (goodIn_r _ [250, 79, 251, 252, 253, 2, 254, 91, 92, 93, 94, 95, 100, 101, 102, 103, 104, 105, 106, 107, 87, 16, 693, 694, 695, 696, 652, 653, 654, 655, 656, 657, 658, 659, 660, 661, 662, 663, 664] (by decide +kernel) (by decide +kernel)) (goodIn_sub (fun _ h => List.mem_append_left _ (List.mem_append_right _ h)) (by decide +kernel))
set_option maxRecDepth 20000 in
theorem gL_law_L_curveOf : GoodIn wsL_law (va_wsS RL 117 yL_curveOf wsL_curveOf) := goodIn_app (goodIn_of _ (by decide +kernel)) ggL_law_L_curveOf
set_option maxRecDepth 20000 in
theorem ggL_law_X6_curveOf : GoodIn wsL_law wsX6_curveOf := goodIn_r _ [258, 119, 122, 123, 5, 124, 125, 126, 127, 128, 259, 260, 261, 262, 120, 61, 129, 130, 131, 132, 665, 666, 667, 668, 669, 670, 671, 672, 673, 674, 675, 676, 677, 678, 679, 680, 681, 682, 683] (by decide +kernel) (by decide +kernel)
set_option maxRecDepth 20000 in
theorem gL_law_X6_curveOf : GoodIn wsL_law (wsV RL 119 RX6 yX6_curveOf wsX6_curveOf) := goodIn_app (goodIn_of _ (by decide +kernel)) ggL_law_X6_curveOf
set_option maxRecDepth 20000 in
theorem ggL_law_L_setShift : GoodIn wsL_law wsL_setShift := goodIn_ca (goodIn_ca (goodIn_r _ [265, 79, 80, 266, 267, 268, 2, 269, 94, 95, 85, 86, 20, 90, 91, 92, 93, 270, 271, 272, 19, 273, 274, 42, 43, 161, 162, 206, 207, 275, 276, 277, 278, 167, 168, 652, 653, 654, 655, 656, 657, 658, 659, 660, 661, 662, 663, 664, 684, 685, 686] (by decide +kernel) (by decide +kernel)) (goodIn_sub (fun _ h => List.mem_append_left _ (List.mem_append_right _ h)) (by decide +kernel))) (goodIn_sub (fun _ h => List.mem_append_left _ (List.mem_append_left _ (List.mem_append_right _ h))) (by decide +kernel))
set_option maxRecDepth 20000 in
theorem gL_law_L_setShift : GoodIn wsL_law (va_wsS RL 120 yL_setShift wsL_setShift) := goodIn_app (goodIn_of _ (by decide +kernel)) ggL_law_L_setShift
set_option maxRecDepth 20000 in
theorem ggL_law_X6_setShift : GoodIn wsL_law wsX6_setShift := goodIn_r _ [282, 119, 283, 284, 65, 285, 66, 121, 122, 123, 5, 124, 125, 126, 127, 128, 129, 130, 131, 132, 286, 287, 288, 289, 665, 666, 667, 668, 669, 670, 671, 672, 673, 674, 675, 676, 677, 678, 679, 680, 681, 682, 683] (by decide +kernel) (by decide +kernel)
set_option maxRecDepth 20000 in
theorem gL_law_X6_setShift : GoodIn wsL_law (wsV RL 122 RX6 yX6_setShift wsX6_setShift) := goodIn_app (goodIn_of _ (by decide +kernel)) ggL_law_X6_setShift
set_option maxRecDepth 20000 in
theorem ggL_law_L_shift : GoodIn wsL_law wsL_shift := goodIn_ca (goodIn_r _ [292, 79, 293, 294, 295, 2, 296, 20, 91, 92, 93, 94, 95, 270, 271, 272, 19, 273, 274, 42, 43, 161, 162, 206, 207, 652, 653, 654, 655, 656, 657, 658, 659, 660, 661, 662, 663, 664, 684, 685, 686] (by decide +kernel) (by decide +kernel)) (goodIn_sub (fun _ h => List.mem_append_left _ (List.mem_append_right _ h)) (by decide +kernel))
set_option maxRecDepth 20000 in
theorem gL_law_L_shift : GoodIn wsL_law (va_wsS RL 123 yL_shift wsL_shift) := goodIn_app (goodIn_of _ (by decide +kernel)) ggL_law_L_shift
set_option maxRecDepth 20000 in
theorem ggL_law_X6_shift : GoodIn wsL_law wsX6_shift := goodIn_r _ [300, 119, 122, 123, 5, 124, 125, 126, 127, 128, 286, 287, 288, 289, 65, 66, 129, 130, 131, 132, 665, 666, 667, 668, 669, 670, 671, 672, 673, 674, 675, 676, 677, 678, 679, 680, 681, 682, 683] (by decide +kernel) (by decide +kernel)
set_option maxRecDepth 20000 in
theorem gL_law_X6_shift : GoodIn wsL_law (wsV RL 125 RX6 yX6_shift wsX6_shift) := goodIn_app (goodIn_of _ (by decide +kernel)) ggL_law_X6_shift
set_option maxRecDepth 20000 in
theorem ggL_law_L_read : GoodIn wsL_law wsL_read := goodIn_ca (goodIn_r _ [303, 79, 304, 305, 306, 2, 307, 24, 22, 90, 308, 309, 310, 94, 95, 91, 92, 93, 147, 148, 149, 150, 151, 311, 312, 313, 652, 653, 654, 655, 656, 657, 658, 659, 660, 661, 662, 663, 664] (by decide +kernel) (by decide +kernel)) (goodIn_sub (fun _ h => List.mem_append_left _ (List.mem_append_right _ h)) (by decide +kernel))
set_option maxRecDepth 20000 in
theorem gL_law_L_read : GoodIn wsL_law (va_wsS RL 126 yL_read wsL_read) := goodIn_app (goodIn_of _ (by decide +kernel)) ggL_law_L_read
set_option maxRecDepth 20000 in
theorem ggL_law_X6_read : GoodIn wsL_law wsX6_read := goodIn_r _ [317, 119, 177, 178, 67, 68, 121, 318, 319, 5, 320, 321, 122, 123, 124, 125, 126, 127, 128, 129, 130, 131, 132, 665, 666, 667, 668, 669, 670, 671, 672, 673, 674, 675, 676, 677, 678, 679, 680, 681, 682, 683] (by decide +kernel) (by decide +kernel)
set_option maxRecDepth 20000 in
theorem gL_law_X6_read : GoodIn wsL_law (wsV RL 129 RX6 yX6_read wsX6_read) := goodIn_app (goodIn_of _ (by decide +kernel)) ggL_law_X6_read
set_option maxRecDepth 20000 in
theorem ggL_law_L_erase : GoodIn wsL_law wsL_erase := goodIn_ca (goodIn_r _ [324, 79, 325, 326, 327, 2, 328, 24, 90, 308, 309, 310, 94, 95, 91, 92, 93, 311, 312, 313, 652, 653, 654, 655, 656, 657, 658, 659, 660, 661, 662, 663, 664] (by decide +kernel) (by decide +kernel)) (goodIn_sub (fun _ h => List.mem_append_left _ (List.mem_append_right _ h)) (by decide +kernel))
set_option maxRecDepth 20000 in
theorem gL_law_L_erase : GoodIn wsL_law (va_wsS RL 130 yL_erase wsL_erase) := goodIn_app (goodIn_of _ (by decide +kernel)) ggL_law_L_erase
set_option maxRecDepth 20000 in
theorem ggL_law_X6_erase : GoodIn wsL_law wsX6_erase := goodIn_r _ [332, 119, 67, 121, 318, 319, 5, 320, 321, 122, 123, 124, 125, 126, 127, 128, 129, 130, 131, 132, 665, 666, 667, 668, 669, 670, 671, 672, 673, 674, 675, 676, 677, 678, 679, 680, 681, 682, 683] (by decide +kernel) (by decide +kernel)
set_option maxRecDepth 20000 in
theorem gL_law_X6_erase : GoodIn wsL_law (wsV RL 132 RX6 yX6_erase wsX6_erase) := goodIn_app (goodIn_of _ (by decide +kernel)) ggL_law_X6_erase
set_option maxRecDepth 20000 in
theorem ggL_law_L_freeze : GoodIn wsL_law wsL_freeze := goodIn_ca (goodIn_r _ [335, 79, 336, 337, 338, 2, 339, 25, 90, 308, 309, 310, 94, 95, 91, 92, 93, 311, 312, 313, 652, 653, 654, 655, 656, 657, 658, 659, 660, 661, 662, 663, 664] (by decide +kernel) (by decide +kernel)) (goodIn_sub (fun _ h => List.mem_append_left _ (List.mem_append_right _ h)) (by decide +kernel))
set_option maxRecDepth 20000 in
theorem gL_law_L_freeze : GoodIn wsL_law (va_wsS RL 133 yL_freeze wsL_freeze) := goodIn_app (goodIn_of _ (by decide +kernel)) ggL_law_L_freeze
set_option maxRecDepth 20000 in
theorem ggL_law_X6_freeze : GoodIn wsL_law wsX6_freeze := goodIn_r _ [343, 119, 69, 121, 318, 319, 5, 320, 321, 122, 123, 124, 125, 126, 127, 128, 129, 130, 131, 132, 665, 666, 667, 668, 669, 670, 671, 672, 673, 674, 675, 676, 677, 678, 679, 680, 681, 682, 683] (by decide +kernel) (by decide +kernel)
set_option maxRecDepth 20000 in
theorem gL_law_X6_freeze : GoodIn wsL_law (wsV RL 136 RX6 yX6_freeze wsX6_freeze) := goodIn_app (goodIn_of _ (by decide +kernel)) ggL_law_X6_freeze
set_option maxRecDepth 20000 in
theorem ggL_law_L_setRules : GoodIn wsL_law wsL_setRules := goodIn_ca (goodIn_r _ [346, 79, 347, 348, 349, 2, 350, 94, 95, 36, 37, 90, 652, 653, 654, 655, 656, 657, 658, 659, 660, 661, 662, 663, 664] (by decide +kernel) (by decide +kernel)) (goodIn_sub (fun _ h => List.mem_append_left _ (List.mem_append_right _ h)) (by decide +kernel))
set_option maxRecDepth 20000 in
theorem gL_law_L_setRules : GoodIn wsL_law (va_wsS RL 137 yL_setRules wsL_setRules) := goodIn_app (goodIn_of _ (by decide +kernel)) ggL_law_L_setRules
set_option maxRecDepth 20000 in
theorem ggL_law_X6_setRules : GoodIn wsL_law wsX6_setRules := goodIn_r _ [354, 119, 355, 356, 70, 71, 121, 126, 127, 5, 128, 129, 130, 131, 132, 665, 666, 667, 668, 669, 670, 671, 672, 673, 674, 675, 676, 677, 678, 679, 680, 681, 682, 683] (by decide +kernel) (by decide +kernel)
set_option maxRecDepth 20000 in
theorem gL_law_X6_setRules : GoodIn wsL_law (wsV RL 139 RX6 yX6_setRules wsX6_setRules) := goodIn_app (goodIn_of _ (by decide +kernel)) ggL_law_X6_setRules
set_option maxRecDepth 20000 in
theorem ggL_law_L_state : GoodIn wsL_law wsL_state := goodIn_ca (goodIn_r _ [359, 79, 360, 361, 362, 2, 363, 31, 91, 92, 93, 94, 95, 364, 365, 366, 367, 90, 37, 368, 369, 370, 371, 24, 372, 22, 20, 25, 36, 373, 374, 375, 376, 377, 100, 101, 102, 103, 104, 105, 106, 107, 87, 16, 191, 192, 193, 89, 194, 160, 378, 379, 380, 30, 381, 48, 49, 270, 271, 272, 19, 273, 274, 42, 43, 161, 162, 206, 207, 195, 196, 197, 198, 113, 199, 200, 201, 202, 203, 204, 205, 114, 382, 383, 384, 385, 386, 387, 388, 389, 390, 391, 392, 393, 394, 395, 396, 397, 398, 399, 400, 401, 402, 403, 404, 652, 653, 654, 655, 656, 657, 658, 659, 660, 661, 662, 663, 664, 693, 694, 695, 696, 687, 688, 684, 685, 686] (by decide +kernel) (by decide +kernel)) (goodIn_sub (fun _ h => List.mem_append_left _ (List.mem_append_right _ h)) (by decide +kernel))
set_option maxRecDepth 20000 in
theorem gL_law_L_state : GoodIn wsL_law (va_wsS RL 140 yL_state wsL_state) := goodIn_app (goodIn_of _ (by decide +kernel)) ggL_law_L_state
set_option maxRecDepth 20000 in
theorem ggL_law_X6_state : GoodIn wsL_law wsX6_state := goodIn_r _ [408, 119, 73, 122, 123, 5, 124, 125, 126, 127, 128, 129, 130, 131, 132, 409, 410, 411, 412, 121, 74, 413, 67, 68, 69, 70, 355, 71, 259, 260, 261, 262, 120, 61, 218, 219, 220, 221, 62, 286, 287, 288, 289, 65, 66, 222, 223, 224, 225, 63, 64, 414, 415, 416, 417, 665, 666, 667, 668, 669, 670, 671, 672, 673, 674, 675, 676, 677, 678, 679, 680, 681, 682, 683] (by decide +kernel) (by decide +kernel)
set_option maxRecDepth 20000 in
theorem gL_law_X6_state : GoodIn wsL_law (wsV RL 142 RX6 yX6_state wsX6_state) := goodIn_app (goodIn_of _ (by decide +kernel)) ggL_law_X6_state
set_option maxRecDepth 20000 in
theorem ggL_law_L_flow : GoodIn wsL_law wsL_flow := goodIn_ca (goodIn_r _ [420, 79, 421, 422, 423, 2, 424, 31, 91, 92, 93, 94, 95, 364, 365, 366, 367, 90, 37, 368, 369, 370, 371, 24, 372, 22, 20, 25, 36, 373, 374, 375, 376, 377, 100, 101, 102, 103, 104, 105, 106, 107, 87, 16, 191, 192, 193, 89, 194, 160, 378, 379, 380, 30, 381, 48, 49, 270, 271, 272, 19, 273, 274, 42, 43, 161, 162, 206, 207, 195, 196, 197, 198, 113, 199, 200, 201, 202, 203, 204, 205, 114, 382, 383, 384, 385, 386, 387, 388, 389, 390, 391, 392, 393, 394, 395, 396, 397, 398, 399, 400, 401, 402, 403, 425, 652, 653, 654, 655, 656, 657, 658, 659, 660, 661, 662, 663, 664, 693, 694, 695, 696, 687, 688, 684, 685, 686] (by decide +kernel) (by decide +kernel)) (goodIn_sub (fun _ h => List.mem_append_left _ (List.mem_append_right _ h)) (by decide +kernel))
set_option maxRecDepth 20000 in
theorem gL_law_L_flow : GoodIn wsL_law (va_wsS RL 143 yL_flow wsL_flow) := goodIn_app (goodIn_of _ (by decide +kernel)) ggL_law_L_flow
set_option maxRecDepth 20000 in
theorem ggL_law_X6_flow : GoodIn wsL_law wsX6_flow := goodIn_r _ [429, 119, 74, 122, 123, 5, 124, 125, 126, 127, 128, 409, 410, 411, 412, 121, 73, 413, 67, 68, 69, 70, 355, 71, 259, 260, 261, 262, 120, 61, 218, 219, 220, 221, 62, 286, 287, 288, 289, 65, 66, 222, 223, 224, 225, 63, 64, 414, 415, 416, 417, 665, 666, 667, 668, 669, 670, 671, 672, 673, 674, 675, 676, 677, 678, 679, 680, 681, 682, 683] (by decide +kernel) (by decide +kernel)
set_option maxRecDepth 20000 in
theorem gL_law_X6_flow : GoodIn wsL_law (wsV RL 145 RX6 yX6_flow wsX6_flow) := goodIn_app (goodIn_of _ (by decide +kernel)) ggL_law_X6_flow
set_option maxRecDepth 20000 in
theorem ggL_law_L_sum : GoodIn wsL_law wsL_sum := goodIn_ca (goodIn_ca (goodIn_r _ [432, 140, 79, 433, 434, 435, 2, 436, 145, 146, 31, 437, 438, 439, 94, 95, 364, 365, 366, 367, 90, 37, 368, 369, 370, 371, 24, 372, 22, 20, 25, 36, 373, 374, 375, 376, 377, 100, 101, 102, 103, 104, 105, 106, 107, 87, 16, 191, 192, 193, 89, 194, 160, 378, 379, 380, 30, 381, 48, 49, 270, 271, 272, 19, 273, 274, 42, 43, 161, 162, 206, 207, 195, 196, 197, 198, 113, 199, 200, 201, 202, 203, 204, 205, 114, 382, 383, 384, 385, 386, 387, 388, 389, 390, 391, 392, 393, 394, 395, 396, 397, 398, 399, 400, 401, 402, 403, 440, 441, 442, 443, 444, 445, 446, 447, 448, 449, 450, 451, 425, 452, 453, 454, 455, 652, 653, 654, 655, 656, 657, 658, 659, 660, 661, 662, 663, 664, 693, 694, 695, 696, 687, 688, 684, 685, 686] (by decide +kernel) (by decide +kernel)) (goodIn_sub (fun _ h => List.mem_append_right _ h) (by decide +kernel))) (goodIn_sub (fun _ h => List.mem_append_left _ (List.mem_append_right _ h)) (by decide +kernel))
set_option maxRecDepth 20000 in
theorem gL_law_L_sum : GoodIn wsL_law (va_wsS RL 146 yL_sum wsL_sum) := goodIn_app (goodIn_of _ (by decide +kernel)) ggL_law_L_sum
set_option maxRecDepth 20000 in
theorem ggL_law_X6_sum : GoodIn wsL_law wsX6_sum := goodIn_r _ [459, 460, 119, 126, 127, 5, 128, 461, 462, 463, 464, 465, 466, 467, 6, 413, 73, 74, 409, 410, 411, 412, 121, 67, 68, 69, 70, 355, 71, 259, 260, 261, 262, 120, 61, 218, 219, 220, 221, 62, 286, 287, 288, 289, 65, 66, 222, 223, 224, 225, 63, 64, 414, 415, 416, 417, 665, 666, 667, 668, 669, 670, 671, 672, 673, 674, 675, 676, 677, 678, 679, 680, 681, 682, 683] (by decide +kernel) (by decide +kernel)
set_option maxRecDepth 20000 in
theorem gL_law_X6_sum : GoodIn wsL_law (wsV RL 148 RX6 yX6_sum wsX6_sum) := goodIn_app (goodIn_of _ (by decide +kernel)) ggL_law_X6_sum
set_option maxRecDepth 20000 in
theorem ggL_law_L_mean : GoodIn wsL_law wsL_mean := goodIn_ca (goodIn_r _ [470, 79, 471, 472, 473, 2, 474, 31, 437, 438, 439, 94, 95, 364, 365, 366, 367, 90, 37, 368, 369, 370, 371, 24, 372, 22, 20, 25, 36, 373, 374, 375, 376, 377, 100, 101, 102, 103, 104, 105, 106, 107, 87, 16, 191, 192, 193, 89, 194, 160, 378, 379, 380, 30, 381, 48, 49, 270, 271, 272, 19, 273, 274, 42, 43, 161, 162, 206, 207, 195, 196, 197, 198, 113, 199, 200, 201, 202, 203, 204, 205, 114, 382, 383, 384, 385, 386, 387, 388, 389, 390, 391, 392, 393, 394, 395, 396, 397, 398, 399, 400, 401, 402, 403, 440, 441, 442, 443, 444, 445, 446, 447, 652, 653, 654, 655, 656, 657, 658, 659, 660, 661, 662, 663, 664, 693, 694, 695, 696, 687, 688, 684, 685, 686] (by decide +kernel) (by decide +kernel)) (goodIn_sub (fun _ h => List.mem_append_left _ (List.mem_append_right _ h)) (by decide +kernel))
set_option maxRecDepth 20000 in
theorem gL_law_L_mean : GoodIn wsL_law (va_wsS RL 149 yL_mean wsL_mean) := goodIn_app (goodIn_of _ (by decide +kernel)) ggL_law_L_mean
set_option maxRecDepth 20000 in
theorem ggL_law_X6_mean : GoodIn wsL_law wsX6_mean := goodIn_r _ [478, 119, 461, 462, 5, 463, 464, 465, 466, 467, 6, 413, 73, 74, 409, 410, 411, 412, 121, 67, 68, 69, 70, 355, 71, 259, 260, 261, 262, 120, 61, 218, 219, 220, 221, 62, 286, 287, 288, 289, 65, 66, 222, 223, 224, 225, 63, 64, 414, 415, 416, 417, 665, 666, 667, 668, 669, 670, 671, 672, 673, 674, 675, 676, 677, 678, 679, 680, 681, 682, 683] (by decide +kernel) (by decide +kernel)
set_option maxRecDepth 20000 in
theorem gL_law_X6_mean : GoodIn wsL_law (wsV RL 152 RX6 yX6_mean wsX6_mean) := goodIn_app (goodIn_of _ (by decide +kernel)) ggL_law_X6_mean
set_option maxRecDepth 20000 in
theorem ggL_law_L_reached : GoodIn wsL_law wsL_reached := goodIn_ca (goodIn_r _ [481, 79, 482, 483, 484, 2, 485, 94, 95, 35, 31, 486, 200, 201, 202, 364, 365, 366, 367, 90, 37, 368, 369, 370, 371, 24, 372, 22, 20, 25, 36, 373, 374, 375, 376, 377, 100, 101, 102, 103, 104, 105, 106, 107, 87, 16, 191, 192, 193, 89, 194, 160, 378, 379, 380, 30, 381, 48, 49, 270, 271, 272, 19, 273, 274, 42, 43, 161, 162, 206, 207, 195, 196, 197, 198, 113, 199, 203, 204, 205, 114, 382, 383, 384, 385, 386, 387, 388, 389, 390, 391, 392, 393, 394, 395, 396, 397, 398, 399, 400, 401, 402, 403, 487, 488, 489, 34, 490, 491, 54, 492, 493, 494, 495, 496, 497, 55, 498, 499, 500, 501, 502, 503, 504, 505, 506, 507, 508, 509, 510, 511, 512, 513, 514, 425, 652, 653, 654, 655, 656, 657, 658, 659, 660, 661, 662, 663, 664, 693, 694, 695, 696, 687, 688, 684, 685, 686, 689, 690, 691, 692] (by decide +kernel) (by decide +kernel)) (goodIn_sub (fun _ h => List.mem_append_left _ (List.mem_append_right _ h)) (by decide +kernel))
set_option maxRecDepth 20000 in
theorem gL_law_L_reached : GoodIn wsL_law (va_wsS RL 153 yL_reached wsL_reached) := goodIn_app (goodIn_of _ (by decide +kernel)) ggL_law_L_reached
set_option maxRecDepth 20000 in
theorem ggL_law_X6_reached : GoodIn wsL_law wsX6_reached := goodIn_r _ [518, 355, 119, 519, 200, 201, 202, 413, 73, 74, 126, 127, 5, 128, 464, 465, 466, 467, 6, 409, 410, 411, 412, 121, 67, 68, 69, 70, 71, 259, 260, 261, 262, 120, 61, 218, 219, 220, 221, 62, 286, 287, 288, 289, 65, 66, 222, 223, 224, 225, 63, 64, 414, 415, 416, 417, 665, 666, 667, 668, 669, 670, 671, 672, 673, 674, 675, 676, 677, 678, 679, 680, 681, 682, 683] (by decide +kernel) (by decide +kernel)
set_option maxRecDepth 20000 in
theorem gL_law_X6_reached : GoodIn wsL_law (wsV RL 155 RX6 yX6_reached wsX6_reached) := goodIn_app (goodIn_of _ (by decide +kernel)) ggL_law_X6_reached
set_option maxRecDepth 20000 in
theorem ggL_law_L_peaks : GoodIn wsL_law wsL_peaks := goodIn_ca (goodIn_r _ [522, 79, 523, 524, 525, 2, 526, 94, 95, 35, 31, 527, 528, 529, 364, 365, 366, 367, 90, 37, 368, 369, 370, 371, 24, 372, 22, 20, 25, 36, 373, 374, 375, 376, 377, 100, 101, 102, 103, 104, 105, 106, 107, 87, 16, 191, 192, 193, 89, 194, 160, 378, 379, 380, 30, 381, 48, 49, 270, 271, 272, 19, 273, 274, 42, 43, 161, 162, 206, 207, 195, 196, 197, 198, 113, 199, 200, 201, 202, 203, 204, 205, 114, 382, 383, 384, 385, 386, 387, 388, 389, 390, 391, 392, 393, 394, 395, 396, 397, 398, 399, 400, 401, 402, 403, 487, 488, 489, 34, 490, 491, 54, 492, 493, 494, 495, 496, 497, 55, 498, 499, 500, 501, 502, 503, 504, 505, 506, 530, 531, 532, 533, 56, 534, 535, 536, 537, 538, 512, 513, 514, 539, 540, 541, 542, 543, 652, 653, 654, 655, 656, 657, 658, 659, 660, 661, 662, 663, 664, 693, 694, 695, 696, 687, 688, 684, 685, 686, 689, 690, 691, 692] (by decide +kernel) (by decide +kernel)) (goodIn_sub (fun _ h => List.mem_append_left _ (List.mem_append_right _ h)) (by decide +kernel))
set_option maxRecDepth 20000 in
theorem gL_law_L_peaks : GoodIn wsL_law (va_wsS RL 158 yL_peaks wsL_peaks) := goodIn_app (goodIn_of _ (by decide +kernel)) ggL_law_L_peaks
set_option maxRecDepth 20000 in
theorem ggL_law_X6_peaks : GoodIn wsL_law wsX6_peaks := goodIn_r _ [547, 119, 355, 23, 73, 74, 548, 549, 201, 550, 126, 127, 5, 128, 129, 130, 131, 132, 409, 410, 411, 412, 121, 413, 67, 68, 69, 70, 71, 259, 260, 261, 262, 120, 61, 218, 219, 220, 221, 62, 286, 287, 288, 289, 65, 66, 222, 223, 224, 225, 63, 64, 414, 415, 416, 417, 665, 666, 667, 668, 669, 670, 671, 672, 673, 674, 675, 676, 677, 678, 679, 680, 681, 682, 683] (by decide +kernel) (by decide +kernel)
set_option maxRecDepth 20000 in
theorem gL_law_X6_peaks : GoodIn wsL_law (wsV RL 161 RX6 yX6_peaks wsX6_peaks) := goodIn_app (goodIn_of _ (by decide +kernel)) ggL_law_X6_peaks
set_option maxRecDepth 20000 in
theorem ggL_law_L_spell : GoodIn wsL_law wsL_spell := goodIn_ca (goodIn_r _ [553, 79, 554, 555, 556, 2, 557, 31, 527, 528, 529, 94, 95, 364, 365, 366, 367, 90, 37, 368, 369, 370, 371, 24, 372, 22, 20, 25, 36, 373, 374, 375, 376, 377, 100, 101, 102, 103, 104, 105, 106, 107, 87, 16, 191, 192, 193, 89, 194, 160, 378, 379, 380, 30, 381, 48, 49, 270, 271, 272, 19, 273, 274, 42, 43, 161, 162, 206, 207, 195, 196, 197, 198, 113, 199, 200, 201, 202, 203, 204, 205, 114, 382, 383, 384, 385, 386, 387, 388, 389, 390, 391, 392, 393, 394, 395, 396, 397, 398, 399, 400, 401, 402, 403, 558, 559, 560, 561, 562, 652, 653, 654, 655, 656, 657, 658, 659, 660, 661, 662, 663, 664, 693, 694, 695, 696, 687, 688, 684, 685, 686] (by decide +kernel) (by decide +kernel)) (goodIn_sub (fun _ h => List.mem_append_left _ (List.mem_append_right _ h)) (by decide +kernel))
set_option maxRecDepth 20000 in
theorem gL_law_L_spell : GoodIn wsL_law (va_wsS RL 162 yL_spell wsL_spell) := goodIn_app (goodIn_of _ (by decide +kernel)) ggL_law_L_spell
set_option maxRecDepth 20000 in
theorem ggL_law_X6_spell : GoodIn wsL_law wsX6_spell := goodIn_r _ [566, 119, 73, 74, 519, 200, 201, 202, 129, 130, 131, 5, 132, 409, 410, 411, 412, 121, 413, 67, 68, 69, 70, 355, 71, 259, 260, 261, 262, 120, 61, 218, 219, 220, 221, 62, 286, 287, 288, 289, 65, 66, 222, 223, 224, 225, 63, 64, 414, 415, 416, 417, 665, 666, 667, 668, 669, 670, 671, 672, 673, 674, 675, 676, 677, 678, 679, 680, 681, 682, 683] (by decide +kernel) (by decide +kernel)
set_option maxRecDepth 20000 in
theorem gL_law_X6_spell : GoodIn wsL_law (wsV RL 165 RX6 yX6_spell wsX6_spell) := goodIn_app (goodIn_of _ (by decide +kernel)) ggL_law_X6_spell
set_option maxRecDepth 20000 in
theorem ggL_law_L_measure : GoodIn wsL_law wsL_measure := goodIn_ca (goodIn_ca (goodIn_r _ [569, 79, 80, 570, 571, 572, 2, 573, 85, 86, 574, 27, 26, 575, 576, 91, 92, 93, 94, 95, 147, 148, 149, 150, 151, 152, 153, 154, 155, 577, 578, 579, 580, 13, 14, 581, 582, 583, 652, 653, 654, 655, 656, 657, 658, 659, 660, 661, 662, 663, 664, 697, 698, 699] (by decide +kernel) (by decide +kernel)) (goodIn_sub (fun _ h => List.mem_append_left _ (List.mem_append_left _ (List.mem_append_right _ h))) (by decide +kernel))) (goodIn_sub (fun _ h => List.mem_append_left _ (List.mem_append_right _ h)) (by decide +kernel))
set_option maxRecDepth 20000 in
theorem gL_law_L_measure : GoodIn wsL_law (va_wsS RL 166 yL_measure wsL_measure) := goodIn_app (goodIn_of _ (by decide +kernel)) ggL_law_L_measure
set_option maxRecDepth 20000 in
theorem ggL_law_X6_measure : GoodIn wsL_law wsX6_measure := goodIn_r _ [587, 119, 177, 178, 179, 588, 21, 72, 589, 499, 500, 501, 122, 123, 5, 124, 125, 126, 127, 128, 129, 130, 131, 132, 665, 666, 667, 668, 669, 670, 671, 672, 673, 674, 675, 676, 677, 678, 679, 680, 681, 682, 683] (by decide +kernel) (by decide +kernel)
set_option maxRecDepth 20000 in
theorem gL_law_X6_measure : GoodIn wsL_law (wsV RL 168 RX6 yX6_measure wsX6_measure) := goodIn_app (goodIn_of _ (by decide +kernel)) ggL_law_X6_measure
set_option maxRecDepth 20000 in
theorem ggL_law_L_deviation : GoodIn wsL_law wsL_deviation := goodIn_ca (goodIn_ca (goodIn_r _ [592, 140, 80, 593, 594, 595, 2, 596, 145, 146, 85, 86, 20, 597, 598, 599, 600, 574, 27, 374, 375, 376, 377, 100, 101, 102, 103, 104, 105, 106, 107, 87, 16, 191, 192, 193, 89, 194, 160, 270, 271, 272, 19, 273, 274, 42, 43, 161, 162, 206, 207, 195, 196, 197, 198, 113, 199, 200, 201, 202, 203, 204, 205, 114, 697, 698, 699, 652, 653, 654, 655, 656, 657, 658, 659, 660, 661, 662, 663, 664, 693, 694, 695, 696, 684, 685, 686] (by decide +kernel) (by decide +kernel)) (goodIn_sub (fun _ h => List.mem_append_right _ h) (by decide +kernel))) (goodIn_sub (fun _ h => List.mem_append_left _ (List.mem_append_left _ (List.mem_append_right _ h))) (by decide +kernel))
set_option maxRecDepth 20000 in
theorem gL_law_L_deviation : GoodIn wsL_law (va_wsS RL 169 yL_deviation wsL_deviation) := goodIn_app (goodIn_of _ (by decide +kernel)) ggL_law_L_deviation
set_option maxRecDepth 20000 in
theorem ggL_law_X6_deviation : GoodIn wsL_law wsX6_deviation := goodIn_r _ [604, 119, 72, 605, 606, 607, 5, 608, 588, 126, 127, 128, 259, 260, 261, 262, 120, 61, 218, 219, 220, 221, 62, 286, 287, 288, 289, 65, 66, 222, 223, 224, 225, 63, 64, 665, 666, 667, 668, 669, 670, 671, 672, 673, 674, 675, 676, 677, 678, 679, 680, 681, 682, 683] (by decide +kernel) (by decide +kernel)
set_option maxRecDepth 20000 in
theorem gL_law_X6_deviation : GoodIn wsL_law (wsV RL 171 RX6 yX6_deviation wsX6_deviation) := goodIn_app (goodIn_of _ (by decide +kernel)) ggL_law_X6_deviation
set_option maxRecDepth 20000 in
theorem ggL_law_L_wouldShift : GoodIn wsL_law wsL_wouldShift := goodIn_ca (goodIn_ca (goodIn_r _ [611, 140, 80, 612, 613, 614, 2, 615, 145, 146, 85, 86, 597, 598, 599, 600, 574, 27, 374, 375, 376, 377, 100, 101, 102, 103, 104, 105, 106, 107, 87, 16, 191, 192, 193, 89, 194, 160, 233, 234, 235, 236, 114, 113, 161, 162, 237, 238, 239, 697, 698, 699, 652, 653, 654, 655, 656, 657, 658, 659, 660, 661, 662, 663, 664, 693, 694, 695, 696] (by decide +kernel) (by decide +kernel)) (goodIn_sub (fun _ h => List.mem_append_right _ h) (by decide +kernel))) (goodIn_sub (fun _ h => List.mem_append_left _ (List.mem_append_left _ (List.mem_append_right _ h))) (by decide +kernel))
set_option maxRecDepth 20000 in
theorem gL_law_L_wouldShift : GoodIn wsL_law (va_wsS RL 172 yL_wouldShift wsL_wouldShift) := goodIn_app (goodIn_of _ (by decide +kernel)) ggL_law_L_wouldShift
set_option maxRecDepth 20000 in
theorem ggL_law_X6_wouldShift : GoodIn wsL_law wsX6_wouldShift := goodIn_r _ [619, 119, 72, 605, 606, 607, 5, 608, 588, 126, 127, 128, 259, 260, 261, 262, 120, 61, 218, 219, 220, 221, 62, 244, 245, 246, 247, 64, 63, 222, 223, 224, 225, 129, 130, 131, 132, 665, 666, 667, 668, 669, 670, 671, 672, 673, 674, 675, 676, 677, 678, 679, 680, 681, 682, 683] (by decide +kernel) (by decide +kernel)
set_option maxRecDepth 20000 in
theorem gL_law_X6_wouldShift : GoodIn wsL_law (wsV RL 174 RX6 yX6_wouldShift wsX6_wouldShift) := goodIn_app (goodIn_of _ (by decide +kernel)) ggL_law_X6_wouldShift
set_option maxRecDepth 20000 in
theorem ggL_law_L_count : GoodIn wsL_law wsL_count := goodIn_ca (goodIn_r _ [622, 140, 623, 624, 625, 2, 626, 145, 146, 87, 20, 24, 25, 574, 627, 628, 629, 19, 630, 274, 311, 312, 313, 652, 653, 654, 655, 656, 657, 658, 659, 660, 661, 662, 663, 664, 684, 685, 686] (by decide +kernel) (by decide +kernel)) (goodIn_sub (fun _ h => List.mem_append_right _ h) (by decide +kernel))
set_option maxRecDepth 20000 in
theorem gL_law_L_count : GoodIn wsL_law (va_wsS RL 175 yL_count wsL_count) := goodIn_app (goodIn_of _ (by decide +kernel)) ggL_law_L_count
set_option maxRecDepth 20000 in
theorem ggL_law_X6_count : GoodIn wsL_law wsX6_count := goodIn_r _ [634, 119, 460, 126, 127, 5, 128, 635, 636, 637, 638, 67, 69, 120, 285, 588, 129, 130, 131, 132, 665, 666, 667, 668, 669, 670, 671, 672, 673, 674, 675, 676, 677, 678, 679, 680, 681, 682, 683] (by decide +kernel) (by decide +kernel)
set_option maxRecDepth 20000 in
theorem gL_law_X6_count : GoodIn wsL_law (wsV RL 177 RX6 yX6_count wsX6_count) := goodIn_app (goodIn_of _ (by decide +kernel)) ggL_law_X6_count
set_option maxRecDepth 20000 in
theorem ggL_law_X5_digest : GoodIn wsL_law wsX5_digest := goodIn_ca (goodIn_r _ [642, 643, 644, 36, 37, 20, 31, 364, 365, 366, 2, 367, 90, 368, 369, 370, 371, 24, 372, 22, 25, 373, 374, 375, 376, 377, 100, 101, 102, 103, 104, 105, 106, 107, 87, 16, 191, 192, 193, 89, 194, 160, 378, 379, 380, 30, 381, 48, 49, 270, 271, 272, 19, 273, 274, 42, 43, 161, 162, 206, 207, 195, 196, 197, 198, 113, 199, 200, 201, 202, 203, 204, 205, 114, 382, 383, 384, 385, 386, 387, 388, 389, 390, 391, 392, 393, 394, 395, 396, 397, 398, 399, 400, 401, 402, 403, 645, 624, 625, 626, 145, 146, 574, 627, 628, 629, 630, 311, 312, 313, 404, 425, 652, 653, 654, 655, 656, 657, 658, 659, 660, 661, 662, 663, 664, 693, 694, 695, 696, 687, 688, 684, 685, 686] (by decide +kernel) (by decide +kernel)) (goodIn_sub (fun _ h => List.mem_append_right _ h) (by decide +kernel))
set_option maxRecDepth 20000 in
theorem gL_law_X5_digest : GoodIn wsL_law (wsV RL 178 RX5 yX5_digest wsX5_digest) := goodIn_app (goodIn_of _ (by decide +kernel)) ggL_law_X5_digest
set_option maxRecDepth 20000 in
theorem ggL_law_X6_digest : GoodIn wsL_law wsX6_digest := goodIn_r _ [649, 119, 650, 651, 70, 71, 73, 74, 409, 410, 411, 5, 412, 121, 413, 67, 68, 69, 355, 259, 260, 261, 262, 120, 61, 218, 219, 220, 221, 62, 286, 287, 288, 289, 65, 66, 222, 223, 224, 225, 63, 64, 414, 415, 416, 417, 635, 636, 637, 638, 285, 588, 665, 666, 667, 668, 669, 670, 671, 672, 673, 674, 675, 676, 677, 678, 679, 680, 681, 682, 683] (by decide +kernel) (by decide +kernel)
set_option maxRecDepth 20000 in
theorem gL_law_X6_digest : GoodIn wsL_law (wsV RL 182 RX6 yX6_digest wsX6_digest) := goodIn_app (goodIn_of _ (by decide +kernel)) ggL_law_X6_digest
