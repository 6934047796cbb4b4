theorem dX0_init_0 : decode cX0_init 0 = .ok (.aload_n 0, 1) := by decide +kernel
theorem dX0_init_1 : decode cX0_init 1 = .ok (.invokespecial 3, 3) := by decide +kernel
theorem dX0_init_4 : decode cX0_init 4 = .ok (.aload_n 0, 1) := by decide +kernel
theorem dX0_init_5 : decode cX0_init 5 = .ok (.iload_n 1, 1) := by decide +kernel
theorem dX0_init_6 : decode cX0_init 6 = .ok (.putfield 9, 3) := by decide +kernel
theorem dX0_init_9 : decode cX0_init 9 = .ok (.aload_n 0, 1) := by decide +kernel
theorem dX0_init_10 : decode cX0_init 10 = .ok (.bipush 12, 2) := by decide +kernel
theorem dX0_init_12 : decode cX0_init 12 = .ok (.newarray .int, 2) := by decide +kernel
theorem dX0_init_14 : decode cX0_init 14 = .ok (.putfield 15, 3) := by decide +kernel
theorem dX0_init_17 : decode cX0_init 17 = .ok (.aload_n 0, 1) := by decide +kernel
theorem dX0_init_18 : decode cX0_init 18 = .ok (.bipush 12, 2) := by decide +kernel
theorem dX0_init_20 : decode cX0_init 20 = .ok (.newarray .int, 2) := by decide +kernel
theorem dX0_init_22 : decode cX0_init 22 = .ok (.putfield 19, 3) := by decide +kernel
theorem dX0_init_25 : decode cX0_init 25 = .ok (.return_, 1) := by decide +kernel
theorem dX0_size_0 : decode cX0_size 0 = .ok (.aload_n 0, 1) := by decide +kernel
theorem dX0_size_1 : decode cX0_size 1 = .ok (.getfield 22, 3) := by decide +kernel
theorem dX0_size_4 : decode cX0_size 4 = .ok (.ireturn, 1) := by decide +kernel
theorem dX0_isComplete_0 : decode cX0_isComplete 0 = .ok (.aload_n 0, 1) := by decide +kernel
theorem dX0_isComplete_1 : decode cX0_isComplete 1 = .ok (.getfield 22, 3) := by decide +kernel
theorem dX0_isComplete_4 : decode cX0_isComplete 4 = .ok (.iconst 2, 1) := by decide +kernel
theorem dX0_isComplete_5 : decode cX0_isComplete 5 = .ok (.if_icmp .lt 7, 3) := by decide +kernel
theorem dX0_isComplete_8 : decode cX0_isComplete 8 = .ok (.iconst 1, 1) := by decide +kernel
theorem dX0_isComplete_9 : decode cX0_isComplete 9 = .ok (.goto 4, 3) := by decide +kernel
theorem dX0_isComplete_12 : decode cX0_isComplete 12 = .ok (.iconst 0, 1) := by decide +kernel
theorem dX0_isComplete_13 : decode cX0_isComplete 13 = .ok (.ireturn, 1) := by decide +kernel
set_option maxRecDepth 20000 in
theorem ggX0_insert_X5_countLower : GoodIn wsX0_insert wsX5_countLower := goodIn_r _ [6] (by decide +kernel) (by decide +kernel)
set_option maxRecDepth 20000 in
theorem gX0_insert_X5_countLower_n25 : GoodIn wsX0_insert (wsX5_countLower) := ggX0_insert_X5_countLower
set_option maxRecDepth 20000 in
theorem ggX0_insert_X0_fits : GoodIn wsX0_insert wsX0_fits := goodIn_r _ [11, 3, 2, 1, 14, 15, 16, 17] (by decide +kernel) (by decide +kernel)
set_option maxRecDepth 20000 in
theorem gX0_insert_X0_fits : GoodIn wsX0_insert (wsV RX0 29 RX0 yX0_fits wsX0_fits) := goodIn_app (goodIn_of _ (by decide +kernel)) ggX0_insert_X0_fits
set_option maxRecDepth 20000 in
theorem ggX0_insert_X5_insertInto : GoodIn wsX0_insert wsX5_insertInto := goodIn_r _ [13] (by decide +kernel) (by decide +kernel)
set_option maxRecDepth 20000 in
theorem gX0_insert_X5_insertInto_n33 : GoodIn wsX0_insert (wsX5_insertInto) := ggX0_insert_X5_insertInto
theorem dX0_insert_0 : decode cX0_insert 0 = .ok (.aload_n 0, 1) := by decide +kernel
theorem dX0_insert_1 : decode cX0_insert 1 = .ok (.getfield 15, 3) := by decide +kernel
theorem dX0_insert_4 : decode cX0_insert 4 = .ok (.aload_n 0, 1) := by decide +kernel
theorem dX0_insert_5 : decode cX0_insert 5 = .ok (.getfield 22, 3) := by decide +kernel
theorem dX0_insert_8 : decode cX0_insert 8 = .ok (.iload_n 1, 1) := by decide +kernel
theorem dX0_insert_9 : decode cX0_insert 9 = .ok (.invokestatic 25, 3) := by decide +kernel
theorem dX0_insert_12 : decode cX0_insert 12 = .ok (.istore_n 3, 1) := by decide +kernel
theorem dX0_insert_13 : decode cX0_insert 13 = .ok (.aload_n 0, 1) := by decide +kernel
theorem dX0_insert_14 : decode cX0_insert 14 = .ok (.getfield 22, 3) := by decide +kernel
theorem dX0_insert_17 : decode cX0_insert 17 = .ok (.bipush 12, 2) := by decide +kernel
theorem dX0_insert_19 : decode cX0_insert 19 = .ok (.if_icmp .ge 13, 3) := by decide +kernel
theorem dX0_insert_22 : decode cX0_insert 22 = .ok (.aload_n 0, 1) := by decide +kernel
theorem dX0_insert_23 : decode cX0_insert 23 = .ok (.iload_n 3, 1) := by decide +kernel
theorem dX0_insert_24 : decode cX0_insert 24 = .ok (.iload_n 1, 1) := by decide +kernel
theorem dX0_insert_25 : decode cX0_insert 25 = .ok (.iload_n 2, 1) := by decide +kernel
theorem dX0_insert_26 : decode cX0_insert 26 = .ok (.invokevirtual 29, 3) := by decide +kernel
theorem dX0_insert_29 : decode cX0_insert 29 = .ok (.ifCond .ne 5, 3) := by decide +kernel
theorem dX0_insert_32 : decode cX0_insert 32 = .ok (.iconst 0, 1) := by decide +kernel
theorem dX0_insert_33 : decode cX0_insert 33 = .ok (.ireturn, 1) := by decide +kernel
theorem dX0_insert_34 : decode cX0_insert 34 = .ok (.aload_n 0, 1) := by decide +kernel
theorem dX0_insert_35 : decode cX0_insert 35 = .ok (.getfield 15, 3) := by decide +kernel
theorem dX0_insert_38 : decode cX0_insert 38 = .ok (.aload_n 0, 1) := by decide +kernel
theorem dX0_insert_39 : decode cX0_insert 39 = .ok (.getfield 22, 3) := by decide +kernel
theorem dX0_insert_42 : decode cX0_insert 42 = .ok (.iload_n 3, 1) := by decide +kernel
theorem dX0_insert_43 : decode cX0_insert 43 = .ok (.iload_n 1, 1) := by decide +kernel
theorem dX0_insert_44 : decode cX0_insert 44 = .ok (.invokestatic 33, 3) := by decide +kernel
theorem dX0_insert_47 : decode cX0_insert 47 = .ok (.aload_n 0, 1) := by decide +kernel
theorem dX0_insert_48 : decode cX0_insert 48 = .ok (.getfield 19, 3) := by decide +kernel
theorem dX0_insert_51 : decode cX0_insert 51 = .ok (.aload_n 0, 1) := by decide +kernel
theorem dX0_insert_52 : decode cX0_insert 52 = .ok (.getfield 22, 3) := by decide +kernel
theorem dX0_insert_55 : decode cX0_insert 55 = .ok (.iload_n 3, 1) := by decide +kernel
theorem dX0_insert_56 : decode cX0_insert 56 = .ok (.iload_n 2, 1) := by decide +kernel
theorem dX0_insert_57 : decode cX0_insert 57 = .ok (.invokestatic 33, 3) := by decide +kernel
theorem dX0_insert_60 : decode cX0_insert 60 = .ok (.aload_n 0, 1) := by decide +kernel
theorem dX0_insert_61 : decode cX0_insert 61 = .ok (.dup, 1) := by decide +kernel
theorem dX0_insert_62 : decode cX0_insert 62 = .ok (.getfield 22, 3) := by decide +kernel
theorem dX0_insert_65 : decode cX0_insert 65 = .ok (.iconst 1, 1) := by decide +kernel
theorem dX0_insert_66 : decode cX0_insert 66 = .ok (.iadd, 1) := by decide +kernel
theorem dX0_insert_67 : decode cX0_insert 67 = .ok (.putfield 22, 3) := by decide +kernel
theorem dX0_insert_70 : decode cX0_insert 70 = .ok (.iconst 1, 1) := by decide +kernel
theorem dX0_insert_71 : decode cX0_insert 71 = .ok (.ireturn, 1) := by decide +kernel
set_option maxRecDepth 20000 in
theorem ggX0_flowAt_X5_countLower : GoodIn wsX0_flowAt wsX5_countLower := goodIn_r _ [13] (by decide +kernel) (by decide +kernel)
set_option maxRecDepth 20000 in
theorem gX0_flowAt_X5_countLower_n25 : GoodIn wsX0_flowAt (wsX5_countLower) := ggX0_flowAt_X5_countLower
set_option maxRecDepth 20000 in
theorem ggX0_flowAt_X5_interpolate : GoodIn wsX0_flowAt wsX5_interpolate := goodIn_r _ [15] (by decide +kernel) (by decide +kernel)
set_option maxRecDepth 20000 in
theorem gX0_flowAt_X5_interpolate_n46 : GoodIn wsX0_flowAt (wsX5_interpolate) := ggX0_flowAt_X5_interpolate
theorem dX0_flowAt_0 : decode cX0_flowAt 0 = .ok (.aload_n 0, 1) := by decide +kernel
theorem dX0_flowAt_1 : decode cX0_flowAt 1 = .ok (.getfield 22, 3) := by decide +kernel
theorem dX0_flowAt_4 : decode cX0_flowAt 4 = .ok (.iconst 2, 1) := by decide +kernel
theorem dX0_flowAt_5 : decode cX0_flowAt 5 = .ok (.if_icmp .lt 13, 3) := by decide +kernel
theorem dX0_flowAt_8 : decode cX0_flowAt 8 = .ok (.iload_n 1, 1) := by decide +kernel
theorem dX0_flowAt_9 : decode cX0_flowAt 9 = .ok (.aload_n 0, 1) := by decide +kernel
theorem dX0_flowAt_10 : decode cX0_flowAt 10 = .ok (.getfield 15, 3) := by decide +kernel
theorem dX0_flowAt_13 : decode cX0_flowAt 13 = .ok (.iconst 0, 1) := by decide +kernel
theorem dX0_flowAt_14 : decode cX0_flowAt 14 = .ok (.iaload, 1) := by decide +kernel
theorem dX0_flowAt_15 : decode cX0_flowAt 15 = .ok (.if_icmp .ge 5, 3) := by decide +kernel
theorem dX0_flowAt_18 : decode cX0_flowAt 18 = .ok (.lconst 0, 1) := by decide +kernel
theorem dX0_flowAt_19 : decode cX0_flowAt 19 = .ok (.lreturn, 1) := by decide +kernel
theorem dX0_flowAt_20 : decode cX0_flowAt 20 = .ok (.aload_n 0, 1) := by decide +kernel
theorem dX0_flowAt_21 : decode cX0_flowAt 21 = .ok (.getfield 15, 3) := by decide +kernel
theorem dX0_flowAt_24 : decode cX0_flowAt 24 = .ok (.aload_n 0, 1) := by decide +kernel
theorem dX0_flowAt_25 : decode cX0_flowAt 25 = .ok (.getfield 22, 3) := by decide +kernel
theorem dX0_flowAt_28 : decode cX0_flowAt 28 = .ok (.iload_n 1, 1) := by decide +kernel
theorem dX0_flowAt_29 : decode cX0_flowAt 29 = .ok (.invokestatic 25, 3) := by decide +kernel
theorem dX0_flowAt_32 : decode cX0_flowAt 32 = .ok (.istore_n 2, 1) := by decide +kernel
theorem dX0_flowAt_33 : decode cX0_flowAt 33 = .ok (.iload_n 2, 1) := by decide +kernel
theorem dX0_flowAt_34 : decode cX0_flowAt 34 = .ok (.iconst 1, 1) := by decide +kernel
theorem dX0_flowAt_35 : decode cX0_flowAt 35 = .ok (.invokestatic 37, 3) := by decide +kernel
theorem dX0_flowAt_38 : decode cX0_flowAt 38 = .ok (.aload_n 0, 1) := by decide +kernel
theorem dX0_flowAt_39 : decode cX0_flowAt 39 = .ok (.getfield 22, 3) := by decide +kernel
theorem dX0_flowAt_42 : decode cX0_flowAt 42 = .ok (.iconst 1, 1) := by decide +kernel
theorem dX0_flowAt_43 : decode cX0_flowAt 43 = .ok (.isub, 1) := by decide +kernel
theorem dX0_flowAt_44 : decode cX0_flowAt 44 = .ok (.invokestatic 43, 3) := by decide +kernel
theorem dX0_flowAt_47 : decode cX0_flowAt 47 = .ok (.istore_n 2, 1) := by decide +kernel
theorem dX0_flowAt_48 : decode cX0_flowAt 48 = .ok (.iload_n 2, 1) := by decide +kernel
theorem dX0_flowAt_49 : decode cX0_flowAt 49 = .ok (.iconst 1, 1) := by decide +kernel
theorem dX0_flowAt_50 : decode cX0_flowAt 50 = .ok (.isub, 1) := by decide +kernel
theorem dX0_flowAt_51 : decode cX0_flowAt 51 = .ok (.istore_n 3, 1) := by decide +kernel
theorem dX0_flowAt_52 : decode cX0_flowAt 52 = .ok (.aload_n 0, 1) := by decide +kernel
theorem dX0_flowAt_53 : decode cX0_flowAt 53 = .ok (.getfield 19, 3) := by decide +kernel
theorem dX0_flowAt_56 : decode cX0_flowAt 56 = .ok (.iload_n 3, 1) := by decide +kernel
theorem dX0_flowAt_57 : decode cX0_flowAt 57 = .ok (.iaload, 1) := by decide +kernel
theorem dX0_flowAt_58 : decode cX0_flowAt 58 = .ok (.i2l, 1) := by decide +kernel
theorem dX0_flowAt_59 : decode cX0_flowAt 59 = .ok (.aload_n 0, 1) := by decide +kernel
theorem dX0_flowAt_60 : decode cX0_flowAt 60 = .ok (.getfield 19, 3) := by decide +kernel
theorem dX0_flowAt_63 : decode cX0_flowAt 63 = .ok (.iload_n 2, 1) := by decide +kernel
theorem dX0_flowAt_64 : decode cX0_flowAt 64 = .ok (.iaload, 1) := by decide +kernel
theorem dX0_flowAt_65 : decode cX0_flowAt 65 = .ok (.i2l, 1) := by decide +kernel
theorem dX0_flowAt_66 : decode cX0_flowAt 66 = .ok (.iload_n 1, 1) := by decide +kernel
theorem dX0_flowAt_67 : decode cX0_flowAt 67 = .ok (.aload_n 0, 1) := by decide +kernel
theorem dX0_flowAt_68 : decode cX0_flowAt 68 = .ok (.getfield 15, 3) := by decide +kernel
theorem dX0_flowAt_71 : decode cX0_flowAt 71 = .ok (.iload_n 3, 1) := by decide +kernel
theorem dX0_flowAt_72 : decode cX0_flowAt 72 = .ok (.iaload, 1) := by decide +kernel
theorem dX0_flowAt_73 : decode cX0_flowAt 73 = .ok (.isub, 1) := by decide +kernel
theorem dX0_flowAt_74 : decode cX0_flowAt 74 = .ok (.i2l, 1) := by decide +kernel
theorem dX0_flowAt_75 : decode cX0_flowAt 75 = .ok (.aload_n 0, 1) := by decide +kernel
theorem dX0_flowAt_76 : decode cX0_flowAt 76 = .ok (.getfield 15, 3) := by decide +kernel
theorem dX0_flowAt_79 : decode cX0_flowAt 79 = .ok (.iload_n 2, 1) := by decide +kernel
theorem dX0_flowAt_80 : decode cX0_flowAt 80 = .ok (.iaload, 1) := by decide +kernel
theorem dX0_flowAt_81 : decode cX0_flowAt 81 = .ok (.aload_n 0, 1) := by decide +kernel
theorem dX0_flowAt_82 : decode cX0_flowAt 82 = .ok (.getfield 15, 3) := by decide +kernel
theorem dX0_flowAt_85 : decode cX0_flowAt 85 = .ok (.iload_n 3, 1) := by decide +kernel
theorem dX0_flowAt_86 : decode cX0_flowAt 86 = .ok (.iaload, 1) := by decide +kernel
theorem dX0_flowAt_87 : decode cX0_flowAt 87 = .ok (.isub, 1) := by decide +kernel
theorem dX0_flowAt_88 : decode cX0_flowAt 88 = .ok (.i2l, 1) := by decide +kernel
theorem dX0_flowAt_89 : decode cX0_flowAt 89 = .ok (.invokestatic 46, 3) := by decide +kernel
theorem dX0_flowAt_92 : decode cX0_flowAt 92 = .ok (.lreturn, 1) := by decide +kernel
theorem dX0_fits_0 : decode cX0_fits 0 = .ok (.iload_n 1, 1) := by decide +kernel
theorem dX0_fits_1 : decode cX0_fits 1 = .ok (.ifCond .eq 15, 3) := by decide +kernel
theorem dX0_fits_4 : decode cX0_fits 4 = .ok (.aload_n 0, 1) := by decide +kernel
theorem dX0_fits_5 : decode cX0_fits 5 = .ok (.getfield 19, 3) := by decide +kernel
theorem dX0_fits_8 : decode cX0_fits 8 = .ok (.iload_n 1, 1) := by decide +kernel
theorem dX0_fits_9 : decode cX0_fits 9 = .ok (.iconst 1, 1) := by decide +kernel
theorem dX0_fits_10 : decode cX0_fits 10 = .ok (.isub, 1) := by decide +kernel
theorem dX0_fits_11 : decode cX0_fits 11 = .ok (.iaload, 1) := by decide +kernel
theorem dX0_fits_12 : decode cX0_fits 12 = .ok (.iload_n 3, 1) := by decide +kernel
theorem dX0_fits_13 : decode cX0_fits 13 = .ok (.if_icmp .ge 7, 3) := by decide +kernel
theorem dX0_fits_16 : decode cX0_fits 16 = .ok (.iconst 1, 1) := by decide +kernel
theorem dX0_fits_17 : decode cX0_fits 17 = .ok (.goto 4, 3) := by decide +kernel
theorem dX0_fits_20 : decode cX0_fits 20 = .ok (.iconst 0, 1) := by decide +kernel
theorem dX0_fits_21 : decode cX0_fits 21 = .ok (.istore 4, 2) := by decide +kernel
theorem dX0_fits_23 : decode cX0_fits 23 = .ok (.iload_n 1, 1) := by decide +kernel
theorem dX0_fits_24 : decode cX0_fits 24 = .ok (.aload_n 0, 1) := by decide +kernel
theorem dX0_fits_25 : decode cX0_fits 25 = .ok (.getfield 22, 3) := by decide +kernel
theorem dX0_fits_28 : decode cX0_fits 28 = .ok (.if_icmp .ge 23, 3) := by decide +kernel
theorem dX0_fits_31 : decode cX0_fits 31 = .ok (.aload_n 0, 1) := by decide +kernel
theorem dX0_fits_32 : decode cX0_fits 32 = .ok (.getfield 15, 3) := by decide +kernel
theorem dX0_fits_35 : decode cX0_fits 35 = .ok (.iload_n 1, 1) := by decide +kernel
theorem dX0_fits_36 : decode cX0_fits 36 = .ok (.iaload, 1) := by decide +kernel
theorem dX0_fits_37 : decode cX0_fits 37 = .ok (.iload_n 2, 1) := by decide +kernel
theorem dX0_fits_38 : decode cX0_fits 38 = .ok (.if_icmp .le 17, 3) := by decide +kernel
theorem dX0_fits_41 : decode cX0_fits 41 = .ok (.aload_n 0, 1) := by decide +kernel
theorem dX0_fits_42 : decode cX0_fits 42 = .ok (.getfield 19, 3) := by decide +kernel
theorem dX0_fits_45 : decode cX0_fits 45 = .ok (.iload_n 1, 1) := by decide +kernel
theorem dX0_fits_46 : decode cX0_fits 46 = .ok (.iaload, 1) := by decide +kernel
theorem dX0_fits_47 : decode cX0_fits 47 = .ok (.iload_n 3, 1) := by decide +kernel
theorem dX0_fits_48 : decode cX0_fits 48 = .ok (.if_icmp .le 7, 3) := by decide +kernel
theorem dX0_fits_51 : decode cX0_fits 51 = .ok (.iconst 1, 1) := by decide +kernel
theorem dX0_fits_52 : decode cX0_fits 52 = .ok (.goto 4, 3) := by decide +kernel
theorem dX0_fits_55 : decode cX0_fits 55 = .ok (.iconst 0, 1) := by decide +kernel
theorem dX0_fits_56 : decode cX0_fits 56 = .ok (.istore 5, 2) := by decide +kernel
theorem dX0_fits_58 : decode cX0_fits 58 = .ok (.iload 4, 2) := by decide +kernel
theorem dX0_fits_60 : decode cX0_fits 60 = .ok (.ifCond .eq 12, 3) := by decide +kernel
theorem dX0_fits_63 : decode cX0_fits 63 = .ok (.iload 5, 2) := by decide +kernel
theorem dX0_fits_65 : decode cX0_fits 65 = .ok (.ifCond .eq 7, 3) := by decide +kernel
theorem dX0_fits_68 : decode cX0_fits 68 = .ok (.iconst 1, 1) := by decide +kernel
theorem dX0_fits_69 : decode cX0_fits 69 = .ok (.goto 4, 3) := by decide +kernel
theorem dX0_fits_72 : decode cX0_fits 72 = .ok (.iconst 0, 1) := by decide +kernel
theorem dX0_fits_73 : decode cX0_fits 73 = .ok (.ireturn, 1) := by decide +kernel
theorem dX1_init_0 : decode cX1_init 0 = .ok (.aload_n 0, 1) := by decide +kernel
theorem dX1_init_1 : decode cX1_init 1 = .ok (.invokespecial 3, 3) := by decide +kernel
theorem dX1_init_4 : decode cX1_init 4 = .ok (.aload_n 0, 1) := by decide +kernel
theorem dX1_init_5 : decode cX1_init 5 = .ok (.sipush 400, 3) := by decide +kernel
theorem dX1_init_8 : decode cX1_init 8 = .ok (.newarray .long, 2) := by decide +kernel
theorem dX1_init_10 : decode cX1_init 10 = .ok (.putfield 9, 3) := by decide +kernel
theorem dX1_init_13 : decode cX1_init 13 = .ok (.aload_n 0, 1) := by decide +kernel
theorem dX1_init_14 : decode cX1_init 14 = .ok (.sipush 400, 3) := by decide +kernel
theorem dX1_init_17 : decode cX1_init 17 = .ok (.newarray .int, 2) := by decide +kernel
theorem dX1_init_19 : decode cX1_init 19 = .ok (.putfield 15, 3) := by decide +kernel
theorem dX1_init_22 : decode cX1_init 22 = .ok (.return_, 1) := by decide +kernel
theorem dX1_put_0 : decode cX1_put 0 = .ok (.iload_n 1, 1) := by decide +kernel
theorem dX1_put_1 : decode cX1_put 1 = .ok (.ifCond .lt 25, 3) := by decide +kernel
theorem dX1_put_4 : decode cX1_put 4 = .ok (.iload_n 1, 1) := by decide +kernel
theorem dX1_put_5 : decode cX1_put 5 = .ok (.sipush 400, 3) := by decide +kernel
theorem dX1_put_8 : decode cX1_put 8 = .ok (.if_icmp .ge 18, 3) := by decide +kernel
theorem dX1_put_11 : decode cX1_put 11 = .ok (.aload_n 0, 1) := by decide +kernel
theorem dX1_put_12 : decode cX1_put 12 = .ok (.getfield 9, 3) := by decide +kernel
theorem dX1_put_15 : decode cX1_put 15 = .ok (.iload_n 1, 1) := by decide +kernel
theorem dX1_put_16 : decode cX1_put 16 = .ok (.lload_n 2, 1) := by decide +kernel
theorem dX1_put_17 : decode cX1_put 17 = .ok (.lastore, 1) := by decide +kernel
theorem dX1_put_18 : decode cX1_put 18 = .ok (.aload_n 0, 1) := by decide +kernel
theorem dX1_put_19 : decode cX1_put 19 = .ok (.getfield 15, 3) := by decide +kernel
theorem dX1_put_22 : decode cX1_put 22 = .ok (.iload_n 1, 1) := by decide +kernel
theorem dX1_put_23 : decode cX1_put 23 = .ok (.iload 4, 2) := by decide +kernel
theorem dX1_put_25 : decode cX1_put 25 = .ok (.iastore, 1) := by decide +kernel
theorem dX1_put_26 : decode cX1_put 26 = .ok (.return_, 1) := by decide +kernel
theorem dX1_stateOn_0 : decode cX1_stateOn 0 = .ok (.iload_n 1, 1) := by decide +kernel
theorem dX1_stateOn_1 : decode cX1_stateOn 1 = .ok (.ifCond .lt 10, 3) := by decide +kernel
theorem dX1_stateOn_4 : decode cX1_stateOn 4 = .ok (.iload_n 1, 1) := by decide +kernel
theorem dX1_stateOn_5 : decode cX1_stateOn 5 = .ok (.sipush 400, 3) := by decide +kernel
theorem dX1_stateOn_8 : decode cX1_stateOn 8 = .ok (.if_icmp .lt 7, 3) := by decide +kernel
theorem dX1_stateOn_11 : decode cX1_stateOn 11 = .ok (.iconst 0, 1) := by decide +kernel
theorem dX1_stateOn_12 : decode cX1_stateOn 12 = .ok (.goto 9, 3) := by decide +kernel
theorem dX1_stateOn_15 : decode cX1_stateOn 15 = .ok (.aload_n 0, 1) := by decide +kernel
theorem dX1_stateOn_16 : decode cX1_stateOn 16 = .ok (.getfield 15, 3) := by decide +kernel
theorem dX1_stateOn_19 : decode cX1_stateOn 19 = .ok (.iload_n 1, 1) := by decide +kernel
theorem dX1_stateOn_20 : decode cX1_stateOn 20 = .ok (.iaload, 1) := by decide +kernel
theorem dX1_stateOn_21 : decode cX1_stateOn 21 = .ok (.ireturn, 1) := by decide +kernel
theorem dX1_flowOn_0 : decode cX1_flowOn 0 = .ok (.iload_n 1, 1) := by decide +kernel
theorem dX1_flowOn_1 : decode cX1_flowOn 1 = .ok (.ifCond .lt 10, 3) := by decide +kernel
theorem dX1_flowOn_4 : decode cX1_flowOn 4 = .ok (.iload_n 1, 1) := by decide +kernel
theorem dX1_flowOn_5 : decode cX1_flowOn 5 = .ok (.sipush 400, 3) := by decide +kernel
theorem dX1_flowOn_8 : decode cX1_flowOn 8 = .ok (.if_icmp .lt 9, 3) := by decide +kernel
theorem dX1_flowOn_11 : decode cX1_flowOn 11 = .ok (.ldc2_w 19, 3) := by decide +kernel
theorem dX1_flowOn_14 : decode cX1_flowOn 14 = .ok (.goto 9, 3) := by decide +kernel
theorem dX1_flowOn_17 : decode cX1_flowOn 17 = .ok (.aload_n 0, 1) := by decide +kernel
theorem dX1_flowOn_18 : decode cX1_flowOn 18 = .ok (.getfield 9, 3) := by decide +kernel
theorem dX1_flowOn_21 : decode cX1_flowOn 21 = .ok (.iload_n 1, 1) := by decide +kernel
theorem dX1_flowOn_22 : decode cX1_flowOn 22 = .ok (.laload, 1) := by decide +kernel
theorem dX1_flowOn_23 : decode cX1_flowOn 23 = .ok (.lreturn, 1) := by decide +kernel
set_option maxRecDepth 20000 in
theorem ggX1_hasFlow_X1_stateOn : GoodIn wsX1_hasFlow wsX1_stateOn := goodIn_r _ [5, 6, 7, 8] (by decide +kernel) (by decide +kernel)
set_option maxRecDepth 20000 in
theorem gX1_hasFlow_X1_stateOn : GoodIn wsX1_hasFlow (wsV RX1 21 RX1 yX1_stateOn wsX1_stateOn) := goodIn_app (goodIn_of _ (by decide +kernel)) ggX1_hasFlow_X1_stateOn
theorem dX1_hasFlow_0 : decode cX1_hasFlow 0 = .ok (.aload_n 0, 1) := by decide +kernel
theorem dX1_hasFlow_1 : decode cX1_hasFlow 1 = .ok (.iload_n 1, 1) := by decide +kernel
theorem dX1_hasFlow_2 : decode cX1_hasFlow 2 = .ok (.invokevirtual 21, 3) := by decide +kernel
theorem dX1_hasFlow_5 : decode cX1_hasFlow 5 = .ok (.ifCond .eq 7, 3) := by decide +kernel
theorem dX1_hasFlow_8 : decode cX1_hasFlow 8 = .ok (.iconst 1, 1) := by decide +kernel
theorem dX1_hasFlow_9 : decode cX1_hasFlow 9 = .ok (.goto 4, 3) := by decide +kernel
theorem dX1_hasFlow_12 : decode cX1_hasFlow 12 = .ok (.iconst 0, 1) := by decide +kernel
theorem dX1_hasFlow_13 : decode cX1_hasFlow 13 = .ok (.ireturn, 1) := by decide +kernel
set_option maxRecDepth 20000 in
theorem ggX1_fillGaps_X1_hasFlow : GoodIn wsX1_fillGaps wsX1_hasFlow := goodIn_r _ [5, 6, 7, 8, 4, 9, 10, 28, 29] (by decide +kernel) (by decide +kernel)
set_option maxRecDepth 20000 in
theorem gX1_fillGaps_X1_hasFlow : GoodIn wsX1_fillGaps (wsV RX1 25 RX1 yX1_hasFlow wsX1_hasFlow) := goodIn_app (goodIn_of _ (by decide +kernel)) ggX1_fillGaps_X1_hasFlow
set_option maxRecDepth 20000 in
theorem ggX1_fillGaps_X1_fillBetween : GoodIn wsX1_fillGaps wsX1_fillBetween := goodIn_r _ [14, 15, 16, 17, 4, 18, 19, 20, 21, 22, 23, 24, 25, 26, 27, 10, 28, 29] (by decide +kernel) (by decide +kernel)
set_option maxRecDepth 20000 in
theorem gX1_fillGaps_X1_fillBetween : GoodIn wsX1_fillGaps (wsV RX1 29 RX1 yX1_fillBetween wsX1_fillBetween) := goodIn_app (goodIn_of _ (by decide +kernel)) ggX1_fillGaps_X1_fillBetween
theorem dX1_fillGaps_0 : decode cX1_fillGaps 0 = .ok (.iconst (-1), 1) := by decide +kernel
theorem dX1_fillGaps_1 : decode cX1_fillGaps 1 = .ok (.istore_n 2, 1) := by decide +kernel
theorem dX1_fillGaps_2 : decode cX1_fillGaps 2 = .ok (.iconst 0, 1) := by decide +kernel
theorem dX1_fillGaps_3 : decode cX1_fillGaps 3 = .ok (.istore_n 3, 1) := by decide +kernel
theorem dX1_fillGaps_4 : decode cX1_fillGaps 4 = .ok (.iload_n 3, 1) := by decide +kernel
theorem dX1_fillGaps_5 : decode cX1_fillGaps 5 = .ok (.sipush 400, 3) := by decide +kernel
theorem dX1_fillGaps_8 : decode cX1_fillGaps 8 = .ok (.if_icmp .ge 39, 3) := by decide +kernel
theorem dX1_fillGaps_11 : decode cX1_fillGaps 11 = .ok (.aload_n 0, 1) := by decide +kernel
theorem dX1_fillGaps_12 : decode cX1_fillGaps 12 = .ok (.iload_n 3, 1) := by decide +kernel
theorem dX1_fillGaps_13 : decode cX1_fillGaps 13 = .ok (.invokevirtual 25, 3) := by decide +kernel
theorem dX1_fillGaps_16 : decode cX1_fillGaps 16 = .ok (.ifCond .eq 25, 3) := by decide +kernel
theorem dX1_fillGaps_19 : decode cX1_fillGaps 19 = .ok (.iload_n 2, 1) := by decide +kernel
theorem dX1_fillGaps_20 : decode cX1_fillGaps 20 = .ok (.iconst (-1), 1) := by decide +kernel
theorem dX1_fillGaps_21 : decode cX1_fillGaps 21 = .ok (.if_icmp .eq 18, 3) := by decide +kernel
theorem dX1_fillGaps_24 : decode cX1_fillGaps 24 = .ok (.iload_n 3, 1) := by decide +kernel
theorem dX1_fillGaps_25 : decode cX1_fillGaps 25 = .ok (.iload_n 2, 1) := by decide +kernel
theorem dX1_fillGaps_26 : decode cX1_fillGaps 26 = .ok (.isub, 1) := by decide +kernel
theorem dX1_fillGaps_27 : decode cX1_fillGaps 27 = .ok (.iconst 1, 1) := by decide +kernel
theorem dX1_fillGaps_28 : decode cX1_fillGaps 28 = .ok (.isub, 1) := by decide +kernel
theorem dX1_fillGaps_29 : decode cX1_fillGaps 29 = .ok (.iload_n 1, 1) := by decide +kernel
theorem dX1_fillGaps_30 : decode cX1_fillGaps 30 = .ok (.if_icmp .gt 9, 3) := by decide +kernel
theorem dX1_fillGaps_33 : decode cX1_fillGaps 33 = .ok (.aload_n 0, 1) := by decide +kernel
theorem dX1_fillGaps_34 : decode cX1_fillGaps 34 = .ok (.iload_n 2, 1) := by decide +kernel
theorem dX1_fillGaps_35 : decode cX1_fillGaps 35 = .ok (.iload_n 3, 1) := by decide +kernel
theorem dX1_fillGaps_36 : decode cX1_fillGaps 36 = .ok (.invokevirtual 29, 3) := by decide +kernel
theorem dX1_fillGaps_39 : decode cX1_fillGaps 39 = .ok (.iload_n 3, 1) := by decide +kernel
theorem dX1_fillGaps_40 : decode cX1_fillGaps 40 = .ok (.istore_n 2, 1) := by decide +kernel
theorem dX1_fillGaps_41 : decode cX1_fillGaps 41 = .ok (.iinc 3 1, 3) := by decide +kernel
theorem dX1_fillGaps_44 : decode cX1_fillGaps 44 = .ok (.goto (-40), 3) := by decide +kernel
theorem dX1_fillGaps_47 : decode cX1_fillGaps 47 = .ok (.return_, 1) := by decide +kernel
set_option maxRecDepth 20000 in
theorem ggX1_fillBetween_X1_flowOn : GoodIn wsX1_fillBetween wsX1_flowOn := goodIn_r _ [5, 6, 7, 16, 17] (by decide +kernel) (by decide +kernel)
set_option maxRecDepth 20000 in
theorem gX1_fillBetween_X1_flowOn : GoodIn wsX1_fillBetween (wsV RX1 33 RX1 yX1_flowOn wsX1_flowOn) := goodIn_app (goodIn_of _ (by decide +kernel)) ggX1_fillBetween_X1_flowOn
set_option maxRecDepth 20000 in
theorem ggX1_fillBetween_X5_interpolate : GoodIn wsX1_fillBetween wsX5_interpolate := goodIn_r _ [10] (by decide +kernel) (by decide +kernel)
set_option maxRecDepth 20000 in
theorem gX1_fillBetween_X5_interpolate_n37 : GoodIn wsX1_fillBetween (wsX5_interpolate) := ggX1_fillBetween_X5_interpolate
set_option maxRecDepth 20000 in
theorem ggX1_fillBetween_X1_put : GoodIn wsX1_fillBetween wsX1_put := goodIn_r _ [14, 7, 15, 16, 17] (by decide +kernel) (by decide +kernel)
set_option maxRecDepth 20000 in
theorem gX1_fillBetween_X1_put : GoodIn wsX1_fillBetween (wsV RX1 41 RX1 yX1_put wsX1_put) := goodIn_app (goodIn_of _ (by decide +kernel)) ggX1_fillBetween_X1_put
theorem dX1_fillBetween_0 : decode cX1_fillBetween 0 = .ok (.aload_n 0, 1) := by decide +kernel
theorem dX1_fillBetween_1 : decode cX1_fillBetween 1 = .ok (.iload_n 1, 1) := by decide +kernel
theorem dX1_fillBetween_2 : decode cX1_fillBetween 2 = .ok (.invokevirtual 33, 3) := by decide +kernel
theorem dX1_fillBetween_5 : decode cX1_fillBetween 5 = .ok (.lstore_n 3, 1) := by decide +kernel
theorem dX1_fillBetween_6 : decode cX1_fillBetween 6 = .ok (.aload_n 0, 1) := by decide +kernel
theorem dX1_fillBetween_7 : decode cX1_fillBetween 7 = .ok (.iload_n 2, 1) := by decide +kernel
theorem dX1_fillBetween_8 : decode cX1_fillBetween 8 = .ok (.invokevirtual 33, 3) := by decide +kernel
theorem dX1_fillBetween_11 : decode cX1_fillBetween 11 = .ok (.lstore 5, 2) := by decide +kernel
theorem dX1_fillBetween_13 : decode cX1_fillBetween 13 = .ok (.iload_n 1, 1) := by decide +kernel
theorem dX1_fillBetween_14 : decode cX1_fillBetween 14 = .ok (.iconst 1, 1) := by decide +kernel
theorem dX1_fillBetween_15 : decode cX1_fillBetween 15 = .ok (.iadd, 1) := by decide +kernel
theorem dX1_fillBetween_16 : decode cX1_fillBetween 16 = .ok (.istore 7, 2) := by decide +kernel
theorem dX1_fillBetween_18 : decode cX1_fillBetween 18 = .ok (.iload 7, 2) := by decide +kernel
theorem dX1_fillBetween_20 : decode cX1_fillBetween 20 = .ok (.iload_n 2, 1) := by decide +kernel
theorem dX1_fillBetween_21 : decode cX1_fillBetween 21 = .ok (.if_icmp .ge 31, 3) := by decide +kernel
theorem dX1_fillBetween_24 : decode cX1_fillBetween 24 = .ok (.aload_n 0, 1) := by decide +kernel
theorem dX1_fillBetween_25 : decode cX1_fillBetween 25 = .ok (.iload 7, 2) := by decide +kernel
theorem dX1_fillBetween_27 : decode cX1_fillBetween 27 = .ok (.lload_n 3, 1) := by decide +kernel
theorem dX1_fillBetween_28 : decode cX1_fillBetween 28 = .ok (.lload 5, 2) := by decide +kernel
theorem dX1_fillBetween_30 : decode cX1_fillBetween 30 = .ok (.iload 7, 2) := by decide +kernel
theorem dX1_fillBetween_32 : decode cX1_fillBetween 32 = .ok (.iload_n 1, 1) := by decide +kernel
theorem dX1_fillBetween_33 : decode cX1_fillBetween 33 = .ok (.isub, 1) := by decide +kernel
theorem dX1_fillBetween_34 : decode cX1_fillBetween 34 = .ok (.i2l, 1) := by decide +kernel
theorem dX1_fillBetween_35 : decode cX1_fillBetween 35 = .ok (.iload_n 2, 1) := by decide +kernel
theorem dX1_fillBetween_36 : decode cX1_fillBetween 36 = .ok (.iload_n 1, 1) := by decide +kernel
theorem dX1_fillBetween_37 : decode cX1_fillBetween 37 = .ok (.isub, 1) := by decide +kernel
theorem dX1_fillBetween_38 : decode cX1_fillBetween 38 = .ok (.i2l, 1) := by decide +kernel
theorem dX1_fillBetween_39 : decode cX1_fillBetween 39 = .ok (.invokestatic 37, 3) := by decide +kernel
theorem dX1_fillBetween_42 : decode cX1_fillBetween 42 = .ok (.iconst 3, 1) := by decide +kernel
theorem dX1_fillBetween_43 : decode cX1_fillBetween 43 = .ok (.invokevirtual 41, 3) := by decide +kernel
theorem dX1_fillBetween_46 : decode cX1_fillBetween 46 = .ok (.iinc 7 1, 3) := by decide +kernel
theorem dX1_fillBetween_49 : decode cX1_fillBetween 49 = .ok (.goto (-31), 3) := by decide +kernel
theorem dX1_fillBetween_52 : decode cX1_fillBetween 52 = .ok (.return_, 1) := by decide +kernel
set_option maxRecDepth 20000 in
theorem ggX1_daysWithFlow_X1_hasFlow : GoodIn wsX1_daysWithFlow wsX1_hasFlow := goodIn_r _ [5, 6, 7, 8, 4, 9, 10, 11, 12] (by decide +kernel) (by decide +kernel)
set_option maxRecDepth 20000 in
theorem gX1_daysWithFlow_X1_hasFlow : GoodIn wsX1_daysWithFlow (wsV RX1 25 RX1 yX1_hasFlow wsX1_hasFlow) := goodIn_app (goodIn_of _ (by decide +kernel)) ggX1_daysWithFlow_X1_hasFlow
theorem dX1_daysWithFlow_0 : decode cX1_daysWithFlow 0 = .ok (.iconst 0, 1) := by decide +kernel
theorem dX1_daysWithFlow_1 : decode cX1_daysWithFlow 1 = .ok (.istore_n 3, 1) := by decide +kernel
theorem dX1_daysWithFlow_2 : decode cX1_daysWithFlow 2 = .ok (.iload_n 1, 1) := by decide +kernel
theorem dX1_daysWithFlow_3 : decode cX1_daysWithFlow 3 = .ok (.istore 4, 2) := by decide +kernel
theorem dX1_daysWithFlow_5 : decode cX1_daysWithFlow 5 = .ok (.iload 4, 2) := by decide +kernel
theorem dX1_daysWithFlow_7 : decode cX1_daysWithFlow 7 = .ok (.iload_n 2, 1) := by decide +kernel
theorem dX1_daysWithFlow_8 : decode cX1_daysWithFlow 8 = .ok (.if_icmp .gt 21, 3) := by decide +kernel
theorem dX1_daysWithFlow_11 : decode cX1_daysWithFlow 11 = .ok (.aload_n 0, 1) := by decide +kernel
theorem dX1_daysWithFlow_12 : decode cX1_daysWithFlow 12 = .ok (.iload 4, 2) := by decide +kernel
theorem dX1_daysWithFlow_14 : decode cX1_daysWithFlow 14 = .ok (.invokevirtual 25, 3) := by decide +kernel
theorem dX1_daysWithFlow_17 : decode cX1_daysWithFlow 17 = .ok (.ifCond .eq 6, 3) := by decide +kernel
theorem dX1_daysWithFlow_20 : decode cX1_daysWithFlow 20 = .ok (.iinc 3 1, 3) := by decide +kernel
theorem dX1_daysWithFlow_23 : decode cX1_daysWithFlow 23 = .ok (.iinc 4 1, 3) := by decide +kernel
theorem dX1_daysWithFlow_26 : decode cX1_daysWithFlow 26 = .ok (.goto (-21), 3) := by decide +kernel
theorem dX1_daysWithFlow_29 : decode cX1_daysWithFlow 29 = .ok (.iload_n 3, 1) := by decide +kernel
theorem dX1_daysWithFlow_30 : decode cX1_daysWithFlow 30 = .ok (.ireturn, 1) := by decide +kernel
set_option maxRecDepth 20000 in
theorem ggX1_total_X1_hasFlow : GoodIn wsX1_total wsX1_hasFlow := goodIn_r _ [5, 6, 7, 8, 4, 9, 10, 17, 18] (by decide +kernel) (by decide +kernel)
set_option maxRecDepth 20000 in
theorem gX1_total_X1_hasFlow : GoodIn wsX1_total (wsV RX1 25 RX1 yX1_hasFlow wsX1_hasFlow) := goodIn_app (goodIn_of _ (by decide +kernel)) ggX1_total_X1_hasFlow
set_option maxRecDepth 20000 in
theorem ggX1_total_X1_flowOn : GoodIn wsX1_total wsX1_flowOn := goodIn_r _ [14, 15, 16, 17, 18] (by decide +kernel) (by decide +kernel)
set_option maxRecDepth 20000 in
theorem gX1_total_X1_flowOn : GoodIn wsX1_total (wsV RX1 33 RX1 yX1_flowOn wsX1_flowOn) := goodIn_app (goodIn_of _ (by decide +kernel)) ggX1_total_X1_flowOn
theorem dX1_total_0 : decode cX1_total 0 = .ok (.lconst 0, 1) := by decide +kernel
theorem dX1_total_1 : decode cX1_total 1 = .ok (.lstore_n 3, 1) := by decide +kernel
theorem dX1_total_2 : decode cX1_total 2 = .ok (.iload_n 1, 1) := by decide +kernel
theorem dX1_total_3 : decode cX1_total 3 = .ok (.istore 5, 2) := by decide +kernel
theorem dX1_total_5 : decode cX1_total 5 = .ok (.iload 5, 2) := by decide +kernel
theorem dX1_total_7 : decode cX1_total 7 = .ok (.iload_n 2, 1) := by decide +kernel
theorem dX1_total_8 : decode cX1_total 8 = .ok (.if_icmp .gt 27, 3) := by decide +kernel
theorem dX1_total_11 : decode cX1_total 11 = .ok (.aload_n 0, 1) := by decide +kernel
theorem dX1_total_12 : decode cX1_total 12 = .ok (.iload 5, 2) := by decide +kernel
theorem dX1_total_14 : decode cX1_total 14 = .ok (.invokevirtual 25, 3) := by decide +kernel
theorem dX1_total_17 : decode cX1_total 17 = .ok (.ifCond .eq 12, 3) := by decide +kernel
theorem dX1_total_20 : decode cX1_total 20 = .ok (.lload_n 3, 1) := by decide +kernel
theorem dX1_total_21 : decode cX1_total 21 = .ok (.aload_n 0, 1) := by decide +kernel
theorem dX1_total_22 : decode cX1_total 22 = .ok (.iload 5, 2) := by decide +kernel
theorem dX1_total_24 : decode cX1_total 24 = .ok (.invokevirtual 33, 3) := by decide +kernel
theorem dX1_total_27 : decode cX1_total 27 = .ok (.ladd, 1) := by decide +kernel
theorem dX1_total_28 : decode cX1_total 28 = .ok (.lstore_n 3, 1) := by decide +kernel
theorem dX1_total_29 : decode cX1_total 29 = .ok (.iinc 5 1, 3) := by decide +kernel
theorem dX1_total_32 : decode cX1_total 32 = .ok (.goto (-27), 3) := by decide +kernel
theorem dX1_total_35 : decode cX1_total 35 = .ok (.lload_n 3, 1) := by decide +kernel
theorem dX1_total_36 : decode cX1_total 36 = .ok (.lreturn, 1) := by decide +kernel
set_option maxRecDepth 20000 in
theorem ggX1_greatestDay_X1_hasFlow : GoodIn wsX1_greatestDay wsX1_hasFlow := goodIn_r _ [5, 6, 7, 8, 4, 9, 10, 17, 18] (by decide +kernel) (by decide +kernel)
set_option maxRecDepth 20000 in
theorem gX1_greatestDay_X1_hasFlow : GoodIn wsX1_greatestDay (wsV RX1 25 RX1 yX1_hasFlow wsX1_hasFlow) := goodIn_app (goodIn_of _ (by decide +kernel)) ggX1_greatestDay_X1_hasFlow
set_option maxRecDepth 20000 in
theorem ggX1_greatestDay_X1_flowOn : GoodIn wsX1_greatestDay wsX1_flowOn := goodIn_r _ [14, 15, 16, 17, 18] (by decide +kernel) (by decide +kernel)
set_option maxRecDepth 20000 in
theorem gX1_greatestDay_X1_flowOn : GoodIn wsX1_greatestDay (wsV RX1 33 RX1 yX1_flowOn wsX1_flowOn) := goodIn_app (goodIn_of _ (by decide +kernel)) ggX1_greatestDay_X1_flowOn
theorem dX1_greatestDay_0 : decode cX1_greatestDay 0 = .ok (.iconst (-1), 1) := by decide +kernel
theorem dX1_greatestDay_1 : decode cX1_greatestDay 1 = .ok (.istore_n 3, 1) := by decide +kernel
theorem dX1_greatestDay_2 : decode cX1_greatestDay 2 = .ok (.iload_n 1, 1) := by decide +kernel
theorem dX1_greatestDay_3 : decode cX1_greatestDay 3 = .ok (.istore 4, 2) := by decide +kernel
theorem dX1_greatestDay_5 : decode cX1_greatestDay 5 = .ok (.iload 4, 2) := by decide +kernel
theorem dX1_greatestDay_7 : decode cX1_greatestDay 7 = .ok (.iload_n 2, 1) := by decide +kernel
theorem dX1_greatestDay_8 : decode cX1_greatestDay 8 = .ok (.if_icmp .gt 36, 3) := by decide +kernel
theorem dX1_greatestDay_11 : decode cX1_greatestDay 11 = .ok (.aload_n 0, 1) := by decide +kernel
theorem dX1_greatestDay_12 : decode cX1_greatestDay 12 = .ok (.iload 4, 2) := by decide +kernel
theorem dX1_greatestDay_14 : decode cX1_greatestDay 14 = .ok (.invokevirtual 25, 3) := by decide +kernel
theorem dX1_greatestDay_17 : decode cX1_greatestDay 17 = .ok (.ifCond .eq 21, 3) := by decide +kernel
theorem dX1_greatestDay_20 : decode cX1_greatestDay 20 = .ok (.aload_n 0, 1) := by decide +kernel
theorem dX1_greatestDay_21 : decode cX1_greatestDay 21 = .ok (.iload 4, 2) := by decide +kernel
theorem dX1_greatestDay_23 : decode cX1_greatestDay 23 = .ok (.invokevirtual 33, 3) := by decide +kernel
theorem dX1_greatestDay_26 : decode cX1_greatestDay 26 = .ok (.aload_n 0, 1) := by decide +kernel
theorem dX1_greatestDay_27 : decode cX1_greatestDay 27 = .ok (.iload_n 3, 1) := by decide +kernel
theorem dX1_greatestDay_28 : decode cX1_greatestDay 28 = .ok (.invokevirtual 33, 3) := by decide +kernel
theorem dX1_greatestDay_31 : decode cX1_greatestDay 31 = .ok (.lcmp, 1) := by decide +kernel
theorem dX1_greatestDay_32 : decode cX1_greatestDay 32 = .ok (.ifCond .le 6, 3) := by decide +kernel
theorem dX1_greatestDay_35 : decode cX1_greatestDay 35 = .ok (.iload 4, 2) := by decide +kernel
theorem dX1_greatestDay_37 : decode cX1_greatestDay 37 = .ok (.istore_n 3, 1) := by decide +kernel
theorem dX1_greatestDay_38 : decode cX1_greatestDay 38 = .ok (.iinc 4 1, 3) := by decide +kernel
theorem dX1_greatestDay_41 : decode cX1_greatestDay 41 = .ok (.goto (-36), 3) := by decide +kernel
theorem dX1_greatestDay_44 : decode cX1_greatestDay 44 = .ok (.iload_n 3, 1) := by decide +kernel
theorem dX1_greatestDay_45 : decode cX1_greatestDay 45 = .ok (.ireturn, 1) := by decide +kernel
set_option maxRecDepth 20000 in
theorem ggX1_leastFlow_X1_hasFlow : GoodIn wsX1_leastFlow wsX1_hasFlow := goodIn_r _ [6, 7, 8, 9, 5, 10, 11, 17, 18] (by decide +kernel) (by decide +kernel)
set_option maxRecDepth 20000 in
theorem gX1_leastFlow_X1_hasFlow : GoodIn wsX1_leastFlow (wsV RX1 25 RX1 yX1_hasFlow wsX1_hasFlow) := goodIn_app (goodIn_of _ (by decide +kernel)) ggX1_leastFlow_X1_hasFlow
set_option maxRecDepth 20000 in
theorem ggX1_leastFlow_X1_flowOn : GoodIn wsX1_leastFlow wsX1_flowOn := goodIn_r _ [15, 1, 16, 17, 18] (by decide +kernel) (by decide +kernel)
set_option maxRecDepth 20000 in
theorem gX1_leastFlow_X1_flowOn : GoodIn wsX1_leastFlow (wsV RX1 33 RX1 yX1_flowOn wsX1_flowOn) := goodIn_app (goodIn_of _ (by decide +kernel)) ggX1_leastFlow_X1_flowOn
theorem dX1_leastFlow_0 : decode cX1_leastFlow 0 = .ok (.ldc2_w 19, 3) := by decide +kernel
theorem dX1_leastFlow_3 : decode cX1_leastFlow 3 = .ok (.lstore_n 3, 1) := by decide +kernel
theorem dX1_leastFlow_4 : decode cX1_leastFlow 4 = .ok (.iload_n 1, 1) := by decide +kernel
theorem dX1_leastFlow_5 : decode cX1_leastFlow 5 = .ok (.istore 5, 2) := by decide +kernel
theorem dX1_leastFlow_7 : decode cX1_leastFlow 7 = .ok (.iload 5, 2) := by decide +kernel
theorem dX1_leastFlow_9 : decode cX1_leastFlow 9 = .ok (.iload_n 2, 1) := by decide +kernel
theorem dX1_leastFlow_10 : decode cX1_leastFlow 10 = .ok (.if_icmp .gt 44, 3) := by decide +kernel
theorem dX1_leastFlow_13 : decode cX1_leastFlow 13 = .ok (.aload_n 0, 1) := by decide +kernel
theorem dX1_leastFlow_14 : decode cX1_leastFlow 14 = .ok (.iload 5, 2) := by decide +kernel
theorem dX1_leastFlow_16 : decode cX1_leastFlow 16 = .ok (.invokevirtual 25, 3) := by decide +kernel
theorem dX1_leastFlow_19 : decode cX1_leastFlow 19 = .ok (.ifCond .eq 29, 3) := by decide +kernel
theorem dX1_leastFlow_22 : decode cX1_leastFlow 22 = .ok (.lload_n 3, 1) := by decide +kernel
theorem dX1_leastFlow_23 : decode cX1_leastFlow 23 = .ok (.ldc2_w 19, 3) := by decide +kernel
theorem dX1_leastFlow_26 : decode cX1_leastFlow 26 = .ok (.lcmp, 1) := by decide +kernel
theorem dX1_leastFlow_27 : decode cX1_leastFlow 27 = .ok (.ifCond .eq 14, 3) := by decide +kernel
theorem dX1_leastFlow_30 : decode cX1_leastFlow 30 = .ok (.aload_n 0, 1) := by decide +kernel
theorem dX1_leastFlow_31 : decode cX1_leastFlow 31 = .ok (.iload 5, 2) := by decide +kernel
theorem dX1_leastFlow_33 : decode cX1_leastFlow 33 = .ok (.invokevirtual 33, 3) := by decide +kernel
theorem dX1_leastFlow_36 : decode cX1_leastFlow 36 = .ok (.lload_n 3, 1) := by decide +kernel
theorem dX1_leastFlow_37 : decode cX1_leastFlow 37 = .ok (.lcmp, 1) := by decide +kernel
theorem dX1_leastFlow_38 : decode cX1_leastFlow 38 = .ok (.ifCond .ge 10, 3) := by decide +kernel
theorem dX1_leastFlow_41 : decode cX1_leastFlow 41 = .ok (.aload_n 0, 1) := by decide +kernel
theorem dX1_leastFlow_42 : decode cX1_leastFlow 42 = .ok (.iload 5, 2) := by decide +kernel
theorem dX1_leastFlow_44 : decode cX1_leastFlow 44 = .ok (.invokevirtual 33, 3) := by decide +kernel
theorem dX1_leastFlow_47 : decode cX1_leastFlow 47 = .ok (.lstore_n 3, 1) := by decide +kernel
theorem dX1_leastFlow_48 : decode cX1_leastFlow 48 = .ok (.iinc 5 1, 3) := by decide +kernel
theorem dX1_leastFlow_51 : decode cX1_leastFlow 51 = .ok (.goto (-44), 3) := by decide +kernel
theorem dX1_leastFlow_54 : decode cX1_leastFlow 54 = .ok (.lload_n 3, 1) := by decide +kernel
theorem dX1_leastFlow_55 : decode cX1_leastFlow 55 = .ok (.lreturn, 1) := by decide +kernel
theorem dX3_init_0 : decode cX3_init 0 = .ok (.aload_n 0, 1) := by decide +kernel
theorem dX3_init_1 : decode cX3_init 1 = .ok (.invokespecial 3, 3) := by decide +kernel
theorem dX3_init_4 : decode cX3_init 4 = .ok (.aload_n 0, 1) := by decide +kernel
theorem dX3_init_5 : decode cX3_init 5 = .ok (.sipush 400, 3) := by decide +kernel
theorem dX3_init_8 : decode cX3_init 8 = .ok (.newarray .int, 2) := by decide +kernel
theorem dX3_init_10 : decode cX3_init 10 = .ok (.putfield 9, 3) := by decide +kernel
theorem dX3_init_13 : decode cX3_init 13 = .ok (.aload_n 0, 1) := by decide +kernel
theorem dX3_init_14 : decode cX3_init 14 = .ok (.sipush 400, 3) := by decide +kernel
theorem dX3_init_17 : decode cX3_init 17 = .ok (.newarray .int, 2) := by decide +kernel
theorem dX3_init_19 : decode cX3_init 19 = .ok (.putfield 15, 3) := by decide +kernel
theorem dX3_init_22 : decode cX3_init 22 = .ok (.aload_n 0, 1) := by decide +kernel
theorem dX3_init_23 : decode cX3_init 23 = .ok (.sipush 400, 3) := by decide +kernel
theorem dX3_init_26 : decode cX3_init 26 = .ok (.newarray .boolean, 2) := by decide +kernel
theorem dX3_init_28 : decode cX3_init 28 = .ok (.putfield 18, 3) := by decide +kernel
theorem dX3_init_31 : decode cX3_init 31 = .ok (.return_, 1) := by decide +kernel
theorem dX3_size_0 : decode cX3_size 0 = .ok (.aload_n 0, 1) := by decide +kernel
theorem dX3_size_1 : decode cX3_size 1 = .ok (.getfield 22, 3) := by decide +kernel
theorem dX3_size_4 : decode cX3_size 4 = .ok (.ireturn, 1) := by decide +kernel
theorem dX3_dayOfRank_0 : decode cX3_dayOfRank 0 = .ok (.iload_n 1, 1) := by decide +kernel
theorem dX3_dayOfRank_1 : decode cX3_dayOfRank 1 = .ok (.iconst 1, 1) := by decide +kernel
theorem dX3_dayOfRank_2 : decode cX3_dayOfRank 2 = .ok (.if_icmp .lt 11, 3) := by decide +kernel
theorem dX3_dayOfRank_5 : decode cX3_dayOfRank 5 = .ok (.iload_n 1, 1) := by decide +kernel
theorem dX3_dayOfRank_6 : decode cX3_dayOfRank 6 = .ok (.aload_n 0, 1) := by decide +kernel
theorem dX3_dayOfRank_7 : decode cX3_dayOfRank 7 = .ok (.getfield 22, 3) := by decide +kernel
theorem dX3_dayOfRank_10 : decode cX3_dayOfRank 10 = .ok (.if_icmp .le 7, 3) := by decide +kernel
theorem dX3_dayOfRank_13 : decode cX3_dayOfRank 13 = .ok (.iconst (-1), 1) := by decide +kernel
theorem dX3_dayOfRank_14 : decode cX3_dayOfRank 14 = .ok (.goto 11, 3) := by decide +kernel
theorem dX3_dayOfRank_17 : decode cX3_dayOfRank 17 = .ok (.aload_n 0, 1) := by decide +kernel
theorem dX3_dayOfRank_18 : decode cX3_dayOfRank 18 = .ok (.getfield 9, 3) := by decide +kernel
theorem dX3_dayOfRank_21 : decode cX3_dayOfRank 21 = .ok (.iload_n 1, 1) := by decide +kernel
theorem dX3_dayOfRank_22 : decode cX3_dayOfRank 22 = .ok (.iconst 1, 1) := by decide +kernel
theorem dX3_dayOfRank_23 : decode cX3_dayOfRank 23 = .ok (.isub, 1) := by decide +kernel
theorem dX3_dayOfRank_24 : decode cX3_dayOfRank 24 = .ok (.iaload, 1) := by decide +kernel
theorem dX3_dayOfRank_25 : decode cX3_dayOfRank 25 = .ok (.ireturn, 1) := by decide +kernel
set_option maxRecDepth 20000 in
theorem ggX3_rank_X1_hasFlow : GoodIn wsX3_rank wsX1_hasFlow := goodIn_r _ [7, 8, 9, 10, 6, 11, 12, 41, 42] (by decide +kernel) (by decide +kernel)
set_option maxRecDepth 20000 in
theorem gX3_rank_X1_hasFlow : GoodIn wsX3_rank (wsV RX3 26 RX1 yX1_hasFlow wsX1_hasFlow) := goodIn_app (goodIn_of _ (by decide +kernel)) ggX3_rank_X1_hasFlow
set_option maxRecDepth 20000 in
theorem ggX3_rank_X3_mergeRuns : GoodIn wsX3_rank wsX3_mergeRuns := goodIn_r _ [17, 1, 18, 19, 20, 21, 22, 2, 23, 24, 25, 26, 27, 28, 29, 16, 30, 31, 32, 33, 6, 34, 35, 36, 37, 38, 39, 40, 41, 42] (by decide +kernel) (by decide +kernel)
set_option maxRecDepth 20000 in
theorem gX3_rank_X3_mergeRuns : GoodIn wsX3_rank (wsV RX3 32 RX3 yX3_mergeRuns wsX3_mergeRuns) := goodIn_app (goodIn_of _ (by decide +kernel)) ggX3_rank_X3_mergeRuns
theorem dX3_rank_0 : decode cX3_rank 0 = .ok (.aload_n 0, 1) := by decide +kernel
theorem dX3_rank_1 : decode cX3_rank 1 = .ok (.iconst 0, 1) := by decide +kernel
theorem dX3_rank_2 : decode cX3_rank 2 = .ok (.putfield 22, 3) := by decide +kernel
theorem dX3_rank_5 : decode cX3_rank 5 = .ok (.iconst 0, 1) := by decide +kernel
theorem dX3_rank_6 : decode cX3_rank 6 = .ok (.istore_n 2, 1) := by decide +kernel
theorem dX3_rank_7 : decode cX3_rank 7 = .ok (.iload_n 2, 1) := by decide +kernel
theorem dX3_rank_8 : decode cX3_rank 8 = .ok (.sipush 400, 3) := by decide +kernel
theorem dX3_rank_11 : decode cX3_rank 11 = .ok (.if_icmp .ge 37, 3) := by decide +kernel
theorem dX3_rank_14 : decode cX3_rank 14 = .ok (.aload_n 1, 1) := by decide +kernel
theorem dX3_rank_15 : decode cX3_rank 15 = .ok (.iload_n 2, 1) := by decide +kernel
theorem dX3_rank_16 : decode cX3_rank 16 = .ok (.invokevirtual 26, 3) := by decide +kernel
theorem dX3_rank_19 : decode cX3_rank 19 = .ok (.ifCond .eq 23, 3) := by decide +kernel
theorem dX3_rank_22 : decode cX3_rank 22 = .ok (.aload_n 0, 1) := by decide +kernel
theorem dX3_rank_23 : decode cX3_rank 23 = .ok (.getfield 9, 3) := by decide +kernel
theorem dX3_rank_26 : decode cX3_rank 26 = .ok (.aload_n 0, 1) := by decide +kernel
theorem dX3_rank_27 : decode cX3_rank 27 = .ok (.getfield 22, 3) := by decide +kernel
theorem dX3_rank_30 : decode cX3_rank 30 = .ok (.iload_n 2, 1) := by decide +kernel
theorem dX3_rank_31 : decode cX3_rank 31 = .ok (.iastore, 1) := by decide +kernel
theorem dX3_rank_32 : decode cX3_rank 32 = .ok (.aload_n 0, 1) := by decide +kernel
theorem dX3_rank_33 : decode cX3_rank 33 = .ok (.dup, 1) := by decide +kernel
theorem dX3_rank_34 : decode cX3_rank 34 = .ok (.getfield 22, 3) := by decide +kernel
theorem dX3_rank_37 : decode cX3_rank 37 = .ok (.iconst 1, 1) := by decide +kernel
theorem dX3_rank_38 : decode cX3_rank 38 = .ok (.iadd, 1) := by decide +kernel
theorem dX3_rank_39 : decode cX3_rank 39 = .ok (.putfield 22, 3) := by decide +kernel
theorem dX3_rank_42 : decode cX3_rank 42 = .ok (.iinc 2 1, 3) := by decide +kernel
theorem dX3_rank_45 : decode cX3_rank 45 = .ok (.goto (-38), 3) := by decide +kernel
theorem dX3_rank_48 : decode cX3_rank 48 = .ok (.iconst 1, 1) := by decide +kernel
theorem dX3_rank_49 : decode cX3_rank 49 = .ok (.istore_n 2, 1) := by decide +kernel
theorem dX3_rank_50 : decode cX3_rank 50 = .ok (.iload_n 2, 1) := by decide +kernel
theorem dX3_rank_51 : decode cX3_rank 51 = .ok (.aload_n 0, 1) := by decide +kernel
theorem dX3_rank_52 : decode cX3_rank 52 = .ok (.getfield 22, 3) := by decide +kernel
theorem dX3_rank_55 : decode cX3_rank 55 = .ok (.if_icmp .ge 16, 3) := by decide +kernel
theorem dX3_rank_58 : decode cX3_rank 58 = .ok (.aload_n 0, 1) := by decide +kernel
theorem dX3_rank_59 : decode cX3_rank 59 = .ok (.aload_n 1, 1) := by decide +kernel
theorem dX3_rank_60 : decode cX3_rank 60 = .ok (.iload_n 2, 1) := by decide +kernel
theorem dX3_rank_61 : decode cX3_rank 61 = .ok (.invokevirtual 32, 3) := by decide +kernel
theorem dX3_rank_64 : decode cX3_rank 64 = .ok (.iload_n 2, 1) := by decide +kernel
theorem dX3_rank_65 : decode cX3_rank 65 = .ok (.iconst 2, 1) := by decide +kernel
theorem dX3_rank_66 : decode cX3_rank 66 = .ok (.imul, 1) := by decide +kernel
theorem dX3_rank_67 : decode cX3_rank 67 = .ok (.istore_n 2, 1) := by decide +kernel
theorem dX3_rank_68 : decode cX3_rank 68 = .ok (.goto (-18), 3) := by decide +kernel
theorem dX3_rank_71 : decode cX3_rank 71 = .ok (.return_, 1) := by decide +kernel
set_option maxRecDepth 20000 in
theorem ggX3_countPeaks_X3_clearPeaks : GoodIn wsX3_countPeaks wsX3_clearPeaks := goodIn_r _ [7, 2, 31, 32, 33, 34] (by decide +kernel) (by decide +kernel)
set_option maxRecDepth 20000 in
theorem gX3_countPeaks_X3_clearPeaks : GoodIn wsX3_countPeaks (wsV RX3 36 RX3 yX3_clearPeaks wsX3_clearPeaks) := goodIn_app (goodIn_of _ (by decide +kernel)) ggX3_countPeaks_X3_clearPeaks
set_option maxRecDepth 20000 in
theorem ggX3_countPeaks_X3_dayOfRank : GoodIn wsX3_countPeaks wsX3_dayOfRank := goodIn_r _ [11, 1, 12, 31, 32, 33, 34] (by decide +kernel) (by decide +kernel)
set_option maxRecDepth 20000 in
theorem gX3_countPeaks_X3_dayOfRank : GoodIn wsX3_countPeaks (wsV RX3 39 RX3 yX3_dayOfRank wsX3_dayOfRank) := goodIn_app (goodIn_of _ (by decide +kernel)) ggX3_countPeaks_X3_dayOfRank
set_option maxRecDepth 20000 in
theorem ggX3_countPeaks_X1_flowOn : GoodIn wsX3_countPeaks wsX1_flowOn := goodIn_r _ [17, 18, 19, 35, 36] (by decide +kernel) (by decide +kernel)
set_option maxRecDepth 20000 in
theorem gX3_countPeaks_X1_flowOn : GoodIn wsX3_countPeaks (wsV RX3 43 RX1 yX1_flowOn wsX1_flowOn) := goodIn_app (goodIn_of _ (by decide +kernel)) ggX3_countPeaks_X1_flowOn
set_option maxRecDepth 20000 in
theorem ggX3_countPeaks_X3_markNear : GoodIn wsX3_countPeaks wsX3_markNear := goodIn_r _ [23, 24, 25, 26, 27, 28, 29, 30, 2, 31, 32, 33, 34] (by decide +kernel) (by decide +kernel)
set_option maxRecDepth 20000 in
theorem gX3_countPeaks_X3_markNear : GoodIn wsX3_countPeaks (wsV RX3 47 RX3 yX3_markNear wsX3_markNear) := goodIn_app (goodIn_of _ (by decide +kernel)) ggX3_countPeaks_X3_markNear
theorem dX3_countPeaks_0 : decode cX3_countPeaks 0 = .ok (.aload_n 0, 1) := by decide +kernel
theorem dX3_countPeaks_1 : decode cX3_countPeaks 1 = .ok (.invokevirtual 36, 3) := by decide +kernel
theorem dX3_countPeaks_4 : decode cX3_countPeaks 4 = .ok (.iconst 0, 1) := by decide +kernel
theorem dX3_countPeaks_5 : decode cX3_countPeaks 5 = .ok (.istore 5, 2) := by decide +kernel
theorem dX3_countPeaks_7 : decode cX3_countPeaks 7 = .ok (.iconst 1, 1) := by decide +kernel
theorem dX3_countPeaks_8 : decode cX3_countPeaks 8 = .ok (.istore 6, 2) := by decide +kernel
theorem dX3_countPeaks_10 : decode cX3_countPeaks 10 = .ok (.iload 6, 2) := by decide +kernel
theorem dX3_countPeaks_12 : decode cX3_countPeaks 12 = .ok (.aload_n 0, 1) := by decide +kernel
theorem dX3_countPeaks_13 : decode cX3_countPeaks 13 = .ok (.getfield 22, 3) := by decide +kernel
theorem dX3_countPeaks_16 : decode cX3_countPeaks 16 = .ok (.if_icmp .gt 52, 3) := by decide +kernel
theorem dX3_countPeaks_19 : decode cX3_countPeaks 19 = .ok (.aload_n 0, 1) := by decide +kernel
theorem dX3_countPeaks_20 : decode cX3_countPeaks 20 = .ok (.iload 6, 2) := by decide +kernel
theorem dX3_countPeaks_22 : decode cX3_countPeaks 22 = .ok (.invokevirtual 39, 3) := by decide +kernel
theorem dX3_countPeaks_25 : decode cX3_countPeaks 25 = .ok (.istore 7, 2) := by decide +kernel
theorem dX3_countPeaks_27 : decode cX3_countPeaks 27 = .ok (.aload_n 1, 1) := by decide +kernel
theorem dX3_countPeaks_28 : decode cX3_countPeaks 28 = .ok (.iload 7, 2) := by decide +kernel
theorem dX3_countPeaks_30 : decode cX3_countPeaks 30 = .ok (.invokevirtual 43, 3) := by decide +kernel
theorem dX3_countPeaks_33 : decode cX3_countPeaks 33 = .ok (.lload_n 2, 1) := by decide +kernel
theorem dX3_countPeaks_34 : decode cX3_countPeaks 34 = .ok (.lcmp, 1) := by decide +kernel
theorem dX3_countPeaks_35 : decode cX3_countPeaks 35 = .ok (.ifCond .ge 6, 3) := by decide +kernel
theorem dX3_countPeaks_38 : decode cX3_countPeaks 38 = .ok (.goto 30, 3) := by decide +kernel
theorem dX3_countPeaks_41 : decode cX3_countPeaks 41 = .ok (.aload_n 0, 1) := by decide +kernel
theorem dX3_countPeaks_42 : decode cX3_countPeaks 42 = .ok (.getfield 18, 3) := by decide +kernel
theorem dX3_countPeaks_45 : decode cX3_countPeaks 45 = .ok (.iload 7, 2) := by decide +kernel
theorem dX3_countPeaks_47 : decode cX3_countPeaks 47 = .ok (.baload, 1) := by decide +kernel
theorem dX3_countPeaks_48 : decode cX3_countPeaks 48 = .ok (.ifCond .ne 14, 3) := by decide +kernel
theorem dX3_countPeaks_51 : decode cX3_countPeaks 51 = .ok (.iinc 5 1, 3) := by decide +kernel
theorem dX3_countPeaks_54 : decode cX3_countPeaks 54 = .ok (.aload_n 0, 1) := by decide +kernel
theorem dX3_countPeaks_55 : decode cX3_countPeaks 55 = .ok (.iload 7, 2) := by decide +kernel
theorem dX3_countPeaks_57 : decode cX3_countPeaks 57 = .ok (.iload 4, 2) := by decide +kernel
theorem dX3_countPeaks_59 : decode cX3_countPeaks 59 = .ok (.invokevirtual 47, 3) := by decide +kernel
theorem dX3_countPeaks_62 : decode cX3_countPeaks 62 = .ok (.iinc 6 1, 3) := by decide +kernel
theorem dX3_countPeaks_65 : decode cX3_countPeaks 65 = .ok (.goto (-55), 3) := by decide +kernel
theorem dX3_countPeaks_68 : decode cX3_countPeaks 68 = .ok (.iload 5, 2) := by decide +kernel
theorem dX3_countPeaks_70 : decode cX3_countPeaks 70 = .ok (.ireturn, 1) := by decide +kernel
set_option maxRecDepth 20000 in
theorem ggX3_mergeRuns_X3_merge : GoodIn wsX3_mergeRuns wsX3_merge := goodIn_r _ [16, 7, 6, 17, 18, 19, 20, 21, 22, 23, 24, 25, 26, 27, 28, 29] (by decide +kernel) (by decide +kernel)
set_option maxRecDepth 20000 in
theorem gX3_mergeRuns_X3_merge : GoodIn wsX3_mergeRuns (wsV RX3 57 RX3 yX3_merge wsX3_merge) := goodIn_app (goodIn_of _ (by decide +kernel)) ggX3_mergeRuns_X3_merge
theorem dX3_mergeRuns_0 : decode cX3_mergeRuns 0 = .ok (.iconst 0, 1) := by decide +kernel
theorem dX3_mergeRuns_1 : decode cX3_mergeRuns 1 = .ok (.istore_n 3, 1) := by decide +kernel
theorem dX3_mergeRuns_2 : decode cX3_mergeRuns 2 = .ok (.iload_n 3, 1) := by decide +kernel
theorem dX3_mergeRuns_3 : decode cX3_mergeRuns 3 = .ok (.aload_n 0, 1) := by decide +kernel
theorem dX3_mergeRuns_4 : decode cX3_mergeRuns 4 = .ok (.getfield 22, 3) := by decide +kernel
theorem dX3_mergeRuns_7 : decode cX3_mergeRuns 7 = .ok (.if_icmp .ge 48, 3) := by decide +kernel
theorem dX3_mergeRuns_10 : decode cX3_mergeRuns 10 = .ok (.iload_n 3, 1) := by decide +kernel
theorem dX3_mergeRuns_11 : decode cX3_mergeRuns 11 = .ok (.iload_n 2, 1) := by decide +kernel
theorem dX3_mergeRuns_12 : decode cX3_mergeRuns 12 = .ok (.iadd, 1) := by decide +kernel
theorem dX3_mergeRuns_13 : decode cX3_mergeRuns 13 = .ok (.aload_n 0, 1) := by decide +kernel
theorem dX3_mergeRuns_14 : decode cX3_mergeRuns 14 = .ok (.getfield 22, 3) := by decide +kernel
theorem dX3_mergeRuns_17 : decode cX3_mergeRuns 17 = .ok (.invokestatic 51, 3) := by decide +kernel
theorem dX3_mergeRuns_20 : decode cX3_mergeRuns 20 = .ok (.istore 4, 2) := by decide +kernel
theorem dX3_mergeRuns_22 : decode cX3_mergeRuns 22 = .ok (.iload_n 3, 1) := by decide +kernel
theorem dX3_mergeRuns_23 : decode cX3_mergeRuns 23 = .ok (.iconst 2, 1) := by decide +kernel
theorem dX3_mergeRuns_24 : decode cX3_mergeRuns 24 = .ok (.iload_n 2, 1) := by decide +kernel
theorem dX3_mergeRuns_25 : decode cX3_mergeRuns 25 = .ok (.imul, 1) := by decide +kernel
theorem dX3_mergeRuns_26 : decode cX3_mergeRuns 26 = .ok (.iadd, 1) := by decide +kernel
theorem dX3_mergeRuns_27 : decode cX3_mergeRuns 27 = .ok (.aload_n 0, 1) := by decide +kernel
theorem dX3_mergeRuns_28 : decode cX3_mergeRuns 28 = .ok (.getfield 22, 3) := by decide +kernel
theorem dX3_mergeRuns_31 : decode cX3_mergeRuns 31 = .ok (.invokestatic 51, 3) := by decide +kernel
theorem dX3_mergeRuns_34 : decode cX3_mergeRuns 34 = .ok (.istore 5, 2) := by decide +kernel
theorem dX3_mergeRuns_36 : decode cX3_mergeRuns 36 = .ok (.aload_n 0, 1) := by decide +kernel
theorem dX3_mergeRuns_37 : decode cX3_mergeRuns 37 = .ok (.aload_n 1, 1) := by decide +kernel
theorem dX3_mergeRuns_38 : decode cX3_mergeRuns 38 = .ok (.iload_n 3, 1) := by decide +kernel
theorem dX3_mergeRuns_39 : decode cX3_mergeRuns 39 = .ok (.iload 4, 2) := by decide +kernel
theorem dX3_mergeRuns_41 : decode cX3_mergeRuns 41 = .ok (.iload 5, 2) := by decide +kernel
theorem dX3_mergeRuns_43 : decode cX3_mergeRuns 43 = .ok (.invokevirtual 57, 3) := by decide +kernel
theorem dX3_mergeRuns_46 : decode cX3_mergeRuns 46 = .ok (.iload_n 3, 1) := by decide +kernel
theorem dX3_mergeRuns_47 : decode cX3_mergeRuns 47 = .ok (.iconst 2, 1) := by decide +kernel
theorem dX3_mergeRuns_48 : decode cX3_mergeRuns 48 = .ok (.iload_n 2, 1) := by decide +kernel
theorem dX3_mergeRuns_49 : decode cX3_mergeRuns 49 = .ok (.imul, 1) := by decide +kernel
theorem dX3_mergeRuns_50 : decode cX3_mergeRuns 50 = .ok (.iadd, 1) := by decide +kernel
theorem dX3_mergeRuns_51 : decode cX3_mergeRuns 51 = .ok (.istore_n 3, 1) := by decide +kernel
theorem dX3_mergeRuns_52 : decode cX3_mergeRuns 52 = .ok (.goto (-50), 3) := by decide +kernel
theorem dX3_mergeRuns_55 : decode cX3_mergeRuns 55 = .ok (.aload_n 0, 1) := by decide +kernel
theorem dX3_mergeRuns_56 : decode cX3_mergeRuns 56 = .ok (.getfield 15, 3) := by decide +kernel
theorem dX3_mergeRuns_59 : decode cX3_mergeRuns 59 = .ok (.iconst 0, 1) := by decide +kernel
theorem dX3_mergeRuns_60 : decode cX3_mergeRuns 60 = .ok (.aload_n 0, 1) := by decide +kernel
theorem dX3_mergeRuns_61 : decode cX3_mergeRuns 61 = .ok (.getfield 9, 3) := by decide +kernel
theorem dX3_mergeRuns_64 : decode cX3_mergeRuns 64 = .ok (.iconst 0, 1) := by decide +kernel
theorem dX3_mergeRuns_65 : decode cX3_mergeRuns 65 = .ok (.aload_n 0, 1) := by decide +kernel
theorem dX3_mergeRuns_66 : decode cX3_mergeRuns 66 = .ok (.getfield 22, 3) := by decide +kernel
theorem dX3_mergeRuns_69 : decode cX3_mergeRuns 69 = .ok (.invokestatic 61, 3) := by decide +kernel
theorem dX3_mergeRuns_72 : decode cX3_mergeRuns 72 = .ok (.return_, 1) := by decide +kernel
set_option maxRecDepth 20000 in
theorem ggX3_merge_X1_flowOn : GoodIn wsX3_merge wsX1_flowOn := goodIn_r _ [7, 8, 9, 14, 15] (by decide +kernel) (by decide +kernel)
set_option maxRecDepth 20000 in
theorem gX3_merge_X1_flowOn : GoodIn wsX3_merge (wsV RX3 43 RX1 yX1_flowOn wsX1_flowOn) := goodIn_app (goodIn_of _ (by decide +kernel)) ggX3_merge_X1_flowOn
theorem dX3_merge_0 : decode cX3_merge 0 = .ok (.iload_n 2, 1) := by decide +kernel
theorem dX3_merge_1 : decode cX3_merge 1 = .ok (.istore 5, 2) := by decide +kernel
theorem dX3_merge_3 : decode cX3_merge 3 = .ok (.iload_n 3, 1) := by decide +kernel
theorem dX3_merge_4 : decode cX3_merge 4 = .ok (.istore 6, 2) := by decide +kernel
theorem dX3_merge_6 : decode cX3_merge 6 = .ok (.iload_n 2, 1) := by decide +kernel
theorem dX3_merge_7 : decode cX3_merge 7 = .ok (.istore 7, 2) := by decide +kernel
theorem dX3_merge_9 : decode cX3_merge 9 = .ok (.iload 7, 2) := by decide +kernel
theorem dX3_merge_11 : decode cX3_merge 11 = .ok (.iload 4, 2) := by decide +kernel
theorem dX3_merge_13 : decode cX3_merge 13 = .ok (.if_icmp .ge 104, 3) := by decide +kernel
theorem dX3_merge_16 : decode cX3_merge 16 = .ok (.iload 5, 2) := by decide +kernel
theorem dX3_merge_18 : decode cX3_merge 18 = .ok (.iload_n 3, 1) := by decide +kernel
theorem dX3_merge_19 : decode cX3_merge 19 = .ok (.if_icmp .ge 40, 3) := by decide +kernel
theorem dX3_merge_22 : decode cX3_merge 22 = .ok (.iload 6, 2) := by decide +kernel
theorem dX3_merge_24 : decode cX3_merge 24 = .ok (.iload 4, 2) := by decide +kernel
theorem dX3_merge_26 : decode cX3_merge 26 = .ok (.if_icmp .ge 29, 3) := by decide +kernel
theorem dX3_merge_29 : decode cX3_merge 29 = .ok (.aload_n 1, 1) := by decide +kernel
theorem dX3_merge_30 : decode cX3_merge 30 = .ok (.aload_n 0, 1) := by decide +kernel
theorem dX3_merge_31 : decode cX3_merge 31 = .ok (.getfield 9, 3) := by decide +kernel
theorem dX3_merge_34 : decode cX3_merge 34 = .ok (.iload 5, 2) := by decide +kernel
theorem dX3_merge_36 : decode cX3_merge 36 = .ok (.iaload, 1) := by decide +kernel
theorem dX3_merge_37 : decode cX3_merge 37 = .ok (.invokevirtual 43, 3) := by decide +kernel
theorem dX3_merge_40 : decode cX3_merge 40 = .ok (.aload_n 1, 1) := by decide +kernel
theorem dX3_merge_41 : decode cX3_merge 41 = .ok (.aload_n 0, 1) := by decide +kernel
theorem dX3_merge_42 : decode cX3_merge 42 = .ok (.getfield 9, 3) := by decide +kernel
theorem dX3_merge_45 : decode cX3_merge 45 = .ok (.iload 6, 2) := by decide +kernel
theorem dX3_merge_47 : decode cX3_merge 47 = .ok (.iaload, 1) := by decide +kernel
theorem dX3_merge_48 : decode cX3_merge 48 = .ok (.invokevirtual 43, 3) := by decide +kernel
theorem dX3_merge_51 : decode cX3_merge 51 = .ok (.lcmp, 1) := by decide +kernel
theorem dX3_merge_52 : decode cX3_merge 52 = .ok (.ifCond .lt 7, 3) := by decide +kernel
theorem dX3_merge_55 : decode cX3_merge 55 = .ok (.iconst 1, 1) := by decide +kernel
theorem dX3_merge_56 : decode cX3_merge 56 = .ok (.goto 4, 3) := by decide +kernel
theorem dX3_merge_59 : decode cX3_merge 59 = .ok (.iconst 0, 1) := by decide +kernel
theorem dX3_merge_60 : decode cX3_merge 60 = .ok (.istore 8, 2) := by decide +kernel
theorem dX3_merge_62 : decode cX3_merge 62 = .ok (.iload 8, 2) := by decide +kernel
theorem dX3_merge_64 : decode cX3_merge 64 = .ok (.ifCond .eq 23, 3) := by decide +kernel
theorem dX3_merge_67 : decode cX3_merge 67 = .ok (.aload_n 0, 1) := by decide +kernel
theorem dX3_merge_68 : decode cX3_merge 68 = .ok (.getfield 15, 3) := by decide +kernel
theorem dX3_merge_71 : decode cX3_merge 71 = .ok (.iload 7, 2) := by decide +kernel
theorem dX3_merge_73 : decode cX3_merge 73 = .ok (.aload_n 0, 1) := by decide +kernel
theorem dX3_merge_74 : decode cX3_merge 74 = .ok (.getfield 9, 3) := by decide +kernel
theorem dX3_merge_77 : decode cX3_merge 77 = .ok (.iload 5, 2) := by decide +kernel
theorem dX3_merge_79 : decode cX3_merge 79 = .ok (.iaload, 1) := by decide +kernel
theorem dX3_merge_80 : decode cX3_merge 80 = .ok (.iastore, 1) := by decide +kernel
theorem dX3_merge_81 : decode cX3_merge 81 = .ok (.iinc 5 1, 3) := by decide +kernel
theorem dX3_merge_84 : decode cX3_merge 84 = .ok (.goto 27, 3) := by decide +kernel
theorem dX3_merge_87 : decode cX3_merge 87 = .ok (.iload 6, 2) := by decide +kernel
theorem dX3_merge_89 : decode cX3_merge 89 = .ok (.iload 4, 2) := by decide +kernel
theorem dX3_merge_91 : decode cX3_merge 91 = .ok (.if_icmp .ge 20, 3) := by decide +kernel
theorem dX3_merge_94 : decode cX3_merge 94 = .ok (.aload_n 0, 1) := by decide +kernel
theorem dX3_merge_95 : decode cX3_merge 95 = .ok (.getfield 15, 3) := by decide +kernel
theorem dX3_merge_98 : decode cX3_merge 98 = .ok (.iload 7, 2) := by decide +kernel
theorem dX3_merge_100 : decode cX3_merge 100 = .ok (.aload_n 0, 1) := by decide +kernel
theorem dX3_merge_101 : decode cX3_merge 101 = .ok (.getfield 9, 3) := by decide +kernel
theorem dX3_merge_104 : decode cX3_merge 104 = .ok (.iload 6, 2) := by decide +kernel
theorem dX3_merge_106 : decode cX3_merge 106 = .ok (.iaload, 1) := by decide +kernel
theorem dX3_merge_107 : decode cX3_merge 107 = .ok (.iastore, 1) := by decide +kernel
theorem dX3_merge_108 : decode cX3_merge 108 = .ok (.iinc 6 1, 3) := by decide +kernel
theorem dX3_merge_111 : decode cX3_merge 111 = .ok (.iinc 7 1, 3) := by decide +kernel
theorem dX3_merge_114 : decode cX3_merge 114 = .ok (.goto (-105), 3) := by decide +kernel
theorem dX3_merge_117 : decode cX3_merge 117 = .ok (.return_, 1) := by decide +kernel
theorem dX3_clearPeaks_0 : decode cX3_clearPeaks 0 = .ok (.iconst 0, 1) := by decide +kernel
theorem dX3_clearPeaks_1 : decode cX3_clearPeaks 1 = .ok (.istore_n 1, 1) := by decide +kernel
theorem dX3_clearPeaks_2 : decode cX3_clearPeaks 2 = .ok (.iload_n 1, 1) := by decide +kernel
theorem dX3_clearPeaks_3 : decode cX3_clearPeaks 3 = .ok (.sipush 400, 3) := by decide +kernel
theorem dX3_clearPeaks_6 : decode cX3_clearPeaks 6 = .ok (.if_icmp .ge 16, 3) := by decide +kernel
theorem dX3_clearPeaks_9 : decode cX3_clearPeaks 9 = .ok (.aload_n 0, 1) := by decide +kernel
theorem dX3_clearPeaks_10 : decode cX3_clearPeaks 10 = .ok (.getfield 18, 3) := by decide +kernel
theorem dX3_clearPeaks_13 : decode cX3_clearPeaks 13 = .ok (.iload_n 1, 1) := by decide +kernel
theorem dX3_clearPeaks_14 : decode cX3_clearPeaks 14 = .ok (.iconst 0, 1) := by decide +kernel
theorem dX3_clearPeaks_15 : decode cX3_clearPeaks 15 = .ok (.bastore, 1) := by decide +kernel
theorem dX3_clearPeaks_16 : decode cX3_clearPeaks 16 = .ok (.iinc 1 1, 3) := by decide +kernel
theorem dX3_clearPeaks_19 : decode cX3_clearPeaks 19 = .ok (.goto (-17), 3) := by decide +kernel
theorem dX3_clearPeaks_22 : decode cX3_clearPeaks 22 = .ok (.return_, 1) := by decide +kernel
theorem dX3_markNear_0 : decode cX3_markNear 0 = .ok (.iconst 0, 1) := by decide +kernel
theorem dX3_markNear_1 : decode cX3_markNear 1 = .ok (.iload_n 1, 1) := by decide +kernel
theorem dX3_markNear_2 : decode cX3_markNear 2 = .ok (.iload_n 2, 1) := by decide +kernel
theorem dX3_markNear_3 : decode cX3_markNear 3 = .ok (.isub, 1) := by decide +kernel
theorem dX3_markNear_4 : decode cX3_markNear 4 = .ok (.iconst 1, 1) := by decide +kernel
theorem dX3_markNear_5 : decode cX3_markNear 5 = .ok (.iadd, 1) := by decide +kernel
theorem dX3_markNear_6 : decode cX3_markNear 6 = .ok (.invokestatic 67, 3) := by decide +kernel
theorem dX3_markNear_9 : decode cX3_markNear 9 = .ok (.istore_n 3, 1) := by decide +kernel
theorem dX3_markNear_10 : decode cX3_markNear 10 = .ok (.sipush 399, 3) := by decide +kernel
theorem dX3_markNear_13 : decode cX3_markNear 13 = .ok (.iload_n 1, 1) := by decide +kernel
theorem dX3_markNear_14 : decode cX3_markNear 14 = .ok (.iload_n 2, 1) := by decide +kernel
theorem dX3_markNear_15 : decode cX3_markNear 15 = .ok (.iadd, 1) := by decide +kernel
theorem dX3_markNear_16 : decode cX3_markNear 16 = .ok (.iconst 1, 1) := by decide +kernel
theorem dX3_markNear_17 : decode cX3_markNear 17 = .ok (.isub, 1) := by decide +kernel
theorem dX3_markNear_18 : decode cX3_markNear 18 = .ok (.invokestatic 51, 3) := by decide +kernel
theorem dX3_markNear_21 : decode cX3_markNear 21 = .ok (.istore 4, 2) := by decide +kernel
theorem dX3_markNear_23 : decode cX3_markNear 23 = .ok (.iload_n 3, 1) := by decide +kernel
theorem dX3_markNear_24 : decode cX3_markNear 24 = .ok (.istore 5, 2) := by decide +kernel
theorem dX3_markNear_26 : decode cX3_markNear 26 = .ok (.iload 5, 2) := by decide +kernel
theorem dX3_markNear_28 : decode cX3_markNear 28 = .ok (.iload 4, 2) := by decide +kernel
theorem dX3_markNear_30 : decode cX3_markNear 30 = .ok (.if_icmp .gt 17, 3) := by decide +kernel
theorem dX3_markNear_33 : decode cX3_markNear 33 = .ok (.aload_n 0, 1) := by decide +kernel
theorem dX3_markNear_34 : decode cX3_markNear 34 = .ok (.getfield 18, 3) := by decide +kernel
theorem dX3_markNear_37 : decode cX3_markNear 37 = .ok (.iload 5, 2) := by decide +kernel
theorem dX3_markNear_39 : decode cX3_markNear 39 = .ok (.iconst 1, 1) := by decide +kernel
theorem dX3_markNear_40 : decode cX3_markNear 40 = .ok (.bastore, 1) := by decide +kernel
theorem dX3_markNear_41 : decode cX3_markNear 41 = .ok (.iinc 5 1, 3) := by decide +kernel
theorem dX3_markNear_44 : decode cX3_markNear 44 = .ok (.goto (-18), 3) := by decide +kernel
theorem dX3_markNear_47 : decode cX3_markNear 47 = .ok (.return_, 1) := by decide +kernel
theorem dX4_init_0 : decode cX4_init 0 = .ok (.aload_n 0, 1) := by decide +kernel
theorem dX4_init_1 : decode cX4_init 1 = .ok (.invokespecial 1, 3) := by decide +kernel
theorem dX4_init_4 : decode cX4_init 4 = .ok (.aload_n 0, 1) := by decide +kernel
theorem dX4_init_5 : decode cX4_init 5 = .ok (.bipush 20, 2) := by decide +kernel
theorem dX4_init_7 : decode cX4_init 7 = .ok (.newarray .int, 2) := by decide +kernel
theorem dX4_init_9 : decode cX4_init 9 = .ok (.putfield 9, 3) := by decide +kernel
theorem dX4_init_12 : decode cX4_init 12 = .ok (.aload_n 0, 1) := by decide +kernel
theorem dX4_init_13 : decode cX4_init 13 = .ok (.bipush 20, 2) := by decide +kernel
theorem dX4_init_15 : decode cX4_init 15 = .ok (.newarray .int, 2) := by decide +kernel
theorem dX4_init_17 : decode cX4_init 17 = .ok (.putfield 13, 3) := by decide +kernel
theorem dX4_init_20 : decode cX4_init 20 = .ok (.return_, 1) := by decide +kernel
set_option maxRecDepth 20000 in
theorem ggX4_on_X5_countLower : GoodIn wsX4_on wsX5_countLower := goodIn_r _ [6] (by decide +kernel) (by decide +kernel)
set_option maxRecDepth 20000 in
theorem gX4_on_X5_countLower_n20 : GoodIn wsX4_on (wsX5_countLower) := ggX4_on_X5_countLower
set_option maxRecDepth 20000 in
theorem ggX4_on_X5_interpolate : GoodIn wsX4_on wsX5_interpolate := goodIn_r _ [8] (by decide +kernel) (by decide +kernel)
set_option maxRecDepth 20000 in
theorem gX4_on_X5_interpolate_n26 : GoodIn wsX4_on (wsX5_interpolate) := ggX4_on_X5_interpolate
theorem dX4_on_0 : decode cX4_on 0 = .ok (.aload_n 0, 1) := by decide +kernel
theorem dX4_on_1 : decode cX4_on 1 = .ok (.getfield 16, 3) := by decide +kernel
theorem dX4_on_4 : decode cX4_on 4 = .ok (.ifCond .ne 5, 3) := by decide +kernel
theorem dX4_on_7 : decode cX4_on 7 = .ok (.iconst 0, 1) := by decide +kernel
theorem dX4_on_8 : decode cX4_on 8 = .ok (.ireturn, 1) := by decide +kernel
theorem dX4_on_9 : decode cX4_on 9 = .ok (.aload_n 0, 1) := by decide +kernel
theorem dX4_on_10 : decode cX4_on 10 = .ok (.getfield 9, 3) := by decide +kernel
theorem dX4_on_13 : decode cX4_on 13 = .ok (.aload_n 0, 1) := by decide +kernel
theorem dX4_on_14 : decode cX4_on 14 = .ok (.getfield 16, 3) := by decide +kernel
theorem dX4_on_17 : decode cX4_on 17 = .ok (.iload_n 1, 1) := by decide +kernel
theorem dX4_on_18 : decode cX4_on 18 = .ok (.invokestatic 20, 3) := by decide +kernel
theorem dX4_on_21 : decode cX4_on 21 = .ok (.istore_n 2, 1) := by decide +kernel
theorem dX4_on_22 : decode cX4_on 22 = .ok (.iload_n 2, 1) := by decide +kernel
theorem dX4_on_23 : decode cX4_on 23 = .ok (.aload_n 0, 1) := by decide +kernel
theorem dX4_on_24 : decode cX4_on 24 = .ok (.getfield 16, 3) := by decide +kernel
theorem dX4_on_27 : decode cX4_on 27 = .ok (.if_icmp .lt 15, 3) := by decide +kernel
theorem dX4_on_30 : decode cX4_on 30 = .ok (.aload_n 0, 1) := by decide +kernel
theorem dX4_on_31 : decode cX4_on 31 = .ok (.getfield 13, 3) := by decide +kernel
theorem dX4_on_34 : decode cX4_on 34 = .ok (.aload_n 0, 1) := by decide +kernel
theorem dX4_on_35 : decode cX4_on 35 = .ok (.getfield 16, 3) := by decide +kernel
theorem dX4_on_38 : decode cX4_on 38 = .ok (.iconst 1, 1) := by decide +kernel
theorem dX4_on_39 : decode cX4_on 39 = .ok (.isub, 1) := by decide +kernel
theorem dX4_on_40 : decode cX4_on 40 = .ok (.iaload, 1) := by decide +kernel
theorem dX4_on_41 : decode cX4_on 41 = .ok (.ireturn, 1) := by decide +kernel
theorem dX4_on_42 : decode cX4_on 42 = .ok (.iload_n 2, 1) := by decide +kernel
theorem dX4_on_43 : decode cX4_on 43 = .ok (.ifCond .ne 10, 3) := by decide +kernel
theorem dX4_on_46 : decode cX4_on 46 = .ok (.aload_n 0, 1) := by decide +kernel
theorem dX4_on_47 : decode cX4_on 47 = .ok (.getfield 13, 3) := by decide +kernel
theorem dX4_on_50 : decode cX4_on 50 = .ok (.iconst 0, 1) := by decide +kernel
theorem dX4_on_51 : decode cX4_on 51 = .ok (.iaload, 1) := by decide +kernel
theorem dX4_on_52 : decode cX4_on 52 = .ok (.ireturn, 1) := by decide +kernel
theorem dX4_on_53 : decode cX4_on 53 = .ok (.iload_n 2, 1) := by decide +kernel
theorem dX4_on_54 : decode cX4_on 54 = .ok (.iconst 1, 1) := by decide +kernel
theorem dX4_on_55 : decode cX4_on 55 = .ok (.isub, 1) := by decide +kernel
theorem dX4_on_56 : decode cX4_on 56 = .ok (.istore_n 3, 1) := by decide +kernel
theorem dX4_on_57 : decode cX4_on 57 = .ok (.aload_n 0, 1) := by decide +kernel
theorem dX4_on_58 : decode cX4_on 58 = .ok (.getfield 13, 3) := by decide +kernel
theorem dX4_on_61 : decode cX4_on 61 = .ok (.iload_n 3, 1) := by decide +kernel
theorem dX4_on_62 : decode cX4_on 62 = .ok (.iaload, 1) := by decide +kernel
theorem dX4_on_63 : decode cX4_on 63 = .ok (.i2l, 1) := by decide +kernel
theorem dX4_on_64 : decode cX4_on 64 = .ok (.aload_n 0, 1) := by decide +kernel
theorem dX4_on_65 : decode cX4_on 65 = .ok (.getfield 13, 3) := by decide +kernel
theorem dX4_on_68 : decode cX4_on 68 = .ok (.iload_n 2, 1) := by decide +kernel
theorem dX4_on_69 : decode cX4_on 69 = .ok (.iaload, 1) := by decide +kernel
theorem dX4_on_70 : decode cX4_on 70 = .ok (.i2l, 1) := by decide +kernel
theorem dX4_on_71 : decode cX4_on 71 = .ok (.iload_n 1, 1) := by decide +kernel
theorem dX4_on_72 : decode cX4_on 72 = .ok (.aload_n 0, 1) := by decide +kernel
theorem dX4_on_73 : decode cX4_on 73 = .ok (.getfield 9, 3) := by decide +kernel
theorem dX4_on_76 : decode cX4_on 76 = .ok (.iload_n 3, 1) := by decide +kernel
theorem dX4_on_77 : decode cX4_on 77 = .ok (.iaload, 1) := by decide +kernel
theorem dX4_on_78 : decode cX4_on 78 = .ok (.isub, 1) := by decide +kernel
theorem dX4_on_79 : decode cX4_on 79 = .ok (.i2l, 1) := by decide +kernel
theorem dX4_on_80 : decode cX4_on 80 = .ok (.aload_n 0, 1) := by decide +kernel
theorem dX4_on_81 : decode cX4_on 81 = .ok (.getfield 9, 3) := by decide +kernel
theorem dX4_on_84 : decode cX4_on 84 = .ok (.iload_n 2, 1) := by decide +kernel
theorem dX4_on_85 : decode cX4_on 85 = .ok (.iaload, 1) := by decide +kernel
theorem dX4_on_86 : decode cX4_on 86 = .ok (.aload_n 0, 1) := by decide +kernel
theorem dX4_on_87 : decode cX4_on 87 = .ok (.getfield 9, 3) := by decide +kernel
theorem dX4_on_90 : decode cX4_on 90 = .ok (.iload_n 3, 1) := by decide +kernel
theorem dX4_on_91 : decode cX4_on 91 = .ok (.iaload, 1) := by decide +kernel
theorem dX4_on_92 : decode cX4_on 92 = .ok (.isub, 1) := by decide +kernel
theorem dX4_on_93 : decode cX4_on 93 = .ok (.i2l, 1) := by decide +kernel
theorem dX4_on_94 : decode cX4_on 94 = .ok (.invokestatic 26, 3) := by decide +kernel
theorem dX4_on_97 : decode cX4_on 97 = .ok (.l2i, 1) := by decide +kernel
theorem dX4_on_98 : decode cX4_on 98 = .ok (.ireturn, 1) := by decide +kernel
set_option maxRecDepth 20000 in
theorem ggX4_tell_X5_countLower : GoodIn wsX4_tell wsX5_countLower := goodIn_r _ [6] (by decide +kernel) (by decide +kernel)
set_option maxRecDepth 20000 in
theorem gX4_tell_X5_countLower_n20 : GoodIn wsX4_tell (wsX5_countLower) := ggX4_tell_X5_countLower
set_option maxRecDepth 20000 in
theorem ggX4_tell_X5_insertInto : GoodIn wsX4_tell wsX5_insertInto := goodIn_r _ [8] (by decide +kernel) (by decide +kernel)
set_option maxRecDepth 20000 in
theorem gX4_tell_X5_insertInto_n30 : GoodIn wsX4_tell (wsX5_insertInto) := ggX4_tell_X5_insertInto
theorem dX4_tell_0 : decode cX4_tell 0 = .ok (.aload_n 0, 1) := by decide +kernel
theorem dX4_tell_1 : decode cX4_tell 1 = .ok (.getfield 9, 3) := by decide +kernel
theorem dX4_tell_4 : decode cX4_tell 4 = .ok (.aload_n 0, 1) := by decide +kernel
theorem dX4_tell_5 : decode cX4_tell 5 = .ok (.getfield 16, 3) := by decide +kernel
theorem dX4_tell_8 : decode cX4_tell 8 = .ok (.iload_n 1, 1) := by decide +kernel
theorem dX4_tell_9 : decode cX4_tell 9 = .ok (.invokestatic 20, 3) := by decide +kernel
theorem dX4_tell_12 : decode cX4_tell 12 = .ok (.istore_n 3, 1) := by decide +kernel
theorem dX4_tell_13 : decode cX4_tell 13 = .ok (.iload_n 3, 1) := by decide +kernel
theorem dX4_tell_14 : decode cX4_tell 14 = .ok (.aload_n 0, 1) := by decide +kernel
theorem dX4_tell_15 : decode cX4_tell 15 = .ok (.getfield 16, 3) := by decide +kernel
theorem dX4_tell_18 : decode cX4_tell 18 = .ok (.if_icmp .ge 22, 3) := by decide +kernel
theorem dX4_tell_21 : decode cX4_tell 21 = .ok (.aload_n 0, 1) := by decide +kernel
theorem dX4_tell_22 : decode cX4_tell 22 = .ok (.getfield 9, 3) := by decide +kernel
theorem dX4_tell_25 : decode cX4_tell 25 = .ok (.iload_n 3, 1) := by decide +kernel
theorem dX4_tell_26 : decode cX4_tell 26 = .ok (.iaload, 1) := by decide +kernel
theorem dX4_tell_27 : decode cX4_tell 27 = .ok (.iload_n 1, 1) := by decide +kernel
theorem dX4_tell_28 : decode cX4_tell 28 = .ok (.if_icmp .ne 12, 3) := by decide +kernel
theorem dX4_tell_31 : decode cX4_tell 31 = .ok (.aload_n 0, 1) := by decide +kernel
theorem dX4_tell_32 : decode cX4_tell 32 = .ok (.getfield 13, 3) := by decide +kernel
theorem dX4_tell_35 : decode cX4_tell 35 = .ok (.iload_n 3, 1) := by decide +kernel
theorem dX4_tell_36 : decode cX4_tell 36 = .ok (.iload_n 2, 1) := by decide +kernel
theorem dX4_tell_37 : decode cX4_tell 37 = .ok (.iastore, 1) := by decide +kernel
theorem dX4_tell_38 : decode cX4_tell 38 = .ok (.iconst 1, 1) := by decide +kernel
theorem dX4_tell_39 : decode cX4_tell 39 = .ok (.ireturn, 1) := by decide +kernel
theorem dX4_tell_40 : decode cX4_tell 40 = .ok (.aload_n 0, 1) := by decide +kernel
theorem dX4_tell_41 : decode cX4_tell 41 = .ok (.getfield 16, 3) := by decide +kernel
theorem dX4_tell_44 : decode cX4_tell 44 = .ok (.bipush 20, 2) := by decide +kernel
theorem dX4_tell_46 : decode cX4_tell 46 = .ok (.if_icmp .lt 5, 3) := by decide +kernel
theorem dX4_tell_49 : decode cX4_tell 49 = .ok (.iconst 0, 1) := by decide +kernel
theorem dX4_tell_50 : decode cX4_tell 50 = .ok (.ireturn, 1) := by decide +kernel
theorem dX4_tell_51 : decode cX4_tell 51 = .ok (.aload_n 0, 1) := by decide +kernel
theorem dX4_tell_52 : decode cX4_tell 52 = .ok (.getfield 9, 3) := by decide +kernel
theorem dX4_tell_55 : decode cX4_tell 55 = .ok (.aload_n 0, 1) := by decide +kernel
theorem dX4_tell_56 : decode cX4_tell 56 = .ok (.getfield 16, 3) := by decide +kernel
theorem dX4_tell_59 : decode cX4_tell 59 = .ok (.iload_n 3, 1) := by decide +kernel
theorem dX4_tell_60 : decode cX4_tell 60 = .ok (.iload_n 1, 1) := by decide +kernel
theorem dX4_tell_61 : decode cX4_tell 61 = .ok (.invokestatic 30, 3) := by decide +kernel
theorem dX4_tell_64 : decode cX4_tell 64 = .ok (.aload_n 0, 1) := by decide +kernel
theorem dX4_tell_65 : decode cX4_tell 65 = .ok (.getfield 13, 3) := by decide +kernel
theorem dX4_tell_68 : decode cX4_tell 68 = .ok (.aload_n 0, 1) := by decide +kernel
theorem dX4_tell_69 : decode cX4_tell 69 = .ok (.getfield 16, 3) := by decide +kernel
theorem dX4_tell_72 : decode cX4_tell 72 = .ok (.iload_n 3, 1) := by decide +kernel
theorem dX4_tell_73 : decode cX4_tell 73 = .ok (.iload_n 2, 1) := by decide +kernel
theorem dX4_tell_74 : decode cX4_tell 74 = .ok (.invokestatic 30, 3) := by decide +kernel
theorem dX4_tell_77 : decode cX4_tell 77 = .ok (.aload_n 0, 1) := by decide +kernel
theorem dX4_tell_78 : decode cX4_tell 78 = .ok (.dup, 1) := by decide +kernel
theorem dX4_tell_79 : decode cX4_tell 79 = .ok (.getfield 16, 3) := by decide +kernel
theorem dX4_tell_82 : decode cX4_tell 82 = .ok (.iconst 1, 1) := by decide +kernel
theorem dX4_tell_83 : decode cX4_tell 83 = .ok (.iadd, 1) := by decide +kernel
theorem dX4_tell_84 : decode cX4_tell 84 = .ok (.putfield 16, 3) := by decide +kernel
theorem dX4_tell_87 : decode cX4_tell 87 = .ok (.iconst 1, 1) := by decide +kernel
theorem dX4_tell_88 : decode cX4_tell 88 = .ok (.ireturn, 1) := by decide +kernel
set_option maxRecDepth 20000 in
theorem ggX5_init_X4_init : GoodIn wsX5_init wsX4_init := goodIn_r _ [29, 30, 2, 3, 10, 31, 32, 60, 61, 62] (by decide +kernel) (by decide +kernel)
set_option maxRecDepth 20000 in
theorem gX5_init_X4_init : GoodIn wsX5_init (wsX4_init) := ggX5_init_X4_init
set_option maxRecDepth 20000 in
theorem ggX5_init_X1_init : GoodIn wsX5_init wsX1_init := goodIn_r _ [35, 36, 2, 3, 37, 38, 10, 39, 63, 64] (by decide +kernel) (by decide +kernel)
set_option maxRecDepth 20000 in
theorem gX5_init_X1_init : GoodIn wsX5_init (wsX1_init) := ggX5_init_X1_init
set_option maxRecDepth 20000 in
theorem ggX5_init_X3_init : GoodIn wsX5_init wsX3_init := goodIn_r _ [42, 43, 2, 3, 10, 44, 45, 12, 46, 65, 66, 67, 68] (by decide +kernel) (by decide +kernel)
set_option maxRecDepth 20000 in
theorem gX5_init_X3_init : GoodIn wsX5_init (wsX3_init) := ggX5_init_X3_init
