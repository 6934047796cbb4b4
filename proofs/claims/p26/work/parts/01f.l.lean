theorem dL_below_0 : decode cL_below 0 = .ok (.iload_n 0, 1) := by decide +kernel
theorem dL_below_1 : decode cL_below 1 = .ok (.ldc 7, 2) := by decide +kernel
theorem dL_below_3 : decode cL_below 3 = .ok (.iand, 1) := by decide +kernel
theorem dL_below_4 : decode cL_below 4 = .ok (.iload_n 1, 1) := by decide +kernel
theorem dL_below_5 : decode cL_below 5 = .ok (.irem, 1) := by decide +kernel
theorem dL_below_6 : decode cL_below 6 = .ok (.ireturn, 1) := by decide +kernel
theorem dL_cell_0 : decode cL_cell 0 = .ok (.iload_n 1, 1) := by decide +kernel
theorem dL_cell_1 : decode cL_cell 1 = .ok (.aload_n 0, 1) := by decide +kernel
theorem dL_cell_2 : decode cL_cell 2 = .ok (.arraylength, 1) := by decide +kernel
theorem dL_cell_3 : decode cL_cell 3 = .ok (.if_icmp .ge 9, 3) := by decide +kernel
theorem dL_cell_6 : decode cL_cell 6 = .ok (.aload_n 0, 1) := by decide +kernel
theorem dL_cell_7 : decode cL_cell 7 = .ok (.iload_n 1, 1) := by decide +kernel
theorem dL_cell_8 : decode cL_cell 8 = .ok (.iaload, 1) := by decide +kernel
theorem dL_cell_9 : decode cL_cell 9 = .ok (.goto 9, 3) := by decide +kernel
theorem dL_cell_12 : decode cL_cell 12 = .ok (.ldc 8, 2) := by decide +kernel
theorem dL_cell_14 : decode cL_cell 14 = .ok (.iload_n 1, 1) := by decide +kernel
theorem dL_cell_15 : decode cL_cell 15 = .ok (.iconst 3, 1) := by decide +kernel
theorem dL_cell_16 : decode cL_cell 16 = .ok (.iadd, 1) := by decide +kernel
theorem dL_cell_17 : decode cL_cell 17 = .ok (.imul, 1) := by decide +kernel
theorem dL_cell_18 : decode cL_cell 18 = .ok (.ireturn, 1) := by decide +kernel
set_option maxRecDepth 20000 in
theorem ggL_build_X6_init : GoodIn wsL_build wsX6_init := goodIn_r _ [11, 12, 13, 14, 15, 16, 17, 18, 19, 20, 21, 22, 151, 152, 153, 154, 155] (by decide +kernel) (by decide +kernel)
set_option maxRecDepth 20000 in
theorem gL_build_X6_init : GoodIn wsL_build (wsX6_init) := ggL_build_X6_init
set_option maxRecDepth 20000 in
theorem ggL_build_L_cell : GoodIn wsL_build wsL_cell := goodIn_r _ [26, 27] (by decide +kernel) (by decide +kernel)
set_option maxRecDepth 20000 in
theorem gL_build_L_cell : GoodIn wsL_build (va_wsS RL 12 yL_cell wsL_cell) := goodIn_app (goodIn_of _ (by decide +kernel)) ggL_build_L_cell
set_option maxRecDepth 20000 in
theorem ggL_build_L_below : GoodIn wsL_build wsL_below := goodIn_r _ [30, 31] (by decide +kernel) (by decide +kernel)
set_option maxRecDepth 20000 in
theorem gL_build_L_below : GoodIn wsL_build (va_wsS RL 18 yL_below wsL_below) := goodIn_app (goodIn_of _ (by decide +kernel)) ggL_build_L_below
set_option maxRecDepth 20000 in
theorem ggL_build_X5_addCurve : GoodIn wsL_build wsX5_addCurve := goodIn_ca (goodIn_ca (goodIn_r _ [36, 37, 38, 39, 40, 41, 42, 43, 44, 45, 46, 35, 47, 48, 49, 50, 51, 52, 53, 54, 55, 56, 57, 58, 59, 60, 61, 62, 63, 64, 65, 13, 14, 66, 16, 67, 68, 156, 157, 158, 159, 160, 161, 162, 163, 164, 165, 166, 167, 168, 169, 170, 171, 172] (by decide +kernel) (by decide +kernel)) (goodIn_sub (fun _ h => List.mem_cons_of_mem _ (List.mem_append_left _ (List.mem_append_left _ (List.mem_append_right _ h)))) (by decide +kernel))) (goodIn_sub (fun _ h => List.mem_cons_of_mem _ (List.mem_append_left _ (List.mem_append_right _ h))) (by decide +kernel))
set_option maxRecDepth 20000 in
theorem gL_build_X5_addCurve : GoodIn wsL_build (wsV RL 22 RX5 yX5_addCurve wsX5_addCurve) := goodIn_app (goodIn_of _ (by decide +kernel)) ggL_build_X5_addCurve
set_option maxRecDepth 20000 in
theorem ggL_build_X5_addPoint : GoodIn wsL_build wsX5_addPoint := goodIn_ca (goodIn_ca (goodIn_ca (goodIn_r _ [72, 73, 74, 37, 38, 44, 58, 59, 60, 35, 61, 39, 40, 75, 76, 77, 48, 49, 78, 79, 80, 81, 82, 83, 84, 85, 86, 43, 87, 67, 88, 68, 89, 90, 91, 92, 93, 94, 95, 96, 97, 98, 99, 100, 156, 157, 158, 159, 160, 161, 162, 163, 164, 165, 166, 167, 168, 169, 170, 171, 172] (by decide +kernel) (by decide +kernel)) (goodIn_sub (fun _ h => List.mem_cons_of_mem _ (List.mem_append_right _ h)) (by decide +kernel))) (goodIn_sub (fun _ h => List.mem_cons_of_mem _ (List.mem_append_left _ (List.mem_append_left _ (List.mem_append_right _ h)))) (by decide +kernel))) (goodIn_sub (fun _ h => List.mem_cons_of_mem _ (List.mem_append_left _ (List.mem_append_right _ h))) (by decide +kernel))
set_option maxRecDepth 20000 in
theorem gL_build_X5_addPoint : GoodIn wsL_build (wsV RL 36 RX5 yX5_addPoint wsX5_addPoint) := goodIn_app (goodIn_of _ (by decide +kernel)) ggL_build_X5_addPoint
set_option maxRecDepth 20000 in
theorem ggL_build_X5_setShift : GoodIn wsL_build wsX5_setShift := goodIn_ca (goodIn_ca (goodIn_r _ [104, 48, 49, 37, 38, 105, 44, 45, 46, 35, 47, 106, 107, 108, 109, 110, 111, 112, 113, 89, 90, 114, 115, 116, 117, 118, 119, 95, 96, 156, 157, 158, 159, 160, 161, 162, 163, 164, 165, 166, 167, 168, 173, 174, 175] (by decide +kernel) (by decide +kernel)) (goodIn_sub (fun _ h => List.mem_cons_of_mem _ (List.mem_append_left _ (List.mem_append_right _ h))) (by decide +kernel))) (goodIn_sub (fun _ h => List.mem_cons_of_mem _ (List.mem_append_left _ (List.mem_append_left _ (List.mem_append_right _ h)))) (by decide +kernel))
set_option maxRecDepth 20000 in
theorem gL_build_X5_setShift : GoodIn wsL_build (wsV RL 40 RX5 yX5_setShift wsX5_setShift) := goodIn_app (goodIn_of _ (by decide +kernel)) ggL_build_X5_setShift
set_option maxRecDepth 20000 in
theorem ggL_build_X6_shift : GoodIn wsL_build wsX6_shift := goodIn_r _ [123, 18, 151, 152, 153, 154, 155] (by decide +kernel) (by decide +kernel)
set_option maxRecDepth 20000 in
theorem gL_build_X6_shift : GoodIn wsL_build (wsV RL 43 RX6 yX6_shift wsX6_shift) := goodIn_app (goodIn_of _ (by decide +kernel)) ggL_build_X6_shift
set_option maxRecDepth 20000 in
theorem ggL_build_X5_read : GoodIn wsL_build wsX5_read := goodIn_ca (goodIn_r _ [127, 128, 129, 44, 130, 131, 35, 132, 48, 49, 45, 46, 47, 75, 76, 77, 78, 79, 133, 134, 135, 156, 157, 158, 159, 160, 161, 162, 163, 164, 165, 166, 167, 168] (by decide +kernel) (by decide +kernel)) (goodIn_sub (fun _ h => List.mem_cons_of_mem _ (List.mem_append_left _ (List.mem_append_right _ h))) (by decide +kernel))
set_option maxRecDepth 20000 in
theorem gL_build_X5_read : GoodIn wsL_build (wsV RL 52 RX5 yX5_read wsX5_read) := goodIn_app (goodIn_of _ (by decide +kernel)) ggL_build_X5_read
set_option maxRecDepth 20000 in
theorem ggL_build_X5_erase : GoodIn wsL_build wsX5_erase := goodIn_ca (goodIn_r _ [139, 128, 44, 130, 131, 35, 132, 48, 49, 45, 46, 47, 133, 134, 135, 156, 157, 158, 159, 160, 161, 162, 163, 164, 165, 166, 167, 168] (by decide +kernel) (by decide +kernel)) (goodIn_sub (fun _ h => List.mem_cons_of_mem _ (List.mem_append_left _ (List.mem_append_right _ h))) (by decide +kernel))
set_option maxRecDepth 20000 in
theorem gL_build_X5_erase : GoodIn wsL_build (wsV RL 56 RX5 yX5_erase wsX5_erase) := goodIn_app (goodIn_of _ (by decide +kernel)) ggL_build_X5_erase
set_option maxRecDepth 20000 in
theorem ggL_build_X5_freeze : GoodIn wsL_build wsX5_freeze := goodIn_ca (goodIn_r _ [143, 144, 44, 130, 131, 35, 132, 48, 49, 45, 46, 47, 133, 134, 135, 156, 157, 158, 159, 160, 161, 162, 163, 164, 165, 166, 167, 168] (by decide +kernel) (by decide +kernel)) (goodIn_sub (fun _ h => List.mem_cons_of_mem _ (List.mem_append_left _ (List.mem_append_right _ h))) (by decide +kernel))
set_option maxRecDepth 20000 in
theorem gL_build_X5_freeze : GoodIn wsL_build (wsV RL 63 RX5 yX5_freeze wsX5_freeze) := goodIn_app (goodIn_of _ (by decide +kernel)) ggL_build_X5_freeze
set_option maxRecDepth 20000 in
theorem ggL_build_X5_setRules : GoodIn wsL_build wsX5_setRules := goodIn_ca (goodIn_r _ [148, 48, 49, 149, 150, 44, 156, 157, 158, 159, 160, 161, 162, 163, 164, 165, 166, 167, 168] (by decide +kernel) (by decide +kernel)) (goodIn_sub (fun _ h => List.mem_cons_of_mem _ (List.mem_append_left _ (List.mem_append_right _ h))) (by decide +kernel))
set_option maxRecDepth 20000 in
theorem gL_build_X5_setRules : GoodIn wsL_build (wsV RL 67 RX5 yX5_setRules wsX5_setRules) := goodIn_app (goodIn_of _ (by decide +kernel)) ggL_build_X5_setRules
theorem dL_build_0 : decode cL_build 0 = .ok (.new 9, 3) := by decide +kernel
theorem dL_build_3 : decode cL_build 3 = .ok (.dup, 1) := by decide +kernel
theorem dL_build_4 : decode cL_build 4 = .ok (.invokespecial 11, 3) := by decide +kernel
theorem dL_build_7 : decode cL_build 7 = .ok (.astore_n 3, 1) := by decide +kernel
theorem dL_build_8 : decode cL_build 8 = .ok (.aload_n 1, 1) := by decide +kernel
theorem dL_build_9 : decode cL_build 9 = .ok (.iload_n 2, 1) := by decide +kernel
theorem dL_build_10 : decode cL_build 10 = .ok (.invokestatic 12, 3) := by decide +kernel
theorem dL_build_13 : decode cL_build 13 = .ok (.iconst 4, 1) := by decide +kernel
theorem dL_build_14 : decode cL_build 14 = .ok (.invokestatic 18, 3) := by decide +kernel
theorem dL_build_17 : decode cL_build 17 = .ok (.istore 4, 2) := by decide +kernel
theorem dL_build_19 : decode cL_build 19 = .ok (.iconst 0, 1) := by decide +kernel
theorem dL_build_20 : decode cL_build 20 = .ok (.istore 5, 2) := by decide +kernel
theorem dL_build_22 : decode cL_build 22 = .ok (.iload 5, 2) := by decide +kernel
theorem dL_build_24 : decode cL_build 24 = .ok (.iload 4, 2) := by decide +kernel
theorem dL_build_26 : decode cL_build 26 = .ok (.if_icmp .ge 355, 3) := by decide +kernel
theorem dL_build_29 : decode cL_build 29 = .ok (.aload_n 1, 1) := by decide +kernel
theorem dL_build_30 : decode cL_build 30 = .ok (.iload_n 2, 1) := by decide +kernel
theorem dL_build_31 : decode cL_build 31 = .ok (.iconst 1, 1) := by decide +kernel
theorem dL_build_32 : decode cL_build 32 = .ok (.iadd, 1) := by decide +kernel
theorem dL_build_33 : decode cL_build 33 = .ok (.iload 5, 2) := by decide +kernel
theorem dL_build_35 : decode cL_build 35 = .ok (.iadd, 1) := by decide +kernel
theorem dL_build_36 : decode cL_build 36 = .ok (.invokestatic 12, 3) := by decide +kernel
theorem dL_build_39 : decode cL_build 39 = .ok (.istore 6, 2) := by decide +kernel
theorem dL_build_41 : decode cL_build 41 = .ok (.iload 6, 2) := by decide +kernel
theorem dL_build_43 : decode cL_build 43 = .ok (.iconst 3, 1) := by decide +kernel
theorem dL_build_44 : decode cL_build 44 = .ok (.invokestatic 18, 3) := by decide +kernel
theorem dL_build_47 : decode cL_build 47 = .ok (.bipush 50, 2) := by decide +kernel
theorem dL_build_49 : decode cL_build 49 = .ok (.imul, 1) := by decide +kernel
theorem dL_build_50 : decode cL_build 50 = .ok (.iload 5, 2) := by decide +kernel
theorem dL_build_52 : decode cL_build 52 = .ok (.bipush 7, 2) := by decide +kernel
theorem dL_build_54 : decode cL_build 54 = .ok (.imul, 1) := by decide +kernel
theorem dL_build_55 : decode cL_build 55 = .ok (.iadd, 1) := by decide +kernel
theorem dL_build_56 : decode cL_build 56 = .ok (.istore 7, 2) := by decide +kernel
theorem dL_build_58 : decode cL_build 58 = .ok (.aload_n 0, 1) := by decide +kernel
theorem dL_build_59 : decode cL_build 59 = .ok (.iload 7, 2) := by decide +kernel
theorem dL_build_61 : decode cL_build 61 = .ok (.invokevirtual 22, 3) := by decide +kernel
theorem dL_build_64 : decode cL_build 64 = .ok (.iload 5, 2) := by decide +kernel
theorem dL_build_66 : decode cL_build 66 = .ok (.if_icmp .eq 5, 3) := by decide +kernel
theorem dL_build_69 : decode cL_build 69 = .ok (.aconst_null, 1) := by decide +kernel
theorem dL_build_70 : decode cL_build 70 = .ok (.areturn, 1) := by decide +kernel
theorem dL_build_71 : decode cL_build 71 = .ok (.aload_n 3, 1) := by decide +kernel
theorem dL_build_72 : decode cL_build 72 = .ok (.getfield 28, 3) := by decide +kernel
theorem dL_build_75 : decode cL_build 75 = .ok (.iload 5, 2) := by decide +kernel
theorem dL_build_77 : decode cL_build 77 = .ok (.aaload, 1) := by decide +kernel
theorem dL_build_78 : decode cL_build 78 = .ok (.iconst 0, 1) := by decide +kernel
theorem dL_build_79 : decode cL_build 79 = .ok (.iload 7, 2) := by decide +kernel
theorem dL_build_81 : decode cL_build 81 = .ok (.iastore, 1) := by decide +kernel
theorem dL_build_82 : decode cL_build 82 = .ok (.aload_n 3, 1) := by decide +kernel
theorem dL_build_83 : decode cL_build 83 = .ok (.getfield 32, 3) := by decide +kernel
theorem dL_build_86 : decode cL_build 86 = .ok (.iconst 2, 1) := by decide +kernel
theorem dL_build_87 : decode cL_build 87 = .ok (.dup2, 1) := by decide +kernel
theorem dL_build_88 : decode cL_build 88 = .ok (.iaload, 1) := by decide +kernel
theorem dL_build_89 : decode cL_build 89 = .ok (.iconst 1, 1) := by decide +kernel
theorem dL_build_90 : decode cL_build 90 = .ok (.iadd, 1) := by decide +kernel
theorem dL_build_91 : decode cL_build 91 = .ok (.iastore, 1) := by decide +kernel
theorem dL_build_92 : decode cL_build 92 = .ok (.iload 6, 2) := by decide +kernel
theorem dL_build_94 : decode cL_build 94 = .ok (.iconst 2, 1) := by decide +kernel
theorem dL_build_95 : decode cL_build 95 = .ok (.ishr, 1) := by decide +kernel
theorem dL_build_96 : decode cL_build 96 = .ok (.bipush 9, 2) := by decide +kernel
theorem dL_build_98 : decode cL_build 98 = .ok (.invokestatic 18, 3) := by decide +kernel
theorem dL_build_101 : decode cL_build 101 = .ok (.ifCond .ne 7, 3) := by decide +kernel
theorem dL_build_104 : decode cL_build 104 = .ok (.iconst 1, 1) := by decide +kernel
theorem dL_build_105 : decode cL_build 105 = .ok (.goto 13, 3) := by decide +kernel
theorem dL_build_108 : decode cL_build 108 = .ok (.iconst 2, 1) := by decide +kernel
theorem dL_build_109 : decode cL_build 109 = .ok (.iload 6, 2) := by decide +kernel
theorem dL_build_111 : decode cL_build 111 = .ok (.iconst 2, 1) := by decide +kernel
theorem dL_build_112 : decode cL_build 112 = .ok (.ishr, 1) := by decide +kernel
theorem dL_build_113 : decode cL_build 113 = .ok (.iconst 4, 1) := by decide +kernel
theorem dL_build_114 : decode cL_build 114 = .ok (.invokestatic 18, 3) := by decide +kernel
theorem dL_build_117 : decode cL_build 117 = .ok (.iadd, 1) := by decide +kernel
theorem dL_build_118 : decode cL_build 118 = .ok (.istore 8, 2) := by decide +kernel
theorem dL_build_120 : decode cL_build 120 = .ok (.iload 6, 2) := by decide +kernel
theorem dL_build_122 : decode cL_build 122 = .ok (.iconst 4, 1) := by decide +kernel
theorem dL_build_123 : decode cL_build 123 = .ok (.ishr, 1) := by decide +kernel
theorem dL_build_124 : decode cL_build 124 = .ok (.sipush 300, 3) := by decide +kernel
theorem dL_build_127 : decode cL_build 127 = .ok (.invokestatic 18, 3) := by decide +kernel
theorem dL_build_130 : decode cL_build 130 = .ok (.sipush 200, 3) := by decide +kernel
theorem dL_build_133 : decode cL_build 133 = .ok (.isub, 1) := by decide +kernel
theorem dL_build_134 : decode cL_build 134 = .ok (.istore 9, 2) := by decide +kernel
theorem dL_build_136 : decode cL_build 136 = .ok (.iload 6, 2) := by decide +kernel
theorem dL_build_138 : decode cL_build 138 = .ok (.iconst 5, 1) := by decide +kernel
theorem dL_build_139 : decode cL_build 139 = .ok (.ishr, 1) := by decide +kernel
theorem dL_build_140 : decode cL_build 140 = .ok (.bipush 60, 2) := by decide +kernel
theorem dL_build_142 : decode cL_build 142 = .ok (.invokestatic 18, 3) := by decide +kernel
theorem dL_build_145 : decode cL_build 145 = .ok (.istore 10, 2) := by decide +kernel
theorem dL_build_147 : decode cL_build 147 = .ok (.iconst 0, 1) := by decide +kernel
theorem dL_build_148 : decode cL_build 148 = .ok (.istore 11, 2) := by decide +kernel
theorem dL_build_150 : decode cL_build 150 = .ok (.iload 11, 2) := by decide +kernel
theorem dL_build_152 : decode cL_build 152 = .ok (.iload 8, 2) := by decide +kernel
theorem dL_build_154 : decode cL_build 154 = .ok (.if_icmp .ge 81, 3) := by decide +kernel
theorem dL_build_157 : decode cL_build 157 = .ok (.aload_n 3, 1) := by decide +kernel
theorem dL_build_158 : decode cL_build 158 = .ok (.getfield 28, 3) := by decide +kernel
theorem dL_build_161 : decode cL_build 161 = .ok (.iload 5, 2) := by decide +kernel
theorem dL_build_163 : decode cL_build 163 = .ok (.aaload, 1) := by decide +kernel
theorem dL_build_164 : decode cL_build 164 = .ok (.iconst 2, 1) := by decide +kernel
theorem dL_build_165 : decode cL_build 165 = .ok (.iconst 2, 1) := by decide +kernel
theorem dL_build_166 : decode cL_build 166 = .ok (.iload 11, 2) := by decide +kernel
theorem dL_build_168 : decode cL_build 168 = .ok (.imul, 1) := by decide +kernel
theorem dL_build_169 : decode cL_build 169 = .ok (.iadd, 1) := by decide +kernel
theorem dL_build_170 : decode cL_build 170 = .ok (.iload 9, 2) := by decide +kernel
theorem dL_build_172 : decode cL_build 172 = .ok (.iastore, 1) := by decide +kernel
theorem dL_build_173 : decode cL_build 173 = .ok (.aload_n 3, 1) := by decide +kernel
theorem dL_build_174 : decode cL_build 174 = .ok (.getfield 28, 3) := by decide +kernel
theorem dL_build_177 : decode cL_build 177 = .ok (.iload 5, 2) := by decide +kernel
theorem dL_build_179 : decode cL_build 179 = .ok (.aaload, 1) := by decide +kernel
theorem dL_build_180 : decode cL_build 180 = .ok (.iconst 3, 1) := by decide +kernel
theorem dL_build_181 : decode cL_build 181 = .ok (.iconst 2, 1) := by decide +kernel
theorem dL_build_182 : decode cL_build 182 = .ok (.iload 11, 2) := by decide +kernel
theorem dL_build_184 : decode cL_build 184 = .ok (.imul, 1) := by decide +kernel
theorem dL_build_185 : decode cL_build 185 = .ok (.iadd, 1) := by decide +kernel
theorem dL_build_186 : decode cL_build 186 = .ok (.iload 10, 2) := by decide +kernel
theorem dL_build_188 : decode cL_build 188 = .ok (.iastore, 1) := by decide +kernel
theorem dL_build_189 : decode cL_build 189 = .ok (.iload 9, 2) := by decide +kernel
theorem dL_build_191 : decode cL_build 191 = .ok (.iconst 1, 1) := by decide +kernel
theorem dL_build_192 : decode cL_build 192 = .ok (.iload 6, 2) := by decide +kernel
theorem dL_build_194 : decode cL_build 194 = .ok (.bipush 6, 2) := by decide +kernel
theorem dL_build_196 : decode cL_build 196 = .ok (.iload 11, 2) := by decide +kernel
theorem dL_build_198 : decode cL_build 198 = .ok (.iadd, 1) := by decide +kernel
theorem dL_build_199 : decode cL_build 199 = .ok (.ishr, 1) := by decide +kernel
theorem dL_build_200 : decode cL_build 200 = .ok (.bipush 120, 2) := by decide +kernel
theorem dL_build_202 : decode cL_build 202 = .ok (.invokestatic 18, 3) := by decide +kernel
theorem dL_build_205 : decode cL_build 205 = .ok (.iadd, 1) := by decide +kernel
theorem dL_build_206 : decode cL_build 206 = .ok (.iadd, 1) := by decide +kernel
theorem dL_build_207 : decode cL_build 207 = .ok (.istore 9, 2) := by decide +kernel
theorem dL_build_209 : decode cL_build 209 = .ok (.iload 10, 2) := by decide +kernel
theorem dL_build_211 : decode cL_build 211 = .ok (.iconst 1, 1) := by decide +kernel
theorem dL_build_212 : decode cL_build 212 = .ok (.iload 6, 2) := by decide +kernel
theorem dL_build_214 : decode cL_build 214 = .ok (.iconst 3, 1) := by decide +kernel
theorem dL_build_215 : decode cL_build 215 = .ok (.iload 11, 2) := by decide +kernel
theorem dL_build_217 : decode cL_build 217 = .ok (.iadd, 1) := by decide +kernel
theorem dL_build_218 : decode cL_build 218 = .ok (.ishr, 1) := by decide +kernel
theorem dL_build_219 : decode cL_build 219 = .ok (.sipush 4000, 3) := by decide +kernel
theorem dL_build_222 : decode cL_build 222 = .ok (.invokestatic 18, 3) := by decide +kernel
theorem dL_build_225 : decode cL_build 225 = .ok (.iadd, 1) := by decide +kernel
theorem dL_build_226 : decode cL_build 226 = .ok (.iadd, 1) := by decide +kernel
theorem dL_build_227 : decode cL_build 227 = .ok (.istore 10, 2) := by decide +kernel
theorem dL_build_229 : decode cL_build 229 = .ok (.iinc 11 1, 3) := by decide +kernel
theorem dL_build_232 : decode cL_build 232 = .ok (.goto (-82), 3) := by decide +kernel
theorem dL_build_235 : decode cL_build 235 = .ok (.aload_n 3, 1) := by decide +kernel
theorem dL_build_236 : decode cL_build 236 = .ok (.getfield 28, 3) := by decide +kernel
theorem dL_build_239 : decode cL_build 239 = .ok (.iload 5, 2) := by decide +kernel
theorem dL_build_241 : decode cL_build 241 = .ok (.aaload, 1) := by decide +kernel
theorem dL_build_242 : decode cL_build 242 = .ok (.iconst 1, 1) := by decide +kernel
theorem dL_build_243 : decode cL_build 243 = .ok (.iload 8, 2) := by decide +kernel
theorem dL_build_245 : decode cL_build 245 = .ok (.iastore, 1) := by decide +kernel
theorem dL_build_246 : decode cL_build 246 = .ok (.iconst 0, 1) := by decide +kernel
theorem dL_build_247 : decode cL_build 247 = .ok (.istore 11, 2) := by decide +kernel
theorem dL_build_249 : decode cL_build 249 = .ok (.iload 8, 2) := by decide +kernel
theorem dL_build_251 : decode cL_build 251 = .ok (.iconst 2, 1) := by decide +kernel
theorem dL_build_252 : decode cL_build 252 = .ok (.idiv, 1) := by decide +kernel
theorem dL_build_253 : decode cL_build 253 = .ok (.istore 12, 2) := by decide +kernel
theorem dL_build_255 : decode cL_build 255 = .ok (.iload 12, 2) := by decide +kernel
theorem dL_build_257 : decode cL_build 257 = .ok (.iload 8, 2) := by decide +kernel
theorem dL_build_259 : decode cL_build 259 = .ok (.if_icmp .ge 53, 3) := by decide +kernel
theorem dL_build_262 : decode cL_build 262 = .ok (.iinc 11 1, 3) := by decide +kernel
theorem dL_build_265 : decode cL_build 265 = .ok (.aload_n 0, 1) := by decide +kernel
theorem dL_build_266 : decode cL_build 266 = .ok (.iload 5, 2) := by decide +kernel
theorem dL_build_268 : decode cL_build 268 = .ok (.aload_n 3, 1) := by decide +kernel
theorem dL_build_269 : decode cL_build 269 = .ok (.getfield 28, 3) := by decide +kernel
theorem dL_build_272 : decode cL_build 272 = .ok (.iload 5, 2) := by decide +kernel
theorem dL_build_274 : decode cL_build 274 = .ok (.aaload, 1) := by decide +kernel
theorem dL_build_275 : decode cL_build 275 = .ok (.iconst 2, 1) := by decide +kernel
theorem dL_build_276 : decode cL_build 276 = .ok (.iconst 2, 1) := by decide +kernel
theorem dL_build_277 : decode cL_build 277 = .ok (.iload 12, 2) := by decide +kernel
theorem dL_build_279 : decode cL_build 279 = .ok (.imul, 1) := by decide +kernel
theorem dL_build_280 : decode cL_build 280 = .ok (.iadd, 1) := by decide +kernel
theorem dL_build_281 : decode cL_build 281 = .ok (.iaload, 1) := by decide +kernel
theorem dL_build_282 : decode cL_build 282 = .ok (.aload_n 3, 1) := by decide +kernel
theorem dL_build_283 : decode cL_build 283 = .ok (.getfield 28, 3) := by decide +kernel
theorem dL_build_286 : decode cL_build 286 = .ok (.iload 5, 2) := by decide +kernel
theorem dL_build_288 : decode cL_build 288 = .ok (.aaload, 1) := by decide +kernel
theorem dL_build_289 : decode cL_build 289 = .ok (.iconst 3, 1) := by decide +kernel
theorem dL_build_290 : decode cL_build 290 = .ok (.iconst 2, 1) := by decide +kernel
theorem dL_build_291 : decode cL_build 291 = .ok (.iload 12, 2) := by decide +kernel
theorem dL_build_293 : decode cL_build 293 = .ok (.imul, 1) := by decide +kernel
theorem dL_build_294 : decode cL_build 294 = .ok (.iadd, 1) := by decide +kernel
theorem dL_build_295 : decode cL_build 295 = .ok (.iaload, 1) := by decide +kernel
theorem dL_build_296 : decode cL_build 296 = .ok (.invokevirtual 36, 3) := by decide +kernel
theorem dL_build_299 : decode cL_build 299 = .ok (.iload 11, 2) := by decide +kernel
theorem dL_build_301 : decode cL_build 301 = .ok (.if_icmp .eq 5, 3) := by decide +kernel
theorem dL_build_304 : decode cL_build 304 = .ok (.aconst_null, 1) := by decide +kernel
theorem dL_build_305 : decode cL_build 305 = .ok (.areturn, 1) := by decide +kernel
theorem dL_build_306 : decode cL_build 306 = .ok (.iinc 12 1, 3) := by decide +kernel
theorem dL_build_309 : decode cL_build 309 = .ok (.goto (-54), 3) := by decide +kernel
theorem dL_build_312 : decode cL_build 312 = .ok (.iload 8, 2) := by decide +kernel
theorem dL_build_314 : decode cL_build 314 = .ok (.iconst 2, 1) := by decide +kernel
theorem dL_build_315 : decode cL_build 315 = .ok (.idiv, 1) := by decide +kernel
theorem dL_build_316 : decode cL_build 316 = .ok (.iconst 1, 1) := by decide +kernel
theorem dL_build_317 : decode cL_build 317 = .ok (.isub, 1) := by decide +kernel
theorem dL_build_318 : decode cL_build 318 = .ok (.istore 12, 2) := by decide +kernel
theorem dL_build_320 : decode cL_build 320 = .ok (.iload 12, 2) := by decide +kernel
theorem dL_build_322 : decode cL_build 322 = .ok (.ifCond .lt 53, 3) := by decide +kernel
theorem dL_build_325 : decode cL_build 325 = .ok (.iinc 11 1, 3) := by decide +kernel
theorem dL_build_328 : decode cL_build 328 = .ok (.aload_n 0, 1) := by decide +kernel
theorem dL_build_329 : decode cL_build 329 = .ok (.iload 5, 2) := by decide +kernel
theorem dL_build_331 : decode cL_build 331 = .ok (.aload_n 3, 1) := by decide +kernel
theorem dL_build_332 : decode cL_build 332 = .ok (.getfield 28, 3) := by decide +kernel
theorem dL_build_335 : decode cL_build 335 = .ok (.iload 5, 2) := by decide +kernel
theorem dL_build_337 : decode cL_build 337 = .ok (.aaload, 1) := by decide +kernel
theorem dL_build_338 : decode cL_build 338 = .ok (.iconst 2, 1) := by decide +kernel
theorem dL_build_339 : decode cL_build 339 = .ok (.iconst 2, 1) := by decide +kernel
theorem dL_build_340 : decode cL_build 340 = .ok (.iload 12, 2) := by decide +kernel
theorem dL_build_342 : decode cL_build 342 = .ok (.imul, 1) := by decide +kernel
theorem dL_build_343 : decode cL_build 343 = .ok (.iadd, 1) := by decide +kernel
theorem dL_build_344 : decode cL_build 344 = .ok (.iaload, 1) := by decide +kernel
theorem dL_build_345 : decode cL_build 345 = .ok (.aload_n 3, 1) := by decide +kernel
theorem dL_build_346 : decode cL_build 346 = .ok (.getfield 28, 3) := by decide +kernel
theorem dL_build_349 : decode cL_build 349 = .ok (.iload 5, 2) := by decide +kernel
theorem dL_build_351 : decode cL_build 351 = .ok (.aaload, 1) := by decide +kernel
theorem dL_build_352 : decode cL_build 352 = .ok (.iconst 3, 1) := by decide +kernel
theorem dL_build_353 : decode cL_build 353 = .ok (.iconst 2, 1) := by decide +kernel
theorem dL_build_354 : decode cL_build 354 = .ok (.iload 12, 2) := by decide +kernel
theorem dL_build_356 : decode cL_build 356 = .ok (.imul, 1) := by decide +kernel
theorem dL_build_357 : decode cL_build 357 = .ok (.iadd, 1) := by decide +kernel
theorem dL_build_358 : decode cL_build 358 = .ok (.iaload, 1) := by decide +kernel
theorem dL_build_359 : decode cL_build 359 = .ok (.invokevirtual 36, 3) := by decide +kernel
theorem dL_build_362 : decode cL_build 362 = .ok (.iload 11, 2) := by decide +kernel
theorem dL_build_364 : decode cL_build 364 = .ok (.if_icmp .eq 5, 3) := by decide +kernel
theorem dL_build_367 : decode cL_build 367 = .ok (.aconst_null, 1) := by decide +kernel
theorem dL_build_368 : decode cL_build 368 = .ok (.areturn, 1) := by decide +kernel
theorem dL_build_369 : decode cL_build 369 = .ok (.iinc 12 (-1), 3) := by decide +kernel
theorem dL_build_372 : decode cL_build 372 = .ok (.goto (-52), 3) := by decide +kernel
theorem dL_build_375 : decode cL_build 375 = .ok (.iinc 5 1, 3) := by decide +kernel
theorem dL_build_378 : decode cL_build 378 = .ok (.goto (-356), 3) := by decide +kernel
theorem dL_build_381 : decode cL_build 381 = .ok (.aload_n 1, 1) := by decide +kernel
theorem dL_build_382 : decode cL_build 382 = .ok (.iload_n 2, 1) := by decide +kernel
theorem dL_build_383 : decode cL_build 383 = .ok (.invokestatic 12, 3) := by decide +kernel
theorem dL_build_386 : decode cL_build 386 = .ok (.iconst 4, 1) := by decide +kernel
theorem dL_build_387 : decode cL_build 387 = .ok (.ishr, 1) := by decide +kernel
theorem dL_build_388 : decode cL_build 388 = .ok (.iconst 5, 1) := by decide +kernel
theorem dL_build_389 : decode cL_build 389 = .ok (.invokestatic 18, 3) := by decide +kernel
theorem dL_build_392 : decode cL_build 392 = .ok (.istore 5, 2) := by decide +kernel
theorem dL_build_394 : decode cL_build 394 = .ok (.iconst 0, 1) := by decide +kernel
theorem dL_build_395 : decode cL_build 395 = .ok (.istore 6, 2) := by decide +kernel
theorem dL_build_397 : decode cL_build 397 = .ok (.iload 6, 2) := by decide +kernel
theorem dL_build_399 : decode cL_build 399 = .ok (.iload 5, 2) := by decide +kernel
theorem dL_build_401 : decode cL_build 401 = .ok (.if_icmp .ge 109, 3) := by decide +kernel
theorem dL_build_404 : decode cL_build 404 = .ok (.aload_n 1, 1) := by decide +kernel
theorem dL_build_405 : decode cL_build 405 = .ok (.iload_n 2, 1) := by decide +kernel
theorem dL_build_406 : decode cL_build 406 = .ok (.iconst 5, 1) := by decide +kernel
theorem dL_build_407 : decode cL_build 407 = .ok (.iadd, 1) := by decide +kernel
theorem dL_build_408 : decode cL_build 408 = .ok (.invokestatic 12, 3) := by decide +kernel
theorem dL_build_411 : decode cL_build 411 = .ok (.iconst 5, 1) := by decide +kernel
theorem dL_build_412 : decode cL_build 412 = .ok (.iload 6, 2) := by decide +kernel
theorem dL_build_414 : decode cL_build 414 = .ok (.imul, 1) := by decide +kernel
theorem dL_build_415 : decode cL_build 415 = .ok (.ishr, 1) := by decide +kernel
theorem dL_build_416 : decode cL_build 416 = .ok (.sipush 200, 3) := by decide +kernel
theorem dL_build_419 : decode cL_build 419 = .ok (.invokestatic 18, 3) := by decide +kernel
theorem dL_build_422 : decode cL_build 422 = .ok (.istore 7, 2) := by decide +kernel
theorem dL_build_424 : decode cL_build 424 = .ok (.aload_n 1, 1) := by decide +kernel
theorem dL_build_425 : decode cL_build 425 = .ok (.iload_n 2, 1) := by decide +kernel
theorem dL_build_426 : decode cL_build 426 = .ok (.bipush 6, 2) := by decide +kernel
theorem dL_build_428 : decode cL_build 428 = .ok (.iadd, 1) := by decide +kernel
theorem dL_build_429 : decode cL_build 429 = .ok (.invokestatic 12, 3) := by decide +kernel
theorem dL_build_432 : decode cL_build 432 = .ok (.iconst 4, 1) := by decide +kernel
theorem dL_build_433 : decode cL_build 433 = .ok (.iload 6, 2) := by decide +kernel
theorem dL_build_435 : decode cL_build 435 = .ok (.imul, 1) := by decide +kernel
theorem dL_build_436 : decode cL_build 436 = .ok (.ishr, 1) := by decide +kernel
theorem dL_build_437 : decode cL_build 437 = .ok (.sipush 401, 3) := by decide +kernel
theorem dL_build_440 : decode cL_build 440 = .ok (.invokestatic 18, 3) := by decide +kernel
theorem dL_build_443 : decode cL_build 443 = .ok (.sipush 200, 3) := by decide +kernel
theorem dL_build_446 : decode cL_build 446 = .ok (.isub, 1) := by decide +kernel
theorem dL_build_447 : decode cL_build 447 = .ok (.istore 8, 2) := by decide +kernel
theorem dL_build_449 : decode cL_build 449 = .ok (.aload_n 0, 1) := by decide +kernel
theorem dL_build_450 : decode cL_build 450 = .ok (.iload 7, 2) := by decide +kernel
theorem dL_build_452 : decode cL_build 452 = .ok (.iload 8, 2) := by decide +kernel
theorem dL_build_454 : decode cL_build 454 = .ok (.invokevirtual 40, 3) := by decide +kernel
theorem dL_build_457 : decode cL_build 457 = .ok (.aload_n 3, 1) := by decide +kernel
theorem dL_build_458 : decode cL_build 458 = .ok (.iload 7, 2) := by decide +kernel
theorem dL_build_460 : decode cL_build 460 = .ok (.invokevirtual 43, 3) := by decide +kernel
theorem dL_build_463 : decode cL_build 463 = .ok (.if_icmp .eq 5, 3) := by decide +kernel
theorem dL_build_466 : decode cL_build 466 = .ok (.aconst_null, 1) := by decide +kernel
theorem dL_build_467 : decode cL_build 467 = .ok (.areturn, 1) := by decide +kernel
theorem dL_build_468 : decode cL_build 468 = .ok (.aload_n 3, 1) := by decide +kernel
theorem dL_build_469 : decode cL_build 469 = .ok (.getfield 32, 3) := by decide +kernel
theorem dL_build_472 : decode cL_build 472 = .ok (.iconst 3, 1) := by decide +kernel
theorem dL_build_473 : decode cL_build 473 = .ok (.dup2, 1) := by decide +kernel
theorem dL_build_474 : decode cL_build 474 = .ok (.iaload, 1) := by decide +kernel
theorem dL_build_475 : decode cL_build 475 = .ok (.aload_n 3, 1) := by decide +kernel
theorem dL_build_476 : decode cL_build 476 = .ok (.getfield 46, 3) := by decide +kernel
theorem dL_build_479 : decode cL_build 479 = .ok (.iload 7, 2) := by decide +kernel
theorem dL_build_481 : decode cL_build 481 = .ok (.iaload, 1) := by decide +kernel
theorem dL_build_482 : decode cL_build 482 = .ok (.sipush 9999, 3) := by decide +kernel
theorem dL_build_485 : decode cL_build 485 = .ok (.if_icmp .ne 7, 3) := by decide +kernel
theorem dL_build_488 : decode cL_build 488 = .ok (.iconst 1, 1) := by decide +kernel
theorem dL_build_489 : decode cL_build 489 = .ok (.goto 4, 3) := by decide +kernel
theorem dL_build_492 : decode cL_build 492 = .ok (.iconst 0, 1) := by decide +kernel
theorem dL_build_493 : decode cL_build 493 = .ok (.iadd, 1) := by decide +kernel
theorem dL_build_494 : decode cL_build 494 = .ok (.iastore, 1) := by decide +kernel
theorem dL_build_495 : decode cL_build 495 = .ok (.aload_n 3, 1) := by decide +kernel
theorem dL_build_496 : decode cL_build 496 = .ok (.getfield 46, 3) := by decide +kernel
theorem dL_build_499 : decode cL_build 499 = .ok (.iload 7, 2) := by decide +kernel
theorem dL_build_501 : decode cL_build 501 = .ok (.iload 8, 2) := by decide +kernel
theorem dL_build_503 : decode cL_build 503 = .ok (.iastore, 1) := by decide +kernel
theorem dL_build_504 : decode cL_build 504 = .ok (.iinc 6 1, 3) := by decide +kernel
theorem dL_build_507 : decode cL_build 507 = .ok (.goto (-110), 3) := by decide +kernel
theorem dL_build_510 : decode cL_build 510 = .ok (.iconst 0, 1) := by decide +kernel
theorem dL_build_511 : decode cL_build 511 = .ok (.istore 6, 2) := by decide +kernel
theorem dL_build_513 : decode cL_build 513 = .ok (.iload 6, 2) := by decide +kernel
theorem dL_build_515 : decode cL_build 515 = .ok (.bipush 6, 2) := by decide +kernel
theorem dL_build_517 : decode cL_build 517 = .ok (.if_icmp .ge 380, 3) := by decide +kernel
theorem dL_build_520 : decode cL_build 520 = .ok (.aload_n 1, 1) := by decide +kernel
theorem dL_build_521 : decode cL_build 521 = .ok (.iload_n 2, 1) := by decide +kernel
theorem dL_build_522 : decode cL_build 522 = .ok (.bipush 7, 2) := by decide +kernel
theorem dL_build_524 : decode cL_build 524 = .ok (.iadd, 1) := by decide +kernel
theorem dL_build_525 : decode cL_build 525 = .ok (.iload 6, 2) := by decide +kernel
theorem dL_build_527 : decode cL_build 527 = .ok (.iconst 4, 1) := by decide +kernel
theorem dL_build_528 : decode cL_build 528 = .ok (.irem, 1) := by decide +kernel
theorem dL_build_529 : decode cL_build 529 = .ok (.iadd, 1) := by decide +kernel
theorem dL_build_530 : decode cL_build 530 = .ok (.invokestatic 12, 3) := by decide +kernel
theorem dL_build_533 : decode cL_build 533 = .ok (.iload 6, 2) := by decide +kernel
theorem dL_build_535 : decode cL_build 535 = .ok (.iconst 4, 1) := by decide +kernel
theorem dL_build_536 : decode cL_build 536 = .ok (.idiv, 1) := by decide +kernel
theorem dL_build_537 : decode cL_build 537 = .ok (.bipush 9, 2) := by decide +kernel
theorem dL_build_539 : decode cL_build 539 = .ok (.imul, 1) := by decide +kernel
theorem dL_build_540 : decode cL_build 540 = .ok (.ishr, 1) := by decide +kernel
theorem dL_build_541 : decode cL_build 541 = .ok (.istore 7, 2) := by decide +kernel
theorem dL_build_543 : decode cL_build 543 = .ok (.iload 7, 2) := by decide +kernel
theorem dL_build_545 : decode cL_build 545 = .ok (.sipush 190, 3) := by decide +kernel
theorem dL_build_548 : decode cL_build 548 = .ok (.invokestatic 18, 3) := by decide +kernel
theorem dL_build_551 : decode cL_build 551 = .ok (.istore 8, 2) := by decide +kernel
theorem dL_build_553 : decode cL_build 553 = .ok (.iconst 1, 1) := by decide +kernel
theorem dL_build_554 : decode cL_build 554 = .ok (.iload 7, 2) := by decide +kernel
theorem dL_build_556 : decode cL_build 556 = .ok (.iconst 4, 1) := by decide +kernel
theorem dL_build_557 : decode cL_build 557 = .ok (.ishr, 1) := by decide +kernel
theorem dL_build_558 : decode cL_build 558 = .ok (.bipush 40, 2) := by decide +kernel
theorem dL_build_560 : decode cL_build 560 = .ok (.invokestatic 18, 3) := by decide +kernel
theorem dL_build_563 : decode cL_build 563 = .ok (.iadd, 1) := by decide +kernel
theorem dL_build_564 : decode cL_build 564 = .ok (.istore 9, 2) := by decide +kernel
theorem dL_build_566 : decode cL_build 566 = .ok (.iload 7, 2) := by decide +kernel
theorem dL_build_568 : decode cL_build 568 = .ok (.bipush 6, 2) := by decide +kernel
theorem dL_build_570 : decode cL_build 570 = .ok (.ishr, 1) := by decide +kernel
theorem dL_build_571 : decode cL_build 571 = .ok (.sipush 400, 3) := by decide +kernel
theorem dL_build_574 : decode cL_build 574 = .ok (.invokestatic 18, 3) := by decide +kernel
theorem dL_build_577 : decode cL_build 577 = .ok (.sipush 200, 3) := by decide +kernel
theorem dL_build_580 : decode cL_build 580 = .ok (.isub, 1) := by decide +kernel
theorem dL_build_581 : decode cL_build 581 = .ok (.istore 10, 2) := by decide +kernel
theorem dL_build_583 : decode cL_build 583 = .ok (.iload 7, 2) := by decide +kernel
theorem dL_build_585 : decode cL_build 585 = .ok (.bipush 8, 2) := by decide +kernel
theorem dL_build_587 : decode cL_build 587 = .ok (.ishr, 1) := by decide +kernel
theorem dL_build_588 : decode cL_build 588 = .ok (.bipush 21, 2) := by decide +kernel
theorem dL_build_590 : decode cL_build 590 = .ok (.invokestatic 18, 3) := by decide +kernel
theorem dL_build_593 : decode cL_build 593 = .ok (.bipush 7, 2) := by decide +kernel
theorem dL_build_595 : decode cL_build 595 = .ok (.isub, 1) := by decide +kernel
theorem dL_build_596 : decode cL_build 596 = .ok (.istore 11, 2) := by decide +kernel
theorem dL_build_598 : decode cL_build 598 = .ok (.iconst 0, 1) := by decide +kernel
theorem dL_build_599 : decode cL_build 599 = .ok (.istore 12, 2) := by decide +kernel
theorem dL_build_601 : decode cL_build 601 = .ok (.iload 8, 2) := by decide +kernel
theorem dL_build_603 : decode cL_build 603 = .ok (.istore 13, 2) := by decide +kernel
theorem dL_build_605 : decode cL_build 605 = .ok (.iload 13, 2) := by decide +kernel
theorem dL_build_607 : decode cL_build 607 = .ok (.iload 8, 2) := by decide +kernel
theorem dL_build_609 : decode cL_build 609 = .ok (.iload 9, 2) := by decide +kernel
theorem dL_build_611 : decode cL_build 611 = .ok (.iadd, 1) := by decide +kernel
theorem dL_build_612 : decode cL_build 612 = .ok (.if_icmp .ge 50, 3) := by decide +kernel
theorem dL_build_615 : decode cL_build 615 = .ok (.iload 12, 2) := by decide +kernel
theorem dL_build_617 : decode cL_build 617 = .ok (.aload_n 3, 1) := by decide +kernel
theorem dL_build_618 : decode cL_build 618 = .ok (.getfield 49, 3) := by decide +kernel
theorem dL_build_621 : decode cL_build 621 = .ok (.iload 13, 2) := by decide +kernel
theorem dL_build_623 : decode cL_build 623 = .ok (.iaload, 1) := by decide +kernel
theorem dL_build_624 : decode cL_build 624 = .ok (.sipush 9999, 3) := by decide +kernel
theorem dL_build_627 : decode cL_build 627 = .ok (.if_icmp .ne 7, 3) := by decide +kernel
theorem dL_build_630 : decode cL_build 630 = .ok (.iconst 0, 1) := by decide +kernel
theorem dL_build_631 : decode cL_build 631 = .ok (.goto 4, 3) := by decide +kernel
theorem dL_build_634 : decode cL_build 634 = .ok (.iconst 1, 1) := by decide +kernel
theorem dL_build_635 : decode cL_build 635 = .ok (.iadd, 1) := by decide +kernel
theorem dL_build_636 : decode cL_build 636 = .ok (.istore 12, 2) := by decide +kernel
theorem dL_build_638 : decode cL_build 638 = .ok (.aload_n 3, 1) := by decide +kernel
theorem dL_build_639 : decode cL_build 639 = .ok (.getfield 49, 3) := by decide +kernel
theorem dL_build_642 : decode cL_build 642 = .ok (.iload 13, 2) := by decide +kernel
theorem dL_build_644 : decode cL_build 644 = .ok (.iload 10, 2) := by decide +kernel
theorem dL_build_646 : decode cL_build 646 = .ok (.iload 11, 2) := by decide +kernel
theorem dL_build_648 : decode cL_build 648 = .ok (.iload 13, 2) := by decide +kernel
theorem dL_build_650 : decode cL_build 650 = .ok (.iload 8, 2) := by decide +kernel
theorem dL_build_652 : decode cL_build 652 = .ok (.isub, 1) := by decide +kernel
theorem dL_build_653 : decode cL_build 653 = .ok (.imul, 1) := by decide +kernel
theorem dL_build_654 : decode cL_build 654 = .ok (.iadd, 1) := by decide +kernel
theorem dL_build_655 : decode cL_build 655 = .ok (.iastore, 1) := by decide +kernel
theorem dL_build_656 : decode cL_build 656 = .ok (.iinc 13 1, 3) := by decide +kernel
theorem dL_build_659 : decode cL_build 659 = .ok (.goto (-54), 3) := by decide +kernel
theorem dL_build_662 : decode cL_build 662 = .ok (.aload_n 0, 1) := by decide +kernel
theorem dL_build_663 : decode cL_build 663 = .ok (.iload 8, 2) := by decide +kernel
theorem dL_build_665 : decode cL_build 665 = .ok (.iload 9, 2) := by decide +kernel
theorem dL_build_667 : decode cL_build 667 = .ok (.iload 10, 2) := by decide +kernel
theorem dL_build_669 : decode cL_build 669 = .ok (.iload 11, 2) := by decide +kernel
theorem dL_build_671 : decode cL_build 671 = .ok (.invokevirtual 52, 3) := by decide +kernel
theorem dL_build_674 : decode cL_build 674 = .ok (.iload 12, 2) := by decide +kernel
theorem dL_build_676 : decode cL_build 676 = .ok (.if_icmp .eq 5, 3) := by decide +kernel
theorem dL_build_679 : decode cL_build 679 = .ok (.aconst_null, 1) := by decide +kernel
theorem dL_build_680 : decode cL_build 680 = .ok (.areturn, 1) := by decide +kernel
theorem dL_build_681 : decode cL_build 681 = .ok (.iconst 0, 1) := by decide +kernel
theorem dL_build_682 : decode cL_build 682 = .ok (.istore 13, 2) := by decide +kernel
theorem dL_build_684 : decode cL_build 684 = .ok (.iload 7, 2) := by decide +kernel
theorem dL_build_686 : decode cL_build 686 = .ok (.iconst 3, 1) := by decide +kernel
theorem dL_build_687 : decode cL_build 687 = .ok (.ishr, 1) := by decide +kernel
theorem dL_build_688 : decode cL_build 688 = .ok (.sipush 200, 3) := by decide +kernel
theorem dL_build_691 : decode cL_build 691 = .ok (.invokestatic 18, 3) := by decide +kernel
theorem dL_build_694 : decode cL_build 694 = .ok (.istore 14, 2) := by decide +kernel
theorem dL_build_696 : decode cL_build 696 = .ok (.iconst 1, 1) := by decide +kernel
theorem dL_build_697 : decode cL_build 697 = .ok (.iload 7, 2) := by decide +kernel
theorem dL_build_699 : decode cL_build 699 = .ok (.iconst 5, 1) := by decide +kernel
theorem dL_build_700 : decode cL_build 700 = .ok (.ishr, 1) := by decide +kernel
theorem dL_build_701 : decode cL_build 701 = .ok (.bipush 12, 2) := by decide +kernel
theorem dL_build_703 : decode cL_build 703 = .ok (.invokestatic 18, 3) := by decide +kernel
theorem dL_build_706 : decode cL_build 706 = .ok (.iadd, 1) := by decide +kernel
theorem dL_build_707 : decode cL_build 707 = .ok (.istore 15, 2) := by decide +kernel
theorem dL_build_709 : decode cL_build 709 = .ok (.iload 14, 2) := by decide +kernel
theorem dL_build_711 : decode cL_build 711 = .ok (.istore 16, 2) := by decide +kernel
theorem dL_build_713 : decode cL_build 713 = .ok (.iload 16, 2) := by decide +kernel
theorem dL_build_715 : decode cL_build 715 = .ok (.iload 14, 2) := by decide +kernel
theorem dL_build_717 : decode cL_build 717 = .ok (.iload 15, 2) := by decide +kernel
theorem dL_build_719 : decode cL_build 719 = .ok (.iadd, 1) := by decide +kernel
theorem dL_build_720 : decode cL_build 720 = .ok (.if_icmp .ge 42, 3) := by decide +kernel
theorem dL_build_723 : decode cL_build 723 = .ok (.iload 13, 2) := by decide +kernel
theorem dL_build_725 : decode cL_build 725 = .ok (.aload_n 3, 1) := by decide +kernel
theorem dL_build_726 : decode cL_build 726 = .ok (.getfield 49, 3) := by decide +kernel
theorem dL_build_729 : decode cL_build 729 = .ok (.iload 16, 2) := by decide +kernel
theorem dL_build_731 : decode cL_build 731 = .ok (.iaload, 1) := by decide +kernel
theorem dL_build_732 : decode cL_build 732 = .ok (.sipush 9999, 3) := by decide +kernel
theorem dL_build_735 : decode cL_build 735 = .ok (.if_icmp .ne 7, 3) := by decide +kernel
theorem dL_build_738 : decode cL_build 738 = .ok (.iconst 0, 1) := by decide +kernel
theorem dL_build_739 : decode cL_build 739 = .ok (.goto 4, 3) := by decide +kernel
theorem dL_build_742 : decode cL_build 742 = .ok (.iconst 1, 1) := by decide +kernel
theorem dL_build_743 : decode cL_build 743 = .ok (.iadd, 1) := by decide +kernel
theorem dL_build_744 : decode cL_build 744 = .ok (.istore 13, 2) := by decide +kernel
theorem dL_build_746 : decode cL_build 746 = .ok (.aload_n 3, 1) := by decide +kernel
theorem dL_build_747 : decode cL_build 747 = .ok (.getfield 49, 3) := by decide +kernel
theorem dL_build_750 : decode cL_build 750 = .ok (.iload 16, 2) := by decide +kernel
theorem dL_build_752 : decode cL_build 752 = .ok (.sipush 9999, 3) := by decide +kernel
theorem dL_build_755 : decode cL_build 755 = .ok (.iastore, 1) := by decide +kernel
theorem dL_build_756 : decode cL_build 756 = .ok (.iinc 16 1, 3) := by decide +kernel
theorem dL_build_759 : decode cL_build 759 = .ok (.goto (-46), 3) := by decide +kernel
theorem dL_build_762 : decode cL_build 762 = .ok (.aload_n 0, 1) := by decide +kernel
theorem dL_build_763 : decode cL_build 763 = .ok (.iload 14, 2) := by decide +kernel
theorem dL_build_765 : decode cL_build 765 = .ok (.iload 15, 2) := by decide +kernel
theorem dL_build_767 : decode cL_build 767 = .ok (.invokevirtual 56, 3) := by decide +kernel
theorem dL_build_770 : decode cL_build 770 = .ok (.iload 13, 2) := by decide +kernel
theorem dL_build_772 : decode cL_build 772 = .ok (.if_icmp .eq 5, 3) := by decide +kernel
theorem dL_build_775 : decode cL_build 775 = .ok (.aconst_null, 1) := by decide +kernel
theorem dL_build_776 : decode cL_build 776 = .ok (.areturn, 1) := by decide +kernel
theorem dL_build_777 : decode cL_build 777 = .ok (.iconst 0, 1) := by decide +kernel
theorem dL_build_778 : decode cL_build 778 = .ok (.istore 16, 2) := by decide +kernel
theorem dL_build_780 : decode cL_build 780 = .ok (.iload 7, 2) := by decide +kernel
theorem dL_build_782 : decode cL_build 782 = .ok (.bipush 7, 2) := by decide +kernel
theorem dL_build_784 : decode cL_build 784 = .ok (.ishr, 1) := by decide +kernel
theorem dL_build_785 : decode cL_build 785 = .ok (.sipush 200, 3) := by decide +kernel
theorem dL_build_788 : decode cL_build 788 = .ok (.invokestatic 18, 3) := by decide +kernel
theorem dL_build_791 : decode cL_build 791 = .ok (.istore 14, 2) := by decide +kernel
theorem dL_build_793 : decode cL_build 793 = .ok (.iload 14, 2) := by decide +kernel
theorem dL_build_795 : decode cL_build 795 = .ok (.istore 17, 2) := by decide +kernel
theorem dL_build_797 : decode cL_build 797 = .ok (.iload 17, 2) := by decide +kernel
theorem dL_build_799 : decode cL_build 799 = .ok (.iload 14, 2) := by decide +kernel
theorem dL_build_801 : decode cL_build 801 = .ok (.iload 15, 2) := by decide +kernel
theorem dL_build_803 : decode cL_build 803 = .ok (.iadd, 1) := by decide +kernel
theorem dL_build_804 : decode cL_build 804 = .ok (.if_icmp .ge 60, 3) := by decide +kernel
theorem dL_build_807 : decode cL_build 807 = .ok (.iload 16, 2) := by decide +kernel
theorem dL_build_809 : decode cL_build 809 = .ok (.aload_n 3, 1) := by decide +kernel
theorem dL_build_810 : decode cL_build 810 = .ok (.getfield 59, 3) := by decide +kernel
theorem dL_build_813 : decode cL_build 813 = .ok (.iload 17, 2) := by decide +kernel
theorem dL_build_815 : decode cL_build 815 = .ok (.baload, 1) := by decide +kernel
theorem dL_build_816 : decode cL_build 816 = .ok (.iload 6, 2) := by decide +kernel
theorem dL_build_818 : decode cL_build 818 = .ok (.iconst 3, 1) := by decide +kernel
theorem dL_build_819 : decode cL_build 819 = .ok (.irem, 1) := by decide +kernel
theorem dL_build_820 : decode cL_build 820 = .ok (.ifCond .le 7, 3) := by decide +kernel
theorem dL_build_823 : decode cL_build 823 = .ok (.iconst 1, 1) := by decide +kernel
theorem dL_build_824 : decode cL_build 824 = .ok (.goto 4, 3) := by decide +kernel
theorem dL_build_827 : decode cL_build 827 = .ok (.iconst 0, 1) := by decide +kernel
theorem dL_build_828 : decode cL_build 828 = .ok (.if_icmp .ne 7, 3) := by decide +kernel
theorem dL_build_831 : decode cL_build 831 = .ok (.iconst 0, 1) := by decide +kernel
theorem dL_build_832 : decode cL_build 832 = .ok (.goto 4, 3) := by decide +kernel
theorem dL_build_835 : decode cL_build 835 = .ok (.iconst 1, 1) := by decide +kernel
theorem dL_build_836 : decode cL_build 836 = .ok (.iadd, 1) := by decide +kernel
theorem dL_build_837 : decode cL_build 837 = .ok (.istore 16, 2) := by decide +kernel
theorem dL_build_839 : decode cL_build 839 = .ok (.aload_n 3, 1) := by decide +kernel
theorem dL_build_840 : decode cL_build 840 = .ok (.getfield 59, 3) := by decide +kernel
theorem dL_build_843 : decode cL_build 843 = .ok (.iload 17, 2) := by decide +kernel
theorem dL_build_845 : decode cL_build 845 = .ok (.iload 6, 2) := by decide +kernel
theorem dL_build_847 : decode cL_build 847 = .ok (.iconst 3, 1) := by decide +kernel
theorem dL_build_848 : decode cL_build 848 = .ok (.irem, 1) := by decide +kernel
theorem dL_build_849 : decode cL_build 849 = .ok (.ifCond .le 7, 3) := by decide +kernel
theorem dL_build_852 : decode cL_build 852 = .ok (.iconst 1, 1) := by decide +kernel
theorem dL_build_853 : decode cL_build 853 = .ok (.goto 4, 3) := by decide +kernel
theorem dL_build_856 : decode cL_build 856 = .ok (.iconst 0, 1) := by decide +kernel
theorem dL_build_857 : decode cL_build 857 = .ok (.bastore, 1) := by decide +kernel
theorem dL_build_858 : decode cL_build 858 = .ok (.iinc 17 1, 3) := by decide +kernel
theorem dL_build_861 : decode cL_build 861 = .ok (.goto (-64), 3) := by decide +kernel
theorem dL_build_864 : decode cL_build 864 = .ok (.aload_n 0, 1) := by decide +kernel
theorem dL_build_865 : decode cL_build 865 = .ok (.iload 14, 2) := by decide +kernel
theorem dL_build_867 : decode cL_build 867 = .ok (.iload 15, 2) := by decide +kernel
theorem dL_build_869 : decode cL_build 869 = .ok (.iload 6, 2) := by decide +kernel
theorem dL_build_871 : decode cL_build 871 = .ok (.iconst 3, 1) := by decide +kernel
theorem dL_build_872 : decode cL_build 872 = .ok (.irem, 1) := by decide +kernel
theorem dL_build_873 : decode cL_build 873 = .ok (.ifCond .le 7, 3) := by decide +kernel
theorem dL_build_876 : decode cL_build 876 = .ok (.iconst 1, 1) := by decide +kernel
theorem dL_build_877 : decode cL_build 877 = .ok (.goto 4, 3) := by decide +kernel
theorem dL_build_880 : decode cL_build 880 = .ok (.iconst 0, 1) := by decide +kernel
theorem dL_build_881 : decode cL_build 881 = .ok (.invokevirtual 63, 3) := by decide +kernel
theorem dL_build_884 : decode cL_build 884 = .ok (.iload 16, 2) := by decide +kernel
theorem dL_build_886 : decode cL_build 886 = .ok (.if_icmp .eq 5, 3) := by decide +kernel
theorem dL_build_889 : decode cL_build 889 = .ok (.aconst_null, 1) := by decide +kernel
theorem dL_build_890 : decode cL_build 890 = .ok (.areturn, 1) := by decide +kernel
theorem dL_build_891 : decode cL_build 891 = .ok (.iinc 6 1, 3) := by decide +kernel
theorem dL_build_894 : decode cL_build 894 = .ok (.goto (-381), 3) := by decide +kernel
theorem dL_build_897 : decode cL_build 897 = .ok (.aload_n 1, 1) := by decide +kernel
theorem dL_build_898 : decode cL_build 898 = .ok (.iload_n 2, 1) := by decide +kernel
theorem dL_build_899 : decode cL_build 899 = .ok (.bipush 11, 2) := by decide +kernel
theorem dL_build_901 : decode cL_build 901 = .ok (.iadd, 1) := by decide +kernel
theorem dL_build_902 : decode cL_build 902 = .ok (.invokestatic 12, 3) := by decide +kernel
theorem dL_build_905 : decode cL_build 905 = .ok (.istore 6, 2) := by decide +kernel
theorem dL_build_907 : decode cL_build 907 = .ok (.iload 6, 2) := by decide +kernel
theorem dL_build_909 : decode cL_build 909 = .ok (.iconst 3, 1) := by decide +kernel
theorem dL_build_910 : decode cL_build 910 = .ok (.invokestatic 18, 3) := by decide +kernel
theorem dL_build_913 : decode cL_build 913 = .ok (.ifCond .le 56, 3) := by decide +kernel
theorem dL_build_916 : decode cL_build 916 = .ok (.aload_n 3, 1) := by decide +kernel
theorem dL_build_917 : decode cL_build 917 = .ok (.getfield 32, 3) := by decide +kernel
theorem dL_build_920 : decode cL_build 920 = .ok (.iconst 0, 1) := by decide +kernel
theorem dL_build_921 : decode cL_build 921 = .ok (.iload 6, 2) := by decide +kernel
theorem dL_build_923 : decode cL_build 923 = .ok (.iconst 2, 1) := by decide +kernel
theorem dL_build_924 : decode cL_build 924 = .ok (.ishr, 1) := by decide +kernel
theorem dL_build_925 : decode cL_build 925 = .ok (.bipush 101, 2) := by decide +kernel
theorem dL_build_927 : decode cL_build 927 = .ok (.invokestatic 18, 3) := by decide +kernel
theorem dL_build_930 : decode cL_build 930 = .ok (.iastore, 1) := by decide +kernel
theorem dL_build_931 : decode cL_build 931 = .ok (.aload_n 3, 1) := by decide +kernel
theorem dL_build_932 : decode cL_build 932 = .ok (.getfield 32, 3) := by decide +kernel
theorem dL_build_935 : decode cL_build 935 = .ok (.iconst 1, 1) := by decide +kernel
theorem dL_build_936 : decode cL_build 936 = .ok (.iload 6, 2) := by decide +kernel
theorem dL_build_938 : decode cL_build 938 = .ok (.iconst 5, 1) := by decide +kernel
theorem dL_build_939 : decode cL_build 939 = .ok (.ishr, 1) := by decide +kernel
theorem dL_build_940 : decode cL_build 940 = .ok (.bipush 61, 2) := by decide +kernel
theorem dL_build_942 : decode cL_build 942 = .ok (.invokestatic 18, 3) := by decide +kernel
theorem dL_build_945 : decode cL_build 945 = .ok (.iastore, 1) := by decide +kernel
theorem dL_build_946 : decode cL_build 946 = .ok (.aload_n 0, 1) := by decide +kernel
theorem dL_build_947 : decode cL_build 947 = .ok (.aload_n 3, 1) := by decide +kernel
theorem dL_build_948 : decode cL_build 948 = .ok (.getfield 32, 3) := by decide +kernel
theorem dL_build_951 : decode cL_build 951 = .ok (.iconst 0, 1) := by decide +kernel
theorem dL_build_952 : decode cL_build 952 = .ok (.iaload, 1) := by decide +kernel
theorem dL_build_953 : decode cL_build 953 = .ok (.aload_n 3, 1) := by decide +kernel
theorem dL_build_954 : decode cL_build 954 = .ok (.getfield 32, 3) := by decide +kernel
theorem dL_build_957 : decode cL_build 957 = .ok (.iconst 1, 1) := by decide +kernel
theorem dL_build_958 : decode cL_build 958 = .ok (.iaload, 1) := by decide +kernel
theorem dL_build_959 : decode cL_build 959 = .ok (.invokevirtual 67, 3) := by decide +kernel
theorem dL_build_962 : decode cL_build 962 = .ok (.bipush 60, 2) := by decide +kernel
theorem dL_build_964 : decode cL_build 964 = .ok (.if_icmp .eq 5, 3) := by decide +kernel
theorem dL_build_967 : decode cL_build 967 = .ok (.aconst_null, 1) := by decide +kernel
theorem dL_build_968 : decode cL_build 968 = .ok (.areturn, 1) := by decide +kernel
theorem dL_build_969 : decode cL_build 969 = .ok (.aload_n 3, 1) := by decide +kernel
theorem dL_build_970 : decode cL_build 970 = .ok (.areturn, 1) := by decide +kernel
