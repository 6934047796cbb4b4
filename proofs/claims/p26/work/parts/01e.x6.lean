theorem dX6_init_0 : decode cX6_init 0 = .ok (.aload_n 0, 1) := by decide +kernel
theorem dX6_init_1 : decode cX6_init 1 = .ok (.invokespecial 1, 3) := by decide +kernel
theorem dX6_init_4 : decode cX6_init 4 = .ok (.aload_n 0, 1) := by decide +kernel
theorem dX6_init_5 : decode cX6_init 5 = .ok (.bipush 6, 2) := by decide +kernel
theorem dX6_init_7 : decode cX6_init 7 = .ok (.bipush 30, 2) := by decide +kernel
theorem dX6_init_9 : decode cX6_init 9 = .ok (.multianewarray 7 2, 4) := by decide +kernel
theorem dX6_init_13 : decode cX6_init 13 = .ok (.putfield 9, 3) := by decide +kernel
theorem dX6_init_16 : decode cX6_init 16 = .ok (.aload_n 0, 1) := by decide +kernel
theorem dX6_init_17 : decode cX6_init 17 = .ok (.sipush 400, 3) := by decide +kernel
theorem dX6_init_20 : decode cX6_init 20 = .ok (.newarray .int, 2) := by decide +kernel
theorem dX6_init_22 : decode cX6_init 22 = .ok (.putfield 14, 3) := by decide +kernel
theorem dX6_init_25 : decode cX6_init 25 = .ok (.aload_n 0, 1) := by decide +kernel
theorem dX6_init_26 : decode cX6_init 26 = .ok (.sipush 400, 3) := by decide +kernel
theorem dX6_init_29 : decode cX6_init 29 = .ok (.newarray .int, 2) := by decide +kernel
theorem dX6_init_31 : decode cX6_init 31 = .ok (.putfield 18, 3) := by decide +kernel
theorem dX6_init_34 : decode cX6_init 34 = .ok (.aload_n 0, 1) := by decide +kernel
theorem dX6_init_35 : decode cX6_init 35 = .ok (.sipush 400, 3) := by decide +kernel
theorem dX6_init_38 : decode cX6_init 38 = .ok (.newarray .boolean, 2) := by decide +kernel
theorem dX6_init_40 : decode cX6_init 40 = .ok (.putfield 21, 3) := by decide +kernel
theorem dX6_init_43 : decode cX6_init 43 = .ok (.aload_n 0, 1) := by decide +kernel
theorem dX6_init_44 : decode cX6_init 44 = .ok (.iconst 4, 1) := by decide +kernel
theorem dX6_init_45 : decode cX6_init 45 = .ok (.newarray .int, 2) := by decide +kernel
theorem dX6_init_47 : decode cX6_init 47 = .ok (.dup, 1) := by decide +kernel
theorem dX6_init_48 : decode cX6_init 48 = .ok (.iconst 0, 1) := by decide +kernel
theorem dX6_init_49 : decode cX6_init 49 = .ok (.bipush 60, 2) := by decide +kernel
theorem dX6_init_51 : decode cX6_init 51 = .ok (.iastore, 1) := by decide +kernel
theorem dX6_init_52 : decode cX6_init 52 = .ok (.dup, 1) := by decide +kernel
theorem dX6_init_53 : decode cX6_init 53 = .ok (.iconst 1, 1) := by decide +kernel
theorem dX6_init_54 : decode cX6_init 54 = .ok (.iconst 5, 1) := by decide +kernel
theorem dX6_init_55 : decode cX6_init 55 = .ok (.iastore, 1) := by decide +kernel
theorem dX6_init_56 : decode cX6_init 56 = .ok (.dup, 1) := by decide +kernel
theorem dX6_init_57 : decode cX6_init 57 = .ok (.iconst 2, 1) := by decide +kernel
theorem dX6_init_58 : decode cX6_init 58 = .ok (.iconst 0, 1) := by decide +kernel
theorem dX6_init_59 : decode cX6_init 59 = .ok (.iastore, 1) := by decide +kernel
theorem dX6_init_60 : decode cX6_init 60 = .ok (.dup, 1) := by decide +kernel
theorem dX6_init_61 : decode cX6_init 61 = .ok (.iconst 3, 1) := by decide +kernel
theorem dX6_init_62 : decode cX6_init 62 = .ok (.iconst 0, 1) := by decide +kernel
theorem dX6_init_63 : decode cX6_init 63 = .ok (.iastore, 1) := by decide +kernel
theorem dX6_init_64 : decode cX6_init 64 = .ok (.putfield 25, 3) := by decide +kernel
theorem dX6_init_67 : decode cX6_init 67 = .ok (.iconst 0, 1) := by decide +kernel
theorem dX6_init_68 : decode cX6_init 68 = .ok (.istore_n 1, 1) := by decide +kernel
theorem dX6_init_69 : decode cX6_init 69 = .ok (.iload_n 1, 1) := by decide +kernel
theorem dX6_init_70 : decode cX6_init 70 = .ok (.sipush 400, 3) := by decide +kernel
theorem dX6_init_73 : decode cX6_init 73 = .ok (.if_icmp .ge 27, 3) := by decide +kernel
theorem dX6_init_76 : decode cX6_init 76 = .ok (.aload_n 0, 1) := by decide +kernel
theorem dX6_init_77 : decode cX6_init 77 = .ok (.getfield 14, 3) := by decide +kernel
theorem dX6_init_80 : decode cX6_init 80 = .ok (.iload_n 1, 1) := by decide +kernel
theorem dX6_init_81 : decode cX6_init 81 = .ok (.sipush 9999, 3) := by decide +kernel
theorem dX6_init_84 : decode cX6_init 84 = .ok (.iastore, 1) := by decide +kernel
theorem dX6_init_85 : decode cX6_init 85 = .ok (.aload_n 0, 1) := by decide +kernel
theorem dX6_init_86 : decode cX6_init 86 = .ok (.getfield 18, 3) := by decide +kernel
theorem dX6_init_89 : decode cX6_init 89 = .ok (.iload_n 1, 1) := by decide +kernel
theorem dX6_init_90 : decode cX6_init 90 = .ok (.sipush 9999, 3) := by decide +kernel
theorem dX6_init_93 : decode cX6_init 93 = .ok (.iastore, 1) := by decide +kernel
theorem dX6_init_94 : decode cX6_init 94 = .ok (.iinc 1 1, 3) := by decide +kernel
theorem dX6_init_97 : decode cX6_init 97 = .ok (.goto (-28), 3) := by decide +kernel
theorem dX6_init_100 : decode cX6_init 100 = .ok (.return_, 1) := by decide +kernel
theorem dX6_shift_0 : decode cX6_shift 0 = .ok (.iconst (-1), 1) := by decide +kernel
theorem dX6_shift_1 : decode cX6_shift 1 = .ok (.istore_n 2, 1) := by decide +kernel
theorem dX6_shift_2 : decode cX6_shift 2 = .ok (.iconst (-1), 1) := by decide +kernel
theorem dX6_shift_3 : decode cX6_shift 3 = .ok (.istore_n 3, 1) := by decide +kernel
theorem dX6_shift_4 : decode cX6_shift 4 = .ok (.iconst 0, 1) := by decide +kernel
theorem dX6_shift_5 : decode cX6_shift 5 = .ok (.istore 4, 2) := by decide +kernel
theorem dX6_shift_7 : decode cX6_shift 7 = .ok (.iload 4, 2) := by decide +kernel
theorem dX6_shift_9 : decode cX6_shift 9 = .ok (.sipush 400, 3) := by decide +kernel
theorem dX6_shift_12 : decode cX6_shift 12 = .ok (.if_icmp .ge 47, 3) := by decide +kernel
theorem dX6_shift_15 : decode cX6_shift 15 = .ok (.aload_n 0, 1) := by decide +kernel
theorem dX6_shift_16 : decode cX6_shift 16 = .ok (.getfield 14, 3) := by decide +kernel
theorem dX6_shift_19 : decode cX6_shift 19 = .ok (.iload 4, 2) := by decide +kernel
theorem dX6_shift_21 : decode cX6_shift 21 = .ok (.iaload, 1) := by decide +kernel
theorem dX6_shift_22 : decode cX6_shift 22 = .ok (.sipush 9999, 3) := by decide +kernel
theorem dX6_shift_25 : decode cX6_shift 25 = .ok (.if_icmp .ne 6, 3) := by decide +kernel
theorem dX6_shift_28 : decode cX6_shift 28 = .ok (.goto 25, 3) := by decide +kernel
theorem dX6_shift_31 : decode cX6_shift 31 = .ok (.iload 4, 2) := by decide +kernel
theorem dX6_shift_33 : decode cX6_shift 33 = .ok (.iload_n 1, 1) := by decide +kernel
theorem dX6_shift_34 : decode cX6_shift 34 = .ok (.if_icmp .gt 6, 3) := by decide +kernel
theorem dX6_shift_37 : decode cX6_shift 37 = .ok (.iload 4, 2) := by decide +kernel
theorem dX6_shift_39 : decode cX6_shift 39 = .ok (.istore_n 2, 1) := by decide +kernel
theorem dX6_shift_40 : decode cX6_shift 40 = .ok (.iload 4, 2) := by decide +kernel
theorem dX6_shift_42 : decode cX6_shift 42 = .ok (.iload_n 1, 1) := by decide +kernel
theorem dX6_shift_43 : decode cX6_shift 43 = .ok (.if_icmp .lt 10, 3) := by decide +kernel
theorem dX6_shift_46 : decode cX6_shift 46 = .ok (.iload_n 3, 1) := by decide +kernel
theorem dX6_shift_47 : decode cX6_shift 47 = .ok (.ifCond .ge 6, 3) := by decide +kernel
theorem dX6_shift_50 : decode cX6_shift 50 = .ok (.iload 4, 2) := by decide +kernel
theorem dX6_shift_52 : decode cX6_shift 52 = .ok (.istore_n 3, 1) := by decide +kernel
theorem dX6_shift_53 : decode cX6_shift 53 = .ok (.iinc 4 1, 3) := by decide +kernel
theorem dX6_shift_56 : decode cX6_shift 56 = .ok (.goto (-49), 3) := by decide +kernel
theorem dX6_shift_59 : decode cX6_shift 59 = .ok (.iload_n 2, 1) := by decide +kernel
theorem dX6_shift_60 : decode cX6_shift 60 = .ok (.ifCond .lt 7, 3) := by decide +kernel
theorem dX6_shift_63 : decode cX6_shift 63 = .ok (.iload_n 3, 1) := by decide +kernel
theorem dX6_shift_64 : decode cX6_shift 64 = .ok (.ifCond .ge 31, 3) := by decide +kernel
theorem dX6_shift_67 : decode cX6_shift 67 = .ok (.iload_n 2, 1) := by decide +kernel
theorem dX6_shift_68 : decode cX6_shift 68 = .ok (.ifCond .lt 12, 3) := by decide +kernel
theorem dX6_shift_71 : decode cX6_shift 71 = .ok (.aload_n 0, 1) := by decide +kernel
theorem dX6_shift_72 : decode cX6_shift 72 = .ok (.getfield 14, 3) := by decide +kernel
theorem dX6_shift_75 : decode cX6_shift 75 = .ok (.iload_n 2, 1) := by decide +kernel
theorem dX6_shift_76 : decode cX6_shift 76 = .ok (.iaload, 1) := by decide +kernel
theorem dX6_shift_77 : decode cX6_shift 77 = .ok (.goto 17, 3) := by decide +kernel
theorem dX6_shift_80 : decode cX6_shift 80 = .ok (.iload_n 3, 1) := by decide +kernel
theorem dX6_shift_81 : decode cX6_shift 81 = .ok (.ifCond .lt 12, 3) := by decide +kernel
theorem dX6_shift_84 : decode cX6_shift 84 = .ok (.aload_n 0, 1) := by decide +kernel
theorem dX6_shift_85 : decode cX6_shift 85 = .ok (.getfield 14, 3) := by decide +kernel
theorem dX6_shift_88 : decode cX6_shift 88 = .ok (.iload_n 3, 1) := by decide +kernel
theorem dX6_shift_89 : decode cX6_shift 89 = .ok (.iaload, 1) := by decide +kernel
theorem dX6_shift_90 : decode cX6_shift 90 = .ok (.goto 4, 3) := by decide +kernel
theorem dX6_shift_93 : decode cX6_shift 93 = .ok (.iconst 0, 1) := by decide +kernel
theorem dX6_shift_94 : decode cX6_shift 94 = .ok (.ireturn, 1) := by decide +kernel
theorem dX6_shift_95 : decode cX6_shift 95 = .ok (.iload_n 2, 1) := by decide +kernel
theorem dX6_shift_96 : decode cX6_shift 96 = .ok (.iload_n 3, 1) := by decide +kernel
theorem dX6_shift_97 : decode cX6_shift 97 = .ok (.if_icmp .ne 12, 3) := by decide +kernel
theorem dX6_shift_100 : decode cX6_shift 100 = .ok (.aload_n 0, 1) := by decide +kernel
theorem dX6_shift_101 : decode cX6_shift 101 = .ok (.getfield 14, 3) := by decide +kernel
theorem dX6_shift_104 : decode cX6_shift 104 = .ok (.iload_n 2, 1) := by decide +kernel
theorem dX6_shift_105 : decode cX6_shift 105 = .ok (.iaload, 1) := by decide +kernel
theorem dX6_shift_106 : decode cX6_shift 106 = .ok (.goto 31, 3) := by decide +kernel
theorem dX6_shift_109 : decode cX6_shift 109 = .ok (.aload_n 0, 1) := by decide +kernel
theorem dX6_shift_110 : decode cX6_shift 110 = .ok (.getfield 14, 3) := by decide +kernel
theorem dX6_shift_113 : decode cX6_shift 113 = .ok (.iload_n 2, 1) := by decide +kernel
theorem dX6_shift_114 : decode cX6_shift 114 = .ok (.iaload, 1) := by decide +kernel
theorem dX6_shift_115 : decode cX6_shift 115 = .ok (.aload_n 0, 1) := by decide +kernel
theorem dX6_shift_116 : decode cX6_shift 116 = .ok (.getfield 14, 3) := by decide +kernel
theorem dX6_shift_119 : decode cX6_shift 119 = .ok (.iload_n 3, 1) := by decide +kernel
theorem dX6_shift_120 : decode cX6_shift 120 = .ok (.iaload, 1) := by decide +kernel
theorem dX6_shift_121 : decode cX6_shift 121 = .ok (.aload_n 0, 1) := by decide +kernel
theorem dX6_shift_122 : decode cX6_shift 122 = .ok (.getfield 14, 3) := by decide +kernel
theorem dX6_shift_125 : decode cX6_shift 125 = .ok (.iload_n 2, 1) := by decide +kernel
theorem dX6_shift_126 : decode cX6_shift 126 = .ok (.iaload, 1) := by decide +kernel
theorem dX6_shift_127 : decode cX6_shift 127 = .ok (.isub, 1) := by decide +kernel
theorem dX6_shift_128 : decode cX6_shift 128 = .ok (.iload_n 1, 1) := by decide +kernel
theorem dX6_shift_129 : decode cX6_shift 129 = .ok (.iload_n 2, 1) := by decide +kernel
theorem dX6_shift_130 : decode cX6_shift 130 = .ok (.isub, 1) := by decide +kernel
theorem dX6_shift_131 : decode cX6_shift 131 = .ok (.imul, 1) := by decide +kernel
theorem dX6_shift_132 : decode cX6_shift 132 = .ok (.iload_n 3, 1) := by decide +kernel
theorem dX6_shift_133 : decode cX6_shift 133 = .ok (.iload_n 2, 1) := by decide +kernel
theorem dX6_shift_134 : decode cX6_shift 134 = .ok (.isub, 1) := by decide +kernel
theorem dX6_shift_135 : decode cX6_shift 135 = .ok (.idiv, 1) := by decide +kernel
theorem dX6_shift_136 : decode cX6_shift 136 = .ok (.iadd, 1) := by decide +kernel
theorem dX6_shift_137 : decode cX6_shift 137 = .ok (.ireturn, 1) := by decide +kernel
theorem dJ9_max_7cf53_0 : decode cJ9_max_7cf53 0 = .ok (.iload_n 0, 1) := by decide +kernel
theorem dJ9_max_7cf53_1 : decode cJ9_max_7cf53 1 = .ok (.iload_n 1, 1) := by decide +kernel
theorem dJ9_max_7cf53_2 : decode cJ9_max_7cf53 2 = .ok (.if_icmp .lt 7, 3) := by decide +kernel
theorem dJ9_max_7cf53_5 : decode cJ9_max_7cf53 5 = .ok (.iload_n 0, 1) := by decide +kernel
theorem dJ9_max_7cf53_6 : decode cJ9_max_7cf53 6 = .ok (.goto 4, 3) := by decide +kernel
theorem dJ9_max_7cf53_9 : decode cJ9_max_7cf53 9 = .ok (.iload_n 1, 1) := by decide +kernel
theorem dJ9_max_7cf53_10 : decode cJ9_max_7cf53 10 = .ok (.ireturn, 1) := by decide +kernel
theorem dJ9_max_f86c9_0 : decode cJ9_max_f86c9 0 = .ok (.lload_n 0, 1) := by decide +kernel
theorem dJ9_max_f86c9_1 : decode cJ9_max_f86c9 1 = .ok (.lload_n 2, 1) := by decide +kernel
theorem dJ9_max_f86c9_2 : decode cJ9_max_f86c9 2 = .ok (.lcmp, 1) := by decide +kernel
theorem dJ9_max_f86c9_3 : decode cJ9_max_f86c9 3 = .ok (.ifCond .lt 7, 3) := by decide +kernel
theorem dJ9_max_f86c9_6 : decode cJ9_max_f86c9 6 = .ok (.lload_n 0, 1) := by decide +kernel
theorem dJ9_max_f86c9_7 : decode cJ9_max_f86c9 7 = .ok (.goto 4, 3) := by decide +kernel
theorem dJ9_max_f86c9_10 : decode cJ9_max_f86c9 10 = .ok (.lload_n 2, 1) := by decide +kernel
theorem dJ9_max_f86c9_11 : decode cJ9_max_f86c9 11 = .ok (.lreturn, 1) := by decide +kernel
theorem dJ9_min_7cf53_0 : decode cJ9_min_7cf53 0 = .ok (.iload_n 0, 1) := by decide +kernel
theorem dJ9_min_7cf53_1 : decode cJ9_min_7cf53 1 = .ok (.iload_n 1, 1) := by decide +kernel
theorem dJ9_min_7cf53_2 : decode cJ9_min_7cf53 2 = .ok (.if_icmp .gt 7, 3) := by decide +kernel
theorem dJ9_min_7cf53_5 : decode cJ9_min_7cf53 5 = .ok (.iload_n 0, 1) := by decide +kernel
theorem dJ9_min_7cf53_6 : decode cJ9_min_7cf53 6 = .ok (.goto 4, 3) := by decide +kernel
theorem dJ9_min_7cf53_9 : decode cJ9_min_7cf53 9 = .ok (.iload_n 1, 1) := by decide +kernel
theorem dJ9_min_7cf53_10 : decode cJ9_min_7cf53 10 = .ok (.ireturn, 1) := by decide +kernel
theorem dJ9_min_f86c9_0 : decode cJ9_min_f86c9 0 = .ok (.lload_n 0, 1) := by decide +kernel
theorem dJ9_min_f86c9_1 : decode cJ9_min_f86c9 1 = .ok (.lload_n 2, 1) := by decide +kernel
theorem dJ9_min_f86c9_2 : decode cJ9_min_f86c9 2 = .ok (.lcmp, 1) := by decide +kernel
theorem dJ9_min_f86c9_3 : decode cJ9_min_f86c9 3 = .ok (.ifCond .gt 7, 3) := by decide +kernel
theorem dJ9_min_f86c9_6 : decode cJ9_min_f86c9 6 = .ok (.lload_n 0, 1) := by decide +kernel
theorem dJ9_min_f86c9_7 : decode cJ9_min_f86c9 7 = .ok (.goto 4, 3) := by decide +kernel
theorem dJ9_min_f86c9_10 : decode cJ9_min_f86c9 10 = .ok (.lload_n 2, 1) := by decide +kernel
theorem dJ9_min_f86c9_11 : decode cJ9_min_f86c9 11 = .ok (.lreturn, 1) := by decide +kernel
