theorem dX10_simple_301 : decode cX10_simple 301 = .ok (.iconst 0, 1) := by decide +kernel
theorem dX10_simple_302 : decode cX10_simple 302 = .ok (.ireturn, 1) := by decide +kernel
theorem dX10_simple_303 : decode cX10_simple 303 = .ok (.aload_n 0, 1) := by decide +kernel
theorem dX10_simple_304 : decode cX10_simple 304 = .ok (.getfield 248, 3) := by decide +kernel
theorem dX10_simple_307 : decode cX10_simple 307 = .ok (.bipush 20, 2) := by decide +kernel
theorem dX10_simple_309 : decode cX10_simple 309 = .ok (.if_icmp .ne 6, 3) := by decide +kernel
theorem dX10_simple_312 : decode cX10_simple 312 = .ok (.bipush 9, 2) := by decide +kernel
theorem dX10_simple_314 : decode cX10_simple 314 = .ok (.ireturn, 1) := by decide +kernel
theorem dX10_simple_315 : decode cX10_simple 315 = .ok (.aload_n 0, 1) := by decide +kernel
theorem dX10_simple_316 : decode cX10_simple 316 = .ok (.aload_n 0, 1) := by decide +kernel
theorem dX10_simple_317 : decode cX10_simple 317 = .ok (.lload_n 2, 1) := by decide +kernel
theorem dX10_simple_318 : decode cX10_simple 318 = .ok (.l2i, 1) := by decide +kernel
theorem dX10_simple_319 : decode cX10_simple 319 = .ok (.iconst 0, 1) := by decide +kernel
theorem dX10_simple_320 : decode cX10_simple 320 = .ok (.invokevirtual 308, 3) := by decide +kernel
theorem dX10_simple_323 : decode cX10_simple 323 = .ok (.i2l, 1) := by decide +kernel
theorem dX10_simple_324 : decode cX10_simple 324 = .ok (.invokevirtual 238, 3) := by decide +kernel
theorem dX10_simple_327 : decode cX10_simple 327 = .ok (.iconst 0, 1) := by decide +kernel
theorem dX10_simple_328 : decode cX10_simple 328 = .ok (.ireturn, 1) := by decide +kernel
theorem dX10_simple_329 : decode cX10_simple 329 = .ok (.aload_n 0, 1) := by decide +kernel
theorem dX10_simple_330 : decode cX10_simple 330 = .ok (.invokevirtual 293, 3) := by decide +kernel
theorem dX10_simple_333 : decode cX10_simple 333 = .ok (.lstore 15, 2) := by decide +kernel
theorem dX10_simple_335 : decode cX10_simple 335 = .ok (.iconst 0, 1) := by decide +kernel
theorem dX10_simple_336 : decode cX10_simple 336 = .ok (.ireturn, 1) := by decide +kernel
theorem dX10_make_0 : decode cX10_make 0 = .ok (.aload_n 0, 1) := by decide +kernel
theorem dX10_make_1 : decode cX10_make 1 = .ok (.getfield 63, 3) := by decide +kernel
theorem dX10_make_4 : decode cX10_make 4 = .ok (.aload_n 0, 1) := by decide +kernel
theorem dX10_make_5 : decode cX10_make 5 = .ok (.getfield 248, 3) := by decide +kernel
theorem dX10_make_8 : decode cX10_make 8 = .ok (.iload_n 1, 1) := by decide +kernel
theorem dX10_make_9 : decode cX10_make 9 = .ok (.iastore, 1) := by decide +kernel
theorem dX10_make_10 : decode cX10_make 10 = .ok (.aload_n 0, 1) := by decide +kernel
theorem dX10_make_11 : decode cX10_make 11 = .ok (.getfield 66, 3) := by decide +kernel
theorem dX10_make_14 : decode cX10_make 14 = .ok (.aload_n 0, 1) := by decide +kernel
theorem dX10_make_15 : decode cX10_make 15 = .ok (.getfield 248, 3) := by decide +kernel
theorem dX10_make_18 : decode cX10_make 18 = .ok (.iload_n 2, 1) := by decide +kernel
theorem dX10_make_19 : decode cX10_make 19 = .ok (.iastore, 1) := by decide +kernel
theorem dX10_make_20 : decode cX10_make 20 = .ok (.aload_n 0, 1) := by decide +kernel
theorem dX10_make_21 : decode cX10_make 21 = .ok (.getfield 69, 3) := by decide +kernel
theorem dX10_make_24 : decode cX10_make 24 = .ok (.aload_n 0, 1) := by decide +kernel
theorem dX10_make_25 : decode cX10_make 25 = .ok (.getfield 248, 3) := by decide +kernel
theorem dX10_make_28 : decode cX10_make 28 = .ok (.iconst 0, 1) := by decide +kernel
theorem dX10_make_29 : decode cX10_make 29 = .ok (.iastore, 1) := by decide +kernel
theorem dX10_make_30 : decode cX10_make 30 = .ok (.iconst 0, 1) := by decide +kernel
theorem dX10_make_31 : decode cX10_make 31 = .ok (.istore_n 3, 1) := by decide +kernel
theorem dX10_make_32 : decode cX10_make 32 = .ok (.iload_n 3, 1) := by decide +kernel
theorem dX10_make_33 : decode cX10_make 33 = .ok (.iload_n 2, 1) := by decide +kernel
theorem dX10_make_34 : decode cX10_make 34 = .ok (.if_icmp .ge 36, 3) := by decide +kernel
theorem dX10_make_37 : decode cX10_make 37 = .ok (.aload_n 0, 1) := by decide +kernel
theorem dX10_make_38 : decode cX10_make 38 = .ok (.getfield 72, 3) := by decide +kernel
theorem dX10_make_41 : decode cX10_make 41 = .ok (.bipush 30, 2) := by decide +kernel
theorem dX10_make_43 : decode cX10_make 43 = .ok (.aload_n 0, 1) := by decide +kernel
theorem dX10_make_44 : decode cX10_make 44 = .ok (.getfield 248, 3) := by decide +kernel
theorem dX10_make_47 : decode cX10_make 47 = .ok (.imul, 1) := by decide +kernel
theorem dX10_make_48 : decode cX10_make 48 = .ok (.iload_n 3, 1) := by decide +kernel
theorem dX10_make_49 : decode cX10_make 49 = .ok (.iadd, 1) := by decide +kernel
theorem dX10_make_50 : decode cX10_make 50 = .ok (.iload_n 1, 1) := by decide +kernel
theorem dX10_make_51 : decode cX10_make 51 = .ok (.bipush 50, 2) := by decide +kernel
theorem dX10_make_53 : decode cX10_make 53 = .ok (.if_icmp .ne 7, 3) := by decide +kernel
theorem dX10_make_56 : decode cX10_make 56 = .ok (.lconst 0, 1) := by decide +kernel
theorem dX10_make_57 : decode cX10_make 57 = .ok (.goto 6, 3) := by decide +kernel
theorem dX10_make_60 : decode cX10_make 60 = .ok (.ldc2_w 141, 3) := by decide +kernel
theorem dX10_make_63 : decode cX10_make 63 = .ok (.lastore, 1) := by decide +kernel
theorem dX10_make_64 : decode cX10_make 64 = .ok (.iinc 3 1, 3) := by decide +kernel
theorem dX10_make_67 : decode cX10_make 67 = .ok (.goto (-35), 3) := by decide +kernel
theorem dX10_make_70 : decode cX10_make 70 = .ok (.aload_n 0, 1) := by decide +kernel
theorem dX10_make_71 : decode cX10_make 71 = .ok (.dup, 1) := by decide +kernel
theorem dX10_make_72 : decode cX10_make 72 = .ok (.getfield 248, 3) := by decide +kernel
theorem dX10_make_75 : decode cX10_make 75 = .ok (.iconst 1, 1) := by decide +kernel
theorem dX10_make_76 : decode cX10_make 76 = .ok (.iadd, 1) := by decide +kernel
theorem dX10_make_77 : decode cX10_make 77 = .ok (.putfield 248, 3) := by decide +kernel
theorem dX10_make_80 : decode cX10_make 80 = .ok (.aload_n 0, 1) := by decide +kernel
theorem dX10_make_81 : decode cX10_make 81 = .ok (.getfield 248, 3) := by decide +kernel
theorem dX10_make_84 : decode cX10_make 84 = .ok (.iconst 1, 1) := by decide +kernel
theorem dX10_make_85 : decode cX10_make 85 = .ok (.isub, 1) := by decide +kernel
theorem dX10_make_86 : decode cX10_make 86 = .ok (.ireturn, 1) := by decide +kernel
theorem dX10_isOf_0 : decode cX10_isOf 0 = .ok (.iload_n 2, 1) := by decide +kernel
theorem dX10_isOf_1 : decode cX10_isOf 1 = .ok (.ifCond .eq 27, 3) := by decide +kernel
theorem dX10_isOf_4 : decode cX10_isOf 4 = .ok (.aload_n 0, 1) := by decide +kernel
theorem dX10_isOf_5 : decode cX10_isOf 5 = .ok (.getfield 63, 3) := by decide +kernel
theorem dX10_isOf_8 : decode cX10_isOf 8 = .ok (.iload_n 1, 1) := by decide +kernel
theorem dX10_isOf_9 : decode cX10_isOf 9 = .ok (.iaload, 1) := by decide +kernel
theorem dX10_isOf_10 : decode cX10_isOf 10 = .ok (.bipush 6, 2) := by decide +kernel
theorem dX10_isOf_12 : decode cX10_isOf 12 = .ok (.if_icmp .ge 20, 3) := by decide +kernel
theorem dX10_isOf_15 : decode cX10_isOf 15 = .ok (.aload_n 0, 1) := by decide +kernel
theorem dX10_isOf_16 : decode cX10_isOf 16 = .ok (.getfield 63, 3) := by decide +kernel
theorem dX10_isOf_19 : decode cX10_isOf 19 = .ok (.iload_n 1, 1) := by decide +kernel
theorem dX10_isOf_20 : decode cX10_isOf 20 = .ok (.iaload, 1) := by decide +kernel
theorem dX10_isOf_21 : decode cX10_isOf 21 = .ok (.iload_n 2, 1) := by decide +kernel
theorem dX10_isOf_22 : decode cX10_isOf 22 = .ok (.invokestatic 111, 3) := by decide +kernel
theorem dX10_isOf_25 : decode cX10_isOf 25 = .ok (.ifCond .eq 7, 3) := by decide +kernel
theorem dX10_isOf_28 : decode cX10_isOf 28 = .ok (.iconst 1, 1) := by decide +kernel
theorem dX10_isOf_29 : decode cX10_isOf 29 = .ok (.goto 4, 3) := by decide +kernel
theorem dX10_isOf_32 : decode cX10_isOf 32 = .ok (.iconst 0, 1) := by decide +kernel
theorem dX10_isOf_33 : decode cX10_isOf 33 = .ok (.ireturn, 1) := by decide +kernel
theorem dX10_worth_0 : decode cX10_worth 0 = .ok (.aload_n 0, 1) := by decide +kernel
theorem dX10_worth_1 : decode cX10_worth 1 = .ok (.getfield 69, 3) := by decide +kernel
theorem dX10_worth_4 : decode cX10_worth 4 = .ok (.iload_n 1, 1) := by decide +kernel
theorem dX10_worth_5 : decode cX10_worth 5 = .ok (.iaload, 1) := by decide +kernel
theorem dX10_worth_6 : decode cX10_worth 6 = .ok (.istore_n 2, 1) := by decide +kernel
theorem dX10_worth_7 : decode cX10_worth 7 = .ok (.iconst 1, 1) := by decide +kernel
theorem dX10_worth_8 : decode cX10_worth 8 = .ok (.iload_n 2, 1) := by decide +kernel
theorem dX10_worth_9 : decode cX10_worth 9 = .ok (.iadd, 1) := by decide +kernel
theorem dX10_worth_10 : decode cX10_worth 10 = .ok (.istore_n 3, 1) := by decide +kernel
theorem dX10_worth_11 : decode cX10_worth 11 = .ok (.bipush 100, 2) := by decide +kernel
theorem dX10_worth_13 : decode cX10_worth 13 = .ok (.iload_n 2, 1) := by decide +kernel
theorem dX10_worth_14 : decode cX10_worth 14 = .ok (.iadd, 1) := by decide +kernel
theorem dX10_worth_15 : decode cX10_worth 15 = .ok (.istore 4, 2) := by decide +kernel
theorem dX10_worth_17 : decode cX10_worth 17 = .ok (.aload_n 0, 1) := by decide +kernel
theorem dX10_worth_18 : decode cX10_worth 18 = .ok (.getfield 63, 3) := by decide +kernel
theorem dX10_worth_21 : decode cX10_worth 21 = .ok (.iload_n 1, 1) := by decide +kernel
theorem dX10_worth_22 : decode cX10_worth 22 = .ok (.iaload, 1) := by decide +kernel
theorem dX10_worth_23 : decode cX10_worth 23 = .ok (.iconst 1, 1) := by decide +kernel
theorem dX10_worth_24 : decode cX10_worth 24 = .ok (.if_icmp .ne 7, 3) := by decide +kernel
theorem dX10_worth_27 : decode cX10_worth 27 = .ok (.iload_n 3, 1) := by decide +kernel
theorem dX10_worth_28 : decode cX10_worth 28 = .ok (.goto 60, 3) := by decide +kernel
theorem dX10_worth_31 : decode cX10_worth 31 = .ok (.aload_n 0, 1) := by decide +kernel
theorem dX10_worth_32 : decode cX10_worth 32 = .ok (.getfield 63, 3) := by decide +kernel
theorem dX10_worth_35 : decode cX10_worth 35 = .ok (.iload_n 1, 1) := by decide +kernel
theorem dX10_worth_36 : decode cX10_worth 36 = .ok (.iaload, 1) := by decide +kernel
theorem dX10_worth_37 : decode cX10_worth 37 = .ok (.iconst 2, 1) := by decide +kernel
theorem dX10_worth_38 : decode cX10_worth 38 = .ok (.if_icmp .ne 9, 3) := by decide +kernel
theorem dX10_worth_41 : decode cX10_worth 41 = .ok (.iconst 2, 1) := by decide +kernel
theorem dX10_worth_42 : decode cX10_worth 42 = .ok (.iload_n 3, 1) := by decide +kernel
theorem dX10_worth_43 : decode cX10_worth 43 = .ok (.imul, 1) := by decide +kernel
theorem dX10_worth_44 : decode cX10_worth 44 = .ok (.goto 44, 3) := by decide +kernel
theorem dX10_worth_47 : decode cX10_worth 47 = .ok (.aload_n 0, 1) := by decide +kernel
theorem dX10_worth_48 : decode cX10_worth 48 = .ok (.getfield 63, 3) := by decide +kernel
theorem dX10_worth_51 : decode cX10_worth 51 = .ok (.iload_n 1, 1) := by decide +kernel
theorem dX10_worth_52 : decode cX10_worth 52 = .ok (.iaload, 1) := by decide +kernel
theorem dX10_worth_53 : decode cX10_worth 53 = .ok (.iconst 3, 1) := by decide +kernel
theorem dX10_worth_54 : decode cX10_worth 54 = .ok (.if_icmp .ne 10, 3) := by decide +kernel
theorem dX10_worth_57 : decode cX10_worth 57 = .ok (.bipush 10, 2) := by decide +kernel
theorem dX10_worth_59 : decode cX10_worth 59 = .ok (.iload_n 3, 1) := by decide +kernel
theorem dX10_worth_60 : decode cX10_worth 60 = .ok (.iadd, 1) := by decide +kernel
theorem dX10_worth_61 : decode cX10_worth 61 = .ok (.goto 27, 3) := by decide +kernel
theorem dX10_worth_64 : decode cX10_worth 64 = .ok (.aload_n 0, 1) := by decide +kernel
theorem dX10_worth_65 : decode cX10_worth 65 = .ok (.getfield 63, 3) := by decide +kernel
theorem dX10_worth_68 : decode cX10_worth 68 = .ok (.iload_n 1, 1) := by decide +kernel
theorem dX10_worth_69 : decode cX10_worth 69 = .ok (.iaload, 1) := by decide +kernel
theorem dX10_worth_70 : decode cX10_worth 70 = .ok (.iconst 4, 1) := by decide +kernel
theorem dX10_worth_71 : decode cX10_worth 71 = .ok (.if_icmp .ne 15, 3) := by decide +kernel
theorem dX10_worth_74 : decode cX10_worth 74 = .ok (.iconst 2, 1) := by decide +kernel
theorem dX10_worth_75 : decode cX10_worth 75 = .ok (.iload_n 3, 1) := by decide +kernel
theorem dX10_worth_76 : decode cX10_worth 76 = .ok (.imul, 1) := by decide +kernel
theorem dX10_worth_77 : decode cX10_worth 77 = .ok (.bipush 10, 2) := by decide +kernel
theorem dX10_worth_79 : decode cX10_worth 79 = .ok (.isub, 1) := by decide +kernel
theorem dX10_worth_80 : decode cX10_worth 80 = .ok (.iload 4, 2) := by decide +kernel
theorem dX10_worth_82 : decode cX10_worth 82 = .ok (.iadd, 1) := by decide +kernel
theorem dX10_worth_83 : decode cX10_worth 83 = .ok (.goto 5, 3) := by decide +kernel
theorem dX10_worth_86 : decode cX10_worth 86 = .ok (.iload 4, 2) := by decide +kernel
theorem dX10_worth_88 : decode cX10_worth 88 = .ok (.ireturn, 1) := by decide +kernel
theorem dX10_ofThings_0 : decode cX10_ofThings 0 = .ok (.iconst 0, 1) := by decide +kernel
theorem dX10_ofThings_1 : decode cX10_ofThings 1 = .ok (.istore 4, 2) := by decide +kernel
theorem dX10_ofThings_3 : decode cX10_ofThings 3 = .ok (.iconst 0, 1) := by decide +kernel
theorem dX10_ofThings_4 : decode cX10_ofThings 4 = .ok (.istore 5, 2) := by decide +kernel
theorem dX10_ofThings_6 : decode cX10_ofThings 6 = .ok (.iload_n 1, 1) := by decide +kernel
theorem dX10_ofThings_7 : decode cX10_ofThings 7 = .ok (.tableswitch 440 14 24 #[57, 57, 119, 147, 216, 147, 216, 324, 374, 440, 408], 57) := by decide +kernel
theorem dX10_ofThings_64 : decode cX10_ofThings 64 = .ok (.aload_n 0, 1) := by decide +kernel
theorem dX10_ofThings_65 : decode cX10_ofThings 65 = .ok (.invokevirtual 293, 3) := by decide +kernel
theorem dX10_ofThings_68 : decode cX10_ofThings 68 = .ok (.l2i, 1) := by decide +kernel
theorem dX10_ofThings_69 : decode cX10_ofThings 69 = .ok (.istore 6, 2) := by decide +kernel
theorem dX10_ofThings_71 : decode cX10_ofThings 71 = .ok (.iload 6, 2) := by decide +kernel
theorem dX10_ofThings_73 : decode cX10_ofThings 73 = .ok (.ifCond .ge 5, 3) := by decide +kernel
theorem dX10_ofThings_76 : decode cX10_ofThings 76 = .ok (.iconst 5, 1) := by decide +kernel
theorem dX10_ofThings_77 : decode cX10_ofThings 77 = .ok (.ireturn, 1) := by decide +kernel
theorem dX10_ofThings_78 : decode cX10_ofThings 78 = .ok (.iload 6, 2) := by decide +kernel
theorem dX10_ofThings_80 : decode cX10_ofThings 80 = .ok (.bipush 30, 2) := by decide +kernel
theorem dX10_ofThings_82 : decode cX10_ofThings 82 = .ok (.if_icmp .gt 12, 3) := by decide +kernel
theorem dX10_ofThings_85 : decode cX10_ofThings 85 = .ok (.aload_n 0, 1) := by decide +kernel
theorem dX10_ofThings_86 : decode cX10_ofThings 86 = .ok (.getfield 248, 3) := by decide +kernel
theorem dX10_ofThings_89 : decode cX10_ofThings 89 = .ok (.bipush 20, 2) := by decide +kernel
theorem dX10_ofThings_91 : decode cX10_ofThings 91 = .ok (.if_icmp .ne 6, 3) := by decide +kernel
theorem dX10_ofThings_94 : decode cX10_ofThings 94 = .ok (.bipush 9, 2) := by decide +kernel
theorem dX10_ofThings_96 : decode cX10_ofThings 96 = .ok (.ireturn, 1) := by decide +kernel
theorem dX10_ofThings_97 : decode cX10_ofThings 97 = .ok (.aload_n 0, 1) := by decide +kernel
theorem dX10_ofThings_98 : decode cX10_ofThings 98 = .ok (.aload_n 0, 1) := by decide +kernel
theorem dX10_ofThings_99 : decode cX10_ofThings 99 = .ok (.iload_n 1, 1) := by decide +kernel
theorem dX10_ofThings_100 : decode cX10_ofThings 100 = .ok (.bipush 14, 2) := by decide +kernel
theorem dX10_ofThings_102 : decode cX10_ofThings 102 = .ok (.if_icmp .ne 8, 3) := by decide +kernel
theorem dX10_ofThings_105 : decode cX10_ofThings 105 = .ok (.bipush 50, 2) := by decide +kernel
theorem dX10_ofThings_107 : decode cX10_ofThings 107 = .ok (.goto 8, 3) := by decide +kernel
theorem dX10_ofThings_110 : decode cX10_ofThings 110 = .ok (.bipush 20, 2) := by decide +kernel
theorem dX10_ofThings_112 : decode cX10_ofThings 112 = .ok (.lload_n 2, 1) := by decide +kernel
theorem dX10_ofThings_113 : decode cX10_ofThings 113 = .ok (.l2i, 1) := by decide +kernel
theorem dX10_ofThings_114 : decode cX10_ofThings 114 = .ok (.iadd, 1) := by decide +kernel
theorem dX10_ofThings_115 : decode cX10_ofThings 115 = .ok (.iload 6, 2) := by decide +kernel
theorem dX10_ofThings_117 : decode cX10_ofThings 117 = .ok (.invokevirtual 308, 3) := by decide +kernel
theorem dX10_ofThings_120 : decode cX10_ofThings 120 = .ok (.i2l, 1) := by decide +kernel
theorem dX10_ofThings_121 : decode cX10_ofThings 121 = .ok (.invokevirtual 238, 3) := by decide +kernel
theorem dX10_ofThings_124 : decode cX10_ofThings 124 = .ok (.iconst 0, 1) := by decide +kernel
theorem dX10_ofThings_125 : decode cX10_ofThings 125 = .ok (.ireturn, 1) := by decide +kernel
theorem dX10_ofThings_126 : decode cX10_ofThings 126 = .ok (.aload_n 0, 1) := by decide +kernel
theorem dX10_ofThings_127 : decode cX10_ofThings 127 = .ok (.invokevirtual 293, 3) := by decide +kernel
theorem dX10_ofThings_130 : decode cX10_ofThings 130 = .ok (.l2i, 1) := by decide +kernel
theorem dX10_ofThings_131 : decode cX10_ofThings 131 = .ok (.istore 4, 2) := by decide +kernel
theorem dX10_ofThings_133 : decode cX10_ofThings 133 = .ok (.iload 4, 2) := by decide +kernel
theorem dX10_ofThings_135 : decode cX10_ofThings 135 = .ok (.ifCond .ge 5, 3) := by decide +kernel
theorem dX10_ofThings_138 : decode cX10_ofThings 138 = .ok (.iconst 1, 1) := by decide +kernel
theorem dX10_ofThings_139 : decode cX10_ofThings 139 = .ok (.ireturn, 1) := by decide +kernel
theorem dX10_ofThings_140 : decode cX10_ofThings 140 = .ok (.aload_n 0, 1) := by decide +kernel
theorem dX10_ofThings_141 : decode cX10_ofThings 141 = .ok (.aload_n 0, 1) := by decide +kernel
theorem dX10_ofThings_142 : decode cX10_ofThings 142 = .ok (.getfield 66, 3) := by decide +kernel
theorem dX10_ofThings_145 : decode cX10_ofThings 145 = .ok (.iload 4, 2) := by decide +kernel
theorem dX10_ofThings_147 : decode cX10_ofThings 147 = .ok (.iaload, 1) := by decide +kernel
theorem dX10_ofThings_148 : decode cX10_ofThings 148 = .ok (.i2l, 1) := by decide +kernel
theorem dX10_ofThings_149 : decode cX10_ofThings 149 = .ok (.invokevirtual 238, 3) := by decide +kernel
theorem dX10_ofThings_152 : decode cX10_ofThings 152 = .ok (.iconst 0, 1) := by decide +kernel
theorem dX10_ofThings_153 : decode cX10_ofThings 153 = .ok (.ireturn, 1) := by decide +kernel
theorem dX10_ofThings_154 : decode cX10_ofThings 154 = .ok (.aload_n 0, 1) := by decide +kernel
theorem dX10_ofThings_155 : decode cX10_ofThings 155 = .ok (.invokevirtual 293, 3) := by decide +kernel
theorem dX10_ofThings_158 : decode cX10_ofThings 158 = .ok (.l2i, 1) := by decide +kernel
theorem dX10_ofThings_159 : decode cX10_ofThings 159 = .ok (.istore 5, 2) := by decide +kernel
theorem dX10_ofThings_161 : decode cX10_ofThings 161 = .ok (.aload_n 0, 1) := by decide +kernel
theorem dX10_ofThings_162 : decode cX10_ofThings 162 = .ok (.invokevirtual 293, 3) := by decide +kernel
theorem dX10_ofThings_165 : decode cX10_ofThings 165 = .ok (.l2i, 1) := by decide +kernel
theorem dX10_ofThings_166 : decode cX10_ofThings 166 = .ok (.istore 4, 2) := by decide +kernel
theorem dX10_ofThings_168 : decode cX10_ofThings 168 = .ok (.iload 4, 2) := by decide +kernel
theorem dX10_ofThings_170 : decode cX10_ofThings 170 = .ok (.ifCond .lt 23, 3) := by decide +kernel
theorem dX10_ofThings_173 : decode cX10_ofThings 173 = .ok (.iload 5, 2) := by decide +kernel
theorem dX10_ofThings_175 : decode cX10_ofThings 175 = .ok (.i2l, 1) := by decide +kernel
theorem dX10_ofThings_176 : decode cX10_ofThings 176 = .ok (.lconst 0, 1) := by decide +kernel
theorem dX10_ofThings_177 : decode cX10_ofThings 177 = .ok (.aload_n 0, 1) := by decide +kernel
theorem dX10_ofThings_178 : decode cX10_ofThings 178 = .ok (.getfield 66, 3) := by decide +kernel
theorem dX10_ofThings_181 : decode cX10_ofThings 181 = .ok (.iload 4, 2) := by decide +kernel
theorem dX10_ofThings_183 : decode cX10_ofThings 183 = .ok (.iaload, 1) := by decide +kernel
theorem dX10_ofThings_184 : decode cX10_ofThings 184 = .ok (.iconst 1, 1) := by decide +kernel
theorem dX10_ofThings_185 : decode cX10_ofThings 185 = .ok (.isub, 1) := by decide +kernel
theorem dX10_ofThings_186 : decode cX10_ofThings 186 = .ok (.i2l, 1) := by decide +kernel
theorem dX10_ofThings_187 : decode cX10_ofThings 187 = .ok (.invokestatic 79, 3) := by decide +kernel
theorem dX10_ofThings_190 : decode cX10_ofThings 190 = .ok (.ifCond .ne 14, 3) := by decide +kernel
theorem dX10_ofThings_193 : decode cX10_ofThings 193 = .ok (.iload 4, 2) := by decide +kernel
theorem dX10_ofThings_195 : decode cX10_ofThings 195 = .ok (.ifCond .ge 7, 3) := by decide +kernel
theorem dX10_ofThings_198 : decode cX10_ofThings 198 = .ok (.iconst 1, 1) := by decide +kernel
theorem dX10_ofThings_199 : decode cX10_ofThings 199 = .ok (.goto 4, 3) := by decide +kernel
theorem dX10_ofThings_202 : decode cX10_ofThings 202 = .ok (.iconst 2, 1) := by decide +kernel
theorem dX10_ofThings_203 : decode cX10_ofThings 203 = .ok (.ireturn, 1) := by decide +kernel
theorem dX10_ofThings_204 : decode cX10_ofThings 204 = .ok (.aload_n 0, 1) := by decide +kernel
theorem dX10_ofThings_205 : decode cX10_ofThings 205 = .ok (.aload_n 0, 1) := by decide +kernel
theorem dX10_ofThings_206 : decode cX10_ofThings 206 = .ok (.getfield 72, 3) := by decide +kernel
theorem dX10_ofThings_209 : decode cX10_ofThings 209 = .ok (.bipush 30, 2) := by decide +kernel
theorem dX10_ofThings_211 : decode cX10_ofThings 211 = .ok (.iload 4, 2) := by decide +kernel
theorem dX10_ofThings_213 : decode cX10_ofThings 213 = .ok (.imul, 1) := by decide +kernel
theorem dX10_ofThings_214 : decode cX10_ofThings 214 = .ok (.iload 5, 2) := by decide +kernel
theorem dX10_ofThings_216 : decode cX10_ofThings 216 = .ok (.iadd, 1) := by decide +kernel
theorem dX10_ofThings_217 : decode cX10_ofThings 217 = .ok (.laload, 1) := by decide +kernel
theorem dX10_ofThings_218 : decode cX10_ofThings 218 = .ok (.invokevirtual 238, 3) := by decide +kernel
theorem dX10_ofThings_221 : decode cX10_ofThings 221 = .ok (.iconst 0, 1) := by decide +kernel
theorem dX10_ofThings_222 : decode cX10_ofThings 222 = .ok (.ireturn, 1) := by decide +kernel
theorem dX10_ofThings_223 : decode cX10_ofThings 223 = .ok (.aload_n 0, 1) := by decide +kernel
theorem dX10_ofThings_224 : decode cX10_ofThings 224 = .ok (.invokevirtual 293, 3) := by decide +kernel
theorem dX10_ofThings_227 : decode cX10_ofThings 227 = .ok (.lstore 7, 2) := by decide +kernel
theorem dX10_ofThings_229 : decode cX10_ofThings 229 = .ok (.aload_n 0, 1) := by decide +kernel
theorem dX10_ofThings_230 : decode cX10_ofThings 230 = .ok (.invokevirtual 293, 3) := by decide +kernel
theorem dX10_ofThings_233 : decode cX10_ofThings 233 = .ok (.l2i, 1) := by decide +kernel
theorem dX10_ofThings_234 : decode cX10_ofThings 234 = .ok (.istore 5, 2) := by decide +kernel
theorem dX10_ofThings_236 : decode cX10_ofThings 236 = .ok (.aload_n 0, 1) := by decide +kernel
theorem dX10_ofThings_237 : decode cX10_ofThings 237 = .ok (.invokevirtual 293, 3) := by decide +kernel
theorem dX10_ofThings_240 : decode cX10_ofThings 240 = .ok (.l2i, 1) := by decide +kernel
theorem dX10_ofThings_241 : decode cX10_ofThings 241 = .ok (.istore 4, 2) := by decide +kernel
theorem dX10_ofThings_243 : decode cX10_ofThings 243 = .ok (.iload 4, 2) := by decide +kernel
theorem dX10_ofThings_245 : decode cX10_ofThings 245 = .ok (.ifCond .lt 23, 3) := by decide +kernel
theorem dX10_ofThings_248 : decode cX10_ofThings 248 = .ok (.iload 5, 2) := by decide +kernel
theorem dX10_ofThings_250 : decode cX10_ofThings 250 = .ok (.i2l, 1) := by decide +kernel
theorem dX10_ofThings_251 : decode cX10_ofThings 251 = .ok (.lconst 0, 1) := by decide +kernel
theorem dX10_ofThings_252 : decode cX10_ofThings 252 = .ok (.aload_n 0, 1) := by decide +kernel
theorem dX10_ofThings_253 : decode cX10_ofThings 253 = .ok (.getfield 66, 3) := by decide +kernel
theorem dX10_ofThings_256 : decode cX10_ofThings 256 = .ok (.iload 4, 2) := by decide +kernel
theorem dX10_ofThings_258 : decode cX10_ofThings 258 = .ok (.iaload, 1) := by decide +kernel
theorem dX10_ofThings_259 : decode cX10_ofThings 259 = .ok (.iconst 1, 1) := by decide +kernel
theorem dX10_ofThings_260 : decode cX10_ofThings 260 = .ok (.isub, 1) := by decide +kernel
theorem dX10_ofThings_261 : decode cX10_ofThings 261 = .ok (.i2l, 1) := by decide +kernel
theorem dX10_ofThings_262 : decode cX10_ofThings 262 = .ok (.invokestatic 79, 3) := by decide +kernel
theorem dX10_ofThings_265 : decode cX10_ofThings 265 = .ok (.ifCond .ne 14, 3) := by decide +kernel
theorem dX10_ofThings_268 : decode cX10_ofThings 268 = .ok (.iload 4, 2) := by decide +kernel
theorem dX10_ofThings_270 : decode cX10_ofThings 270 = .ok (.ifCond .ge 7, 3) := by decide +kernel
theorem dX10_ofThings_273 : decode cX10_ofThings 273 = .ok (.iconst 1, 1) := by decide +kernel
theorem dX10_ofThings_274 : decode cX10_ofThings 274 = .ok (.goto 4, 3) := by decide +kernel
theorem dX10_ofThings_277 : decode cX10_ofThings 277 = .ok (.iconst 2, 1) := by decide +kernel
theorem dX10_ofThings_278 : decode cX10_ofThings 278 = .ok (.ireturn, 1) := by decide +kernel
theorem dX10_ofThings_279 : decode cX10_ofThings 279 = .ok (.iload_n 1, 1) := by decide +kernel
theorem dX10_ofThings_280 : decode cX10_ofThings 280 = .ok (.bipush 20, 2) := by decide +kernel
theorem dX10_ofThings_282 : decode cX10_ofThings 282 = .ok (.if_icmp .ne 32, 3) := by decide +kernel
theorem dX10_ofThings_285 : decode cX10_ofThings 285 = .ok (.lload 7, 2) := by decide +kernel
theorem dX10_ofThings_287 : decode cX10_ofThings 287 = .ok (.lconst 0, 1) := by decide +kernel
theorem dX10_ofThings_288 : decode cX10_ofThings 288 = .ok (.lcmp, 1) := by decide +kernel
theorem dX10_ofThings_289 : decode cX10_ofThings 289 = .ok (.ifCond .lt 25, 3) := by decide +kernel
theorem dX10_ofThings_292 : decode cX10_ofThings 292 = .ok (.aload_n 0, 1) := by decide +kernel
theorem dX10_ofThings_293 : decode cX10_ofThings 293 = .ok (.lload 7, 2) := by decide +kernel
theorem dX10_ofThings_295 : decode cX10_ofThings 295 = .ok (.l2i, 1) := by decide +kernel
theorem dX10_ofThings_296 : decode cX10_ofThings 296 = .ok (.aload_n 0, 1) := by decide +kernel
theorem dX10_ofThings_297 : decode cX10_ofThings 297 = .ok (.getfield 63, 3) := by decide +kernel
theorem dX10_ofThings_300 : decode cX10_ofThings 300 = .ok (.iload 4, 2) := by decide +kernel
theorem dX10_ofThings_302 : decode cX10_ofThings 302 = .ok (.iaload, 1) := by decide +kernel
theorem dX10_ofThings_303 : decode cX10_ofThings 303 = .ok (.bipush 20, 2) := by decide +kernel
theorem dX10_ofThings_305 : decode cX10_ofThings 305 = .ok (.isub, 1) := by decide +kernel
theorem dX10_ofThings_306 : decode cX10_ofThings 306 = .ok (.invokevirtual 311, 3) := by decide +kernel
theorem dX10_ofThings_309 : decode cX10_ofThings 309 = .ok (.ifCond .ne 5, 3) := by decide +kernel
theorem dX10_ofThings_312 : decode cX10_ofThings 312 = .ok (.iconst 3, 1) := by decide +kernel
theorem dX10_ofThings_313 : decode cX10_ofThings 313 = .ok (.ireturn, 1) := by decide +kernel
theorem dX10_ofThings_314 : decode cX10_ofThings 314 = .ok (.aload_n 0, 1) := by decide +kernel
theorem dX10_ofThings_315 : decode cX10_ofThings 315 = .ok (.getfield 72, 3) := by decide +kernel
theorem dX10_ofThings_318 : decode cX10_ofThings 318 = .ok (.bipush 30, 2) := by decide +kernel
theorem dX10_ofThings_320 : decode cX10_ofThings 320 = .ok (.iload 4, 2) := by decide +kernel
theorem dX10_ofThings_322 : decode cX10_ofThings 322 = .ok (.imul, 1) := by decide +kernel
theorem dX10_ofThings_323 : decode cX10_ofThings 323 = .ok (.iload 5, 2) := by decide +kernel
theorem dX10_ofThings_325 : decode cX10_ofThings 325 = .ok (.iadd, 1) := by decide +kernel
theorem dX10_ofThings_326 : decode cX10_ofThings 326 = .ok (.lload 7, 2) := by decide +kernel
theorem dX10_ofThings_328 : decode cX10_ofThings 328 = .ok (.lastore, 1) := by decide +kernel
theorem dX10_ofThings_329 : decode cX10_ofThings 329 = .ok (.iconst 0, 1) := by decide +kernel
theorem dX10_ofThings_330 : decode cX10_ofThings 330 = .ok (.ireturn, 1) := by decide +kernel
theorem dX10_ofThings_331 : decode cX10_ofThings 331 = .ok (.aload_n 0, 1) := by decide +kernel
theorem dX10_ofThings_332 : decode cX10_ofThings 332 = .ok (.getfield 51, 3) := by decide +kernel
theorem dX10_ofThings_335 : decode cX10_ofThings 335 = .ok (.bipush 16, 2) := by decide +kernel
theorem dX10_ofThings_337 : decode cX10_ofThings 337 = .ok (.aload_n 0, 1) := by decide +kernel
theorem dX10_ofThings_338 : decode cX10_ofThings 338 = .ok (.getfield 235, 3) := by decide +kernel
theorem dX10_ofThings_341 : decode cX10_ofThings 341 = .ok (.imul, 1) := by decide +kernel
theorem dX10_ofThings_342 : decode cX10_ofThings 342 = .ok (.bipush 7, 2) := by decide +kernel
theorem dX10_ofThings_344 : decode cX10_ofThings 344 = .ok (.iadd, 1) := by decide +kernel
theorem dX10_ofThings_345 : decode cX10_ofThings 345 = .ok (.aload_n 0, 1) := by decide +kernel
theorem dX10_ofThings_346 : decode cX10_ofThings 346 = .ok (.getfield 54, 3) := by decide +kernel
theorem dX10_ofThings_349 : decode cX10_ofThings 349 = .ok (.aload_n 0, 1) := by decide +kernel
theorem dX10_ofThings_350 : decode cX10_ofThings 350 = .ok (.getfield 235, 3) := by decide +kernel
theorem dX10_ofThings_353 : decode cX10_ofThings 353 = .ok (.iaload, 1) := by decide +kernel
theorem dX10_ofThings_354 : decode cX10_ofThings 354 = .ok (.iadd, 1) := by decide +kernel
theorem dX10_ofThings_355 : decode cX10_ofThings 355 = .ok (.laload, 1) := by decide +kernel
theorem dX10_ofThings_356 : decode cX10_ofThings 356 = .ok (.l2i, 1) := by decide +kernel
theorem dX10_ofThings_357 : decode cX10_ofThings 357 = .ok (.istore 4, 2) := by decide +kernel
theorem dX10_ofThings_359 : decode cX10_ofThings 359 = .ok (.iload 4, 2) := by decide +kernel
theorem dX10_ofThings_361 : decode cX10_ofThings 361 = .ok (.ifCond .lt 18, 3) := by decide +kernel
theorem dX10_ofThings_364 : decode cX10_ofThings 364 = .ok (.aload_n 0, 1) := by decide +kernel
theorem dX10_ofThings_365 : decode cX10_ofThings 365 = .ok (.iload 4, 2) := by decide +kernel
theorem dX10_ofThings_367 : decode cX10_ofThings 367 = .ok (.lload_n 2, 1) := by decide +kernel
theorem dX10_ofThings_368 : decode cX10_ofThings 368 = .ok (.l2i, 1) := by decide +kernel
theorem dX10_ofThings_369 : decode cX10_ofThings 369 = .ok (.invokevirtual 311, 3) := by decide +kernel
theorem dX10_ofThings_372 : decode cX10_ofThings 372 = .ok (.ifCond .ne 7, 3) := by decide +kernel
theorem dX10_ofThings_375 : decode cX10_ofThings 375 = .ok (.iconst 4, 1) := by decide +kernel
theorem dX10_ofThings_376 : decode cX10_ofThings 376 = .ok (.goto 4, 3) := by decide +kernel
theorem dX10_ofThings_379 : decode cX10_ofThings 379 = .ok (.iconst 0, 1) := by decide +kernel
theorem dX10_ofThings_380 : decode cX10_ofThings 380 = .ok (.ireturn, 1) := by decide +kernel
theorem dX10_ofThings_381 : decode cX10_ofThings 381 = .ok (.aload_n 0, 1) := by decide +kernel
theorem dX10_ofThings_382 : decode cX10_ofThings 382 = .ok (.invokevirtual 293, 3) := by decide +kernel
theorem dX10_ofThings_385 : decode cX10_ofThings 385 = .ok (.l2i, 1) := by decide +kernel
theorem dX10_ofThings_386 : decode cX10_ofThings 386 = .ok (.istore 4, 2) := by decide +kernel
theorem dX10_ofThings_388 : decode cX10_ofThings 388 = .ok (.aload_n 0, 1) := by decide +kernel
theorem dX10_ofThings_389 : decode cX10_ofThings 389 = .ok (.iload 4, 2) := by decide +kernel
theorem dX10_ofThings_391 : decode cX10_ofThings 391 = .ok (.ifCond .lt 18, 3) := by decide +kernel
theorem dX10_ofThings_394 : decode cX10_ofThings 394 = .ok (.aload_n 0, 1) := by decide +kernel
theorem dX10_ofThings_395 : decode cX10_ofThings 395 = .ok (.iload 4, 2) := by decide +kernel
theorem dX10_ofThings_397 : decode cX10_ofThings 397 = .ok (.lload_n 2, 1) := by decide +kernel
theorem dX10_ofThings_398 : decode cX10_ofThings 398 = .ok (.l2i, 1) := by decide +kernel
theorem dX10_ofThings_399 : decode cX10_ofThings 399 = .ok (.invokevirtual 311, 3) := by decide +kernel
theorem dX10_ofThings_402 : decode cX10_ofThings 402 = .ok (.ifCond .eq 7, 3) := by decide +kernel
theorem dX10_ofThings_405 : decode cX10_ofThings 405 = .ok (.lconst 1, 1) := by decide +kernel
theorem dX10_ofThings_406 : decode cX10_ofThings 406 = .ok (.goto 4, 3) := by decide +kernel
theorem dX10_ofThings_409 : decode cX10_ofThings 409 = .ok (.lconst 0, 1) := by decide +kernel
theorem dX10_ofThings_410 : decode cX10_ofThings 410 = .ok (.invokevirtual 238, 3) := by decide +kernel
theorem dX10_ofThings_413 : decode cX10_ofThings 413 = .ok (.iconst 0, 1) := by decide +kernel
theorem dX10_ofThings_414 : decode cX10_ofThings 414 = .ok (.ireturn, 1) := by decide +kernel
theorem dX10_ofThings_415 : decode cX10_ofThings 415 = .ok (.aload_n 0, 1) := by decide +kernel
theorem dX10_ofThings_416 : decode cX10_ofThings 416 = .ok (.invokevirtual 293, 3) := by decide +kernel
theorem dX10_ofThings_419 : decode cX10_ofThings 419 = .ok (.l2i, 1) := by decide +kernel
theorem dX10_ofThings_420 : decode cX10_ofThings 420 = .ok (.istore 5, 2) := by decide +kernel
theorem dX10_ofThings_422 : decode cX10_ofThings 422 = .ok (.aload_n 0, 1) := by decide +kernel
theorem dX10_ofThings_423 : decode cX10_ofThings 423 = .ok (.invokevirtual 293, 3) := by decide +kernel
theorem dX10_ofThings_426 : decode cX10_ofThings 426 = .ok (.l2i, 1) := by decide +kernel
theorem dX10_ofThings_427 : decode cX10_ofThings 427 = .ok (.istore 4, 2) := by decide +kernel
theorem dX10_ofThings_429 : decode cX10_ofThings 429 = .ok (.iload 4, 2) := by decide +kernel
theorem dX10_ofThings_431 : decode cX10_ofThings 431 = .ok (.ifCond .ge 5, 3) := by decide +kernel
theorem dX10_ofThings_434 : decode cX10_ofThings 434 = .ok (.iconst 1, 1) := by decide +kernel
theorem dX10_ofThings_435 : decode cX10_ofThings 435 = .ok (.ireturn, 1) := by decide +kernel
theorem dX10_ofThings_436 : decode cX10_ofThings 436 = .ok (.aload_n 0, 1) := by decide +kernel
theorem dX10_ofThings_437 : decode cX10_ofThings 437 = .ok (.getfield 69, 3) := by decide +kernel
theorem dX10_ofThings_440 : decode cX10_ofThings 440 = .ok (.iload 4, 2) := by decide +kernel
theorem dX10_ofThings_442 : decode cX10_ofThings 442 = .ok (.iload 5, 2) := by decide +kernel
theorem dX10_ofThings_444 : decode cX10_ofThings 444 = .ok (.iastore, 1) := by decide +kernel
theorem dX10_ofThings_445 : decode cX10_ofThings 445 = .ok (.iconst 0, 1) := by decide +kernel
theorem dX10_ofThings_446 : decode cX10_ofThings 446 = .ok (.ireturn, 1) := by decide +kernel
theorem dX10_ofThings_447 : decode cX10_ofThings 447 = .ok (.aload_n 0, 1) := by decide +kernel
theorem dX10_ofThings_448 : decode cX10_ofThings 448 = .ok (.invokevirtual 293, 3) := by decide +kernel
theorem dX10_ofThings_451 : decode cX10_ofThings 451 = .ok (.l2i, 1) := by decide +kernel
theorem dX10_ofThings_452 : decode cX10_ofThings 452 = .ok (.istore 4, 2) := by decide +kernel
theorem dX10_ofThings_454 : decode cX10_ofThings 454 = .ok (.iload 4, 2) := by decide +kernel
theorem dX10_ofThings_456 : decode cX10_ofThings 456 = .ok (.ifCond .ge 5, 3) := by decide +kernel
theorem dX10_ofThings_459 : decode cX10_ofThings 459 = .ok (.iconst 1, 1) := by decide +kernel
theorem dX10_ofThings_460 : decode cX10_ofThings 460 = .ok (.ireturn, 1) := by decide +kernel
theorem dX10_ofThings_461 : decode cX10_ofThings 461 = .ok (.aload_n 0, 1) := by decide +kernel
theorem dX10_ofThings_462 : decode cX10_ofThings 462 = .ok (.iload_n 1, 1) := by decide +kernel
theorem dX10_ofThings_463 : decode cX10_ofThings 463 = .ok (.bipush 23, 2) := by decide +kernel
theorem dX10_ofThings_465 : decode cX10_ofThings 465 = .ok (.if_icmp .ne 14, 3) := by decide +kernel
theorem dX10_ofThings_468 : decode cX10_ofThings 468 = .ok (.aload_n 0, 1) := by decide +kernel
theorem dX10_ofThings_469 : decode cX10_ofThings 469 = .ok (.getfield 69, 3) := by decide +kernel
theorem dX10_ofThings_472 : decode cX10_ofThings 472 = .ok (.iload 4, 2) := by decide +kernel
theorem dX10_ofThings_474 : decode cX10_ofThings 474 = .ok (.iaload, 1) := by decide +kernel
theorem dX10_ofThings_475 : decode cX10_ofThings 475 = .ok (.i2l, 1) := by decide +kernel
theorem dX10_ofThings_476 : decode cX10_ofThings 476 = .ok (.goto 10, 3) := by decide +kernel
theorem dX10_ofThings_479 : decode cX10_ofThings 479 = .ok (.aload_n 0, 1) := by decide +kernel
theorem dX10_ofThings_480 : decode cX10_ofThings 480 = .ok (.iload 4, 2) := by decide +kernel
theorem dX10_ofThings_482 : decode cX10_ofThings 482 = .ok (.invokevirtual 314, 3) := by decide +kernel
theorem dX10_ofThings_485 : decode cX10_ofThings 485 = .ok (.i2l, 1) := by decide +kernel
theorem dX10_ofThings_486 : decode cX10_ofThings 486 = .ok (.invokevirtual 238, 3) := by decide +kernel
theorem dX10_ofThings_489 : decode cX10_ofThings 489 = .ok (.iconst 0, 1) := by decide +kernel
theorem dX10_ofThings_490 : decode cX10_ofThings 490 = .ok (.ireturn, 1) := by decide +kernel
theorem dX10_others_0 : decode cX10_others 0 = .ok (.bipush 16, 2) := by decide +kernel
theorem dX10_others_2 : decode cX10_others 2 = .ok (.aload_n 0, 1) := by decide +kernel
theorem dX10_others_3 : decode cX10_others 3 = .ok (.getfield 235, 3) := by decide +kernel
theorem dX10_others_6 : decode cX10_others 6 = .ok (.imul, 1) := by decide +kernel
theorem dX10_others_7 : decode cX10_others 7 = .ok (.bipush 7, 2) := by decide +kernel
theorem dX10_others_9 : decode cX10_others 9 = .ok (.iadd, 1) := by decide +kernel
theorem dX10_others_10 : decode cX10_others 10 = .ok (.aload_n 0, 1) := by decide +kernel
theorem dX10_others_11 : decode cX10_others 11 = .ok (.getfield 54, 3) := by decide +kernel
theorem dX10_others_14 : decode cX10_others 14 = .ok (.aload_n 0, 1) := by decide +kernel
theorem dX10_others_15 : decode cX10_others 15 = .ok (.getfield 235, 3) := by decide +kernel
theorem dX10_others_18 : decode cX10_others 18 = .ok (.iaload, 1) := by decide +kernel
theorem dX10_others_19 : decode cX10_others 19 = .ok (.iadd, 1) := by decide +kernel
theorem dX10_others_20 : decode cX10_others 20 = .ok (.istore 4, 2) := by decide +kernel
theorem dX10_others_22 : decode cX10_others 22 = .ok (.aload_n 0, 1) := by decide +kernel
theorem dX10_others_23 : decode cX10_others 23 = .ok (.getfield 54, 3) := by decide +kernel
theorem dX10_others_26 : decode cX10_others 26 = .ok (.aload_n 0, 1) := by decide +kernel
theorem dX10_others_27 : decode cX10_others 27 = .ok (.getfield 235, 3) := by decide +kernel
theorem dX10_others_30 : decode cX10_others 30 = .ok (.iaload, 1) := by decide +kernel
theorem dX10_others_31 : decode cX10_others 31 = .ok (.ifCond .le 13, 3) := by decide +kernel
theorem dX10_others_34 : decode cX10_others 34 = .ok (.aload_n 0, 1) := by decide +kernel
theorem dX10_others_35 : decode cX10_others 35 = .ok (.getfield 51, 3) := by decide +kernel
theorem dX10_others_38 : decode cX10_others 38 = .ok (.iload 4, 2) := by decide +kernel
theorem dX10_others_40 : decode cX10_others 40 = .ok (.laload, 1) := by decide +kernel
theorem dX10_others_41 : decode cX10_others 41 = .ok (.goto 4, 3) := by decide +kernel
theorem dX10_others_44 : decode cX10_others 44 = .ok (.lconst 0, 1) := by decide +kernel
theorem dX10_others_45 : decode cX10_others 45 = .ok (.lstore 5, 2) := by decide +kernel
theorem dX10_others_47 : decode cX10_others 47 = .ok (.iload_n 1, 1) := by decide +kernel
theorem dX10_others_48 : decode cX10_others 48 = .ok (.tableswitch 220 26 33 #[48, 56, 71, 100, 114, 114, 162, 211], 48) := by decide +kernel
theorem dX10_others_96 : decode cX10_others 96 = .ok (.aload_n 0, 1) := by decide +kernel
theorem dX10_others_97 : decode cX10_others 97 = .ok (.lload 5, 2) := by decide +kernel
theorem dX10_others_99 : decode cX10_others 99 = .ok (.invokevirtual 238, 3) := by decide +kernel
theorem dX10_others_102 : decode cX10_others 102 = .ok (.iconst 0, 1) := by decide +kernel
theorem dX10_others_103 : decode cX10_others 103 = .ok (.ireturn, 1) := by decide +kernel
theorem dX10_others_104 : decode cX10_others 104 = .ok (.aload_n 0, 1) := by decide +kernel
theorem dX10_others_105 : decode cX10_others 105 = .ok (.getfield 54, 3) := by decide +kernel
theorem dX10_others_108 : decode cX10_others 108 = .ok (.aload_n 0, 1) := by decide +kernel
theorem dX10_others_109 : decode cX10_others 109 = .ok (.getfield 235, 3) := by decide +kernel
theorem dX10_others_112 : decode cX10_others 112 = .ok (.dup2, 1) := by decide +kernel
theorem dX10_others_113 : decode cX10_others 113 = .ok (.iaload, 1) := by decide +kernel
theorem dX10_others_114 : decode cX10_others 114 = .ok (.iconst 1, 1) := by decide +kernel
theorem dX10_others_115 : decode cX10_others 115 = .ok (.isub, 1) := by decide +kernel
theorem dX10_others_116 : decode cX10_others 116 = .ok (.iastore, 1) := by decide +kernel
theorem dX10_others_117 : decode cX10_others 117 = .ok (.iconst 0, 1) := by decide +kernel
theorem dX10_others_118 : decode cX10_others 118 = .ok (.ireturn, 1) := by decide +kernel
theorem dX10_others_119 : decode cX10_others 119 = .ok (.aload_n 0, 1) := by decide +kernel
theorem dX10_others_120 : decode cX10_others 120 = .ok (.getfield 51, 3) := by decide +kernel
theorem dX10_others_123 : decode cX10_others 123 = .ok (.iload 4, 2) := by decide +kernel
theorem dX10_others_125 : decode cX10_others 125 = .ok (.aload_n 0, 1) := by decide +kernel
theorem dX10_others_126 : decode cX10_others 126 = .ok (.getfield 51, 3) := by decide +kernel
