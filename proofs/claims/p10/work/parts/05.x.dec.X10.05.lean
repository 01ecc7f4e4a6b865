theorem dX10_goesOn_107 : decode cX10_goesOn 107 = .ok (.imul, 1) := by decide +kernel
theorem dX10_goesOn_108 : decode cX10_goesOn 108 = .ok (.istore 6, 2) := by decide +kernel
theorem dX10_goesOn_110 : decode cX10_goesOn 110 = .ok (.iload_n 2, 1) := by decide +kernel
theorem dX10_goesOn_111 : decode cX10_goesOn 111 = .ok (.i2l, 1) := by decide +kernel
theorem dX10_goesOn_112 : decode cX10_goesOn 112 = .ok (.aload_n 0, 1) := by decide +kernel
theorem dX10_goesOn_113 : decode cX10_goesOn 113 = .ok (.getfield 26, 3) := by decide +kernel
theorem dX10_goesOn_116 : decode cX10_goesOn 116 = .ok (.iload 6, 2) := by decide +kernel
theorem dX10_goesOn_118 : decode cX10_goesOn 118 = .ok (.iaload, 1) := by decide +kernel
theorem dX10_goesOn_119 : decode cX10_goesOn 119 = .ok (.i2l, 1) := by decide +kernel
theorem dX10_goesOn_120 : decode cX10_goesOn 120 = .ok (.aload_n 0, 1) := by decide +kernel
theorem dX10_goesOn_121 : decode cX10_goesOn 121 = .ok (.getfield 26, 3) := by decide +kernel
theorem dX10_goesOn_124 : decode cX10_goesOn 124 = .ok (.iload 6, 2) := by decide +kernel
theorem dX10_goesOn_126 : decode cX10_goesOn 126 = .ok (.iconst 1, 1) := by decide +kernel
theorem dX10_goesOn_127 : decode cX10_goesOn 127 = .ok (.iadd, 1) := by decide +kernel
theorem dX10_goesOn_128 : decode cX10_goesOn 128 = .ok (.iaload, 1) := by decide +kernel
theorem dX10_goesOn_129 : decode cX10_goesOn 129 = .ok (.iconst 1, 1) := by decide +kernel
theorem dX10_goesOn_130 : decode cX10_goesOn 130 = .ok (.isub, 1) := by decide +kernel
theorem dX10_goesOn_131 : decode cX10_goesOn 131 = .ok (.i2l, 1) := by decide +kernel
theorem dX10_goesOn_132 : decode cX10_goesOn 132 = .ok (.invokestatic 79, 3) := by decide +kernel
theorem dX10_goesOn_135 : decode cX10_goesOn 135 = .ok (.ifCond .eq 24, 3) := by decide +kernel
theorem dX10_goesOn_138 : decode cX10_goesOn 138 = .ok (.aload_n 0, 1) := by decide +kernel
theorem dX10_goesOn_139 : decode cX10_goesOn 139 = .ok (.iload_n 2, 1) := by decide +kernel
theorem dX10_goesOn_140 : decode cX10_goesOn 140 = .ok (.invokevirtual 222, 3) := by decide +kernel
theorem dX10_goesOn_143 : decode cX10_goesOn 143 = .ok (.aload_n 0, 1) := by decide +kernel
theorem dX10_goesOn_144 : decode cX10_goesOn 144 = .ok (.iload_n 1, 1) := by decide +kernel
theorem dX10_goesOn_145 : decode cX10_goesOn 145 = .ok (.aload_n 0, 1) := by decide +kernel
theorem dX10_goesOn_146 : decode cX10_goesOn 146 = .ok (.getfield 26, 3) := by decide +kernel
theorem dX10_goesOn_149 : decode cX10_goesOn 149 = .ok (.iload 6, 2) := by decide +kernel
theorem dX10_goesOn_151 : decode cX10_goesOn 151 = .ok (.iconst 2, 1) := by decide +kernel
theorem dX10_goesOn_152 : decode cX10_goesOn 152 = .ok (.iadd, 1) := by decide +kernel
theorem dX10_goesOn_153 : decode cX10_goesOn 153 = .ok (.iaload, 1) := by decide +kernel
theorem dX10_goesOn_154 : decode cX10_goesOn 154 = .ok (.invokevirtual 219, 3) := by decide +kernel
theorem dX10_goesOn_157 : decode cX10_goesOn 157 = .ok (.istore 4, 2) := by decide +kernel
theorem dX10_goesOn_159 : decode cX10_goesOn 159 = .ok (.iinc 5 1, 3) := by decide +kernel
theorem dX10_goesOn_162 : decode cX10_goesOn 162 = .ok (.goto (-79), 3) := by decide +kernel
theorem dX10_goesOn_165 : decode cX10_goesOn 165 = .ok (.iload 4, 2) := by decide +kernel
theorem dX10_goesOn_167 : decode cX10_goesOn 167 = .ok (.ireturn, 1) := by decide +kernel
theorem dX10_ahead_0 : decode cX10_ahead 0 = .ok (.iconst 0, 1) := by decide +kernel
theorem dX10_ahead_1 : decode cX10_ahead 1 = .ok (.istore_n 2, 1) := by decide +kernel
theorem dX10_ahead_2 : decode cX10_ahead 2 = .ok (.iload_n 2, 1) := by decide +kernel
theorem dX10_ahead_3 : decode cX10_ahead 3 = .ok (.bipush 8, 2) := by decide +kernel
theorem dX10_ahead_5 : decode cX10_ahead 5 = .ok (.if_icmp .ge 21, 3) := by decide +kernel
theorem dX10_ahead_8 : decode cX10_ahead 8 = .ok (.aload_n 0, 1) := by decide +kernel
theorem dX10_ahead_9 : decode cX10_ahead 9 = .ok (.getfield 45, 3) := by decide +kernel
theorem dX10_ahead_12 : decode cX10_ahead 12 = .ok (.iload_n 2, 1) := by decide +kernel
theorem dX10_ahead_13 : decode cX10_ahead 13 = .ok (.aload_n 0, 1) := by decide +kernel
theorem dX10_ahead_14 : decode cX10_ahead 14 = .ok (.getfield 48, 3) := by decide +kernel
theorem dX10_ahead_17 : decode cX10_ahead 17 = .ok (.iload_n 2, 1) := by decide +kernel
theorem dX10_ahead_18 : decode cX10_ahead 18 = .ok (.iaload, 1) := by decide +kernel
theorem dX10_ahead_19 : decode cX10_ahead 19 = .ok (.iastore, 1) := by decide +kernel
theorem dX10_ahead_20 : decode cX10_ahead 20 = .ok (.iinc 2 1, 3) := by decide +kernel
theorem dX10_ahead_23 : decode cX10_ahead 23 = .ok (.goto (-21), 3) := by decide +kernel
theorem dX10_ahead_26 : decode cX10_ahead 26 = .ok (.aload_n 0, 1) := by decide +kernel
theorem dX10_ahead_27 : decode cX10_ahead 27 = .ok (.getfield 45, 3) := by decide +kernel
theorem dX10_ahead_30 : decode cX10_ahead 30 = .ok (.bipush 8, 2) := by decide +kernel
theorem dX10_ahead_32 : decode cX10_ahead 32 = .ok (.iconst 1, 1) := by decide +kernel
theorem dX10_ahead_33 : decode cX10_ahead 33 = .ok (.iastore, 1) := by decide +kernel
theorem dX10_ahead_34 : decode cX10_ahead 34 = .ok (.aload_n 0, 1) := by decide +kernel
theorem dX10_ahead_35 : decode cX10_ahead 35 = .ok (.iconst 1, 1) := by decide +kernel
theorem dX10_ahead_36 : decode cX10_ahead 36 = .ok (.putfield 145, 3) := by decide +kernel
theorem dX10_ahead_39 : decode cX10_ahead 39 = .ok (.return_, 1) := by decide +kernel
theorem dX10_wrongJoined_0 : decode cX10_wrongJoined 0 = .ok (.aload_n 0, 1) := by decide +kernel
theorem dX10_wrongJoined_1 : decode cX10_wrongJoined 1 = .ok (.iload_n 1, 1) := by decide +kernel
theorem dX10_wrongJoined_2 : decode cX10_wrongJoined 2 = .ok (.invokevirtual 188, 3) := by decide +kernel
theorem dX10_wrongJoined_5 : decode cX10_wrongJoined 5 = .ok (.aload_n 0, 1) := by decide +kernel
theorem dX10_wrongJoined_6 : decode cX10_wrongJoined 6 = .ok (.iconst 0, 1) := by decide +kernel
theorem dX10_wrongJoined_7 : decode cX10_wrongJoined 7 = .ok (.putfield 225, 3) := by decide +kernel
theorem dX10_wrongJoined_10 : decode cX10_wrongJoined 10 = .ok (.aload_n 0, 1) := by decide +kernel
theorem dX10_wrongJoined_11 : decode cX10_wrongJoined 11 = .ok (.getfield 13, 3) := by decide +kernel
theorem dX10_wrongJoined_14 : decode cX10_wrongJoined 14 = .ok (.iload_n 1, 1) := by decide +kernel
theorem dX10_wrongJoined_15 : decode cX10_wrongJoined 15 = .ok (.iaload, 1) := by decide +kernel
theorem dX10_wrongJoined_16 : decode cX10_wrongJoined 16 = .ok (.ifCond .ne 5, 3) := by decide +kernel
theorem dX10_wrongJoined_19 : decode cX10_wrongJoined 19 = .ok (.iconst 0, 1) := by decide +kernel
theorem dX10_wrongJoined_20 : decode cX10_wrongJoined 20 = .ok (.ireturn, 1) := by decide +kernel
theorem dX10_wrongJoined_21 : decode cX10_wrongJoined 21 = .ok (.aload_n 0, 1) := by decide +kernel
theorem dX10_wrongJoined_22 : decode cX10_wrongJoined 22 = .ok (.iconst 0, 1) := by decide +kernel
theorem dX10_wrongJoined_23 : decode cX10_wrongJoined 23 = .ok (.invokevirtual 194, 3) := by decide +kernel
theorem dX10_wrongJoined_26 : decode cX10_wrongJoined 26 = .ok (.aload_n 0, 1) := by decide +kernel
theorem dX10_wrongJoined_27 : decode cX10_wrongJoined 27 = .ok (.iconst 1, 1) := by decide +kernel
theorem dX10_wrongJoined_28 : decode cX10_wrongJoined 28 = .ok (.putfield 212, 3) := by decide +kernel
theorem dX10_wrongJoined_31 : decode cX10_wrongJoined 31 = .ok (.aload_n 0, 1) := by decide +kernel
theorem dX10_wrongJoined_32 : decode cX10_wrongJoined 32 = .ok (.getfield 212, 3) := by decide +kernel
theorem dX10_wrongJoined_35 : decode cX10_wrongJoined 35 = .ok (.ifCond .eq 93, 3) := by decide +kernel
theorem dX10_wrongJoined_38 : decode cX10_wrongJoined 38 = .ok (.aload_n 0, 1) := by decide +kernel
theorem dX10_wrongJoined_39 : decode cX10_wrongJoined 39 = .ok (.iconst 0, 1) := by decide +kernel
theorem dX10_wrongJoined_40 : decode cX10_wrongJoined 40 = .ok (.putfield 212, 3) := by decide +kernel
theorem dX10_wrongJoined_43 : decode cX10_wrongJoined 43 = .ok (.aload_n 0, 1) := by decide +kernel
theorem dX10_wrongJoined_44 : decode cX10_wrongJoined 44 = .ok (.dup, 1) := by decide +kernel
theorem dX10_wrongJoined_45 : decode cX10_wrongJoined 45 = .ok (.getfield 225, 3) := by decide +kernel
theorem dX10_wrongJoined_48 : decode cX10_wrongJoined 48 = .ok (.iconst 1, 1) := by decide +kernel
theorem dX10_wrongJoined_49 : decode cX10_wrongJoined 49 = .ok (.iadd, 1) := by decide +kernel
theorem dX10_wrongJoined_50 : decode cX10_wrongJoined 50 = .ok (.putfield 225, 3) := by decide +kernel
theorem dX10_wrongJoined_53 : decode cX10_wrongJoined 53 = .ok (.iconst 0, 1) := by decide +kernel
theorem dX10_wrongJoined_54 : decode cX10_wrongJoined 54 = .ok (.istore_n 2, 1) := by decide +kernel
theorem dX10_wrongJoined_55 : decode cX10_wrongJoined 55 = .ok (.iload_n 2, 1) := by decide +kernel
theorem dX10_wrongJoined_56 : decode cX10_wrongJoined 56 = .ok (.aload_n 0, 1) := by decide +kernel
theorem dX10_wrongJoined_57 : decode cX10_wrongJoined 57 = .ok (.getfield 13, 3) := by decide +kernel
theorem dX10_wrongJoined_60 : decode cX10_wrongJoined 60 = .ok (.iload_n 1, 1) := by decide +kernel
theorem dX10_wrongJoined_61 : decode cX10_wrongJoined 61 = .ok (.iaload, 1) := by decide +kernel
theorem dX10_wrongJoined_62 : decode cX10_wrongJoined 62 = .ok (.if_icmp .ge 63, 3) := by decide +kernel
theorem dX10_wrongJoined_65 : decode cX10_wrongJoined 65 = .ok (.aload_n 0, 1) := by decide +kernel
theorem dX10_wrongJoined_66 : decode cX10_wrongJoined 66 = .ok (.getfield 39, 3) := by decide +kernel
theorem dX10_wrongJoined_69 : decode cX10_wrongJoined 69 = .ok (.iload_n 2, 1) := by decide +kernel
theorem dX10_wrongJoined_70 : decode cX10_wrongJoined 70 = .ok (.iaload, 1) := by decide +kernel
theorem dX10_wrongJoined_71 : decode cX10_wrongJoined 71 = .ok (.ifCond .ge 6, 3) := by decide +kernel
theorem dX10_wrongJoined_74 : decode cX10_wrongJoined 74 = .ok (.goto 45, 3) := by decide +kernel
theorem dX10_wrongJoined_77 : decode cX10_wrongJoined 77 = .ok (.iconst 0, 1) := by decide +kernel
theorem dX10_wrongJoined_78 : decode cX10_wrongJoined 78 = .ok (.istore_n 3, 1) := by decide +kernel
theorem dX10_wrongJoined_79 : decode cX10_wrongJoined 79 = .ok (.iload_n 3, 1) := by decide +kernel
theorem dX10_wrongJoined_80 : decode cX10_wrongJoined 80 = .ok (.bipush 8, 2) := by decide +kernel
theorem dX10_wrongJoined_82 : decode cX10_wrongJoined 82 = .ok (.if_icmp .ge 26, 3) := by decide +kernel
theorem dX10_wrongJoined_85 : decode cX10_wrongJoined 85 = .ok (.aload_n 0, 1) := by decide +kernel
theorem dX10_wrongJoined_86 : decode cX10_wrongJoined 86 = .ok (.getfield 48, 3) := by decide +kernel
theorem dX10_wrongJoined_89 : decode cX10_wrongJoined 89 = .ok (.iload_n 3, 1) := by decide +kernel
theorem dX10_wrongJoined_90 : decode cX10_wrongJoined 90 = .ok (.aload_n 0, 1) := by decide +kernel
theorem dX10_wrongJoined_91 : decode cX10_wrongJoined 91 = .ok (.getfield 42, 3) := by decide +kernel
theorem dX10_wrongJoined_94 : decode cX10_wrongJoined 94 = .ok (.bipush 16, 2) := by decide +kernel
theorem dX10_wrongJoined_96 : decode cX10_wrongJoined 96 = .ok (.iload_n 2, 1) := by decide +kernel
theorem dX10_wrongJoined_97 : decode cX10_wrongJoined 97 = .ok (.imul, 1) := by decide +kernel
theorem dX10_wrongJoined_98 : decode cX10_wrongJoined 98 = .ok (.iload_n 3, 1) := by decide +kernel
theorem dX10_wrongJoined_99 : decode cX10_wrongJoined 99 = .ok (.iadd, 1) := by decide +kernel
theorem dX10_wrongJoined_100 : decode cX10_wrongJoined 100 = .ok (.iaload, 1) := by decide +kernel
theorem dX10_wrongJoined_101 : decode cX10_wrongJoined 101 = .ok (.iastore, 1) := by decide +kernel
theorem dX10_wrongJoined_102 : decode cX10_wrongJoined 102 = .ok (.iinc 3 1, 3) := by decide +kernel
theorem dX10_wrongJoined_105 : decode cX10_wrongJoined 105 = .ok (.goto (-26), 3) := by decide +kernel
theorem dX10_wrongJoined_108 : decode cX10_wrongJoined 108 = .ok (.aload_n 0, 1) := by decide +kernel
theorem dX10_wrongJoined_109 : decode cX10_wrongJoined 109 = .ok (.iload_n 1, 1) := by decide +kernel
theorem dX10_wrongJoined_110 : decode cX10_wrongJoined 110 = .ok (.iload_n 2, 1) := by decide +kernel
theorem dX10_wrongJoined_111 : decode cX10_wrongJoined 111 = .ok (.invokevirtual 228, 3) := by decide +kernel
theorem dX10_wrongJoined_114 : decode cX10_wrongJoined 114 = .ok (.ifCond .ne 5, 3) := by decide +kernel
theorem dX10_wrongJoined_117 : decode cX10_wrongJoined 117 = .ok (.iload_n 2, 1) := by decide +kernel
theorem dX10_wrongJoined_118 : decode cX10_wrongJoined 118 = .ok (.ireturn, 1) := by decide +kernel
theorem dX10_wrongJoined_119 : decode cX10_wrongJoined 119 = .ok (.iinc 2 1, 3) := by decide +kernel
theorem dX10_wrongJoined_122 : decode cX10_wrongJoined 122 = .ok (.goto (-67), 3) := by decide +kernel
theorem dX10_wrongJoined_125 : decode cX10_wrongJoined 125 = .ok (.goto (-94), 3) := by decide +kernel
theorem dX10_wrongJoined_128 : decode cX10_wrongJoined 128 = .ok (.iconst (-1), 1) := by decide +kernel
theorem dX10_wrongJoined_129 : decode cX10_wrongJoined 129 = .ok (.ireturn, 1) := by decide +kernel
theorem dX10_join_0 : decode cX10_join 0 = .ok (.aload_n 0, 1) := by decide +kernel
theorem dX10_join_1 : decode cX10_join 1 = .ok (.iload_n 1, 1) := by decide +kernel
theorem dX10_join_2 : decode cX10_join 2 = .ok (.invokevirtual 130, 3) := by decide +kernel
theorem dX10_join_5 : decode cX10_join 5 = .ok (.ifCond .ne 5, 3) := by decide +kernel
theorem dX10_join_8 : decode cX10_join 8 = .ok (.iconst (-1), 1) := by decide +kernel
theorem dX10_join_9 : decode cX10_join 9 = .ok (.ireturn, 1) := by decide +kernel
theorem dX10_join_10 : decode cX10_join 10 = .ok (.aload_n 0, 1) := by decide +kernel
theorem dX10_join_11 : decode cX10_join 11 = .ok (.iload_n 1, 1) := by decide +kernel
theorem dX10_join_12 : decode cX10_join 12 = .ok (.invokevirtual 231, 3) := by decide +kernel
theorem dX10_join_15 : decode cX10_join 15 = .ok (.istore_n 2, 1) := by decide +kernel
theorem dX10_join_16 : decode cX10_join 16 = .ok (.aload_n 0, 1) := by decide +kernel
theorem dX10_join_17 : decode cX10_join 17 = .ok (.getfield 35, 3) := by decide +kernel
theorem dX10_join_20 : decode cX10_join 20 = .ok (.iload_n 1, 1) := by decide +kernel
theorem dX10_join_21 : decode cX10_join 21 = .ok (.iload_n 2, 1) := by decide +kernel
theorem dX10_join_22 : decode cX10_join 22 = .ok (.ifCond .ge 7, 3) := by decide +kernel
theorem dX10_join_25 : decode cX10_join 25 = .ok (.iconst 1, 1) := by decide +kernel
theorem dX10_join_26 : decode cX10_join 26 = .ok (.goto 4, 3) := by decide +kernel
theorem dX10_join_29 : decode cX10_join 29 = .ok (.iconst 0, 1) := by decide +kernel
theorem dX10_join_30 : decode cX10_join 30 = .ok (.bastore, 1) := by decide +kernel
theorem dX10_join_31 : decode cX10_join 31 = .ok (.iload_n 2, 1) := by decide +kernel
theorem dX10_join_32 : decode cX10_join 32 = .ok (.ifCond .ge 7, 3) := by decide +kernel
theorem dX10_join_35 : decode cX10_join 35 = .ok (.iconst 0, 1) := by decide +kernel
theorem dX10_join_36 : decode cX10_join 36 = .ok (.goto 6, 3) := by decide +kernel
theorem dX10_join_39 : decode cX10_join 39 = .ok (.iconst 1, 1) := by decide +kernel
theorem dX10_join_40 : decode cX10_join 40 = .ok (.iload_n 2, 1) := by decide +kernel
theorem dX10_join_41 : decode cX10_join 41 = .ok (.iadd, 1) := by decide +kernel
theorem dX10_join_42 : decode cX10_join 42 = .ok (.ireturn, 1) := by decide +kernel
theorem dX10_kind_0 : decode cX10_kind 0 = .ok (.iload_n 1, 1) := by decide +kernel
theorem dX10_kind_1 : decode cX10_kind 1 = .ok (.i2l, 1) := by decide +kernel
theorem dX10_kind_2 : decode cX10_kind 2 = .ok (.lconst 0, 1) := by decide +kernel
theorem dX10_kind_3 : decode cX10_kind 3 = .ok (.ldc2_w 137, 3) := by decide +kernel
theorem dX10_kind_6 : decode cX10_kind 6 = .ok (.invokestatic 79, 3) := by decide +kernel
theorem dX10_kind_9 : decode cX10_kind 9 = .ok (.ifCond .eq 45, 3) := by decide +kernel
theorem dX10_kind_12 : decode cX10_kind 12 = .ok (.aload_n 0, 1) := by decide +kernel
theorem dX10_kind_13 : decode cX10_kind 13 = .ok (.getfield 39, 3) := by decide +kernel
theorem dX10_kind_16 : decode cX10_kind 16 = .ok (.iload_n 1, 1) := by decide +kernel
theorem dX10_kind_17 : decode cX10_kind 17 = .ok (.iaload, 1) := by decide +kernel
theorem dX10_kind_18 : decode cX10_kind 18 = .ok (.ifCond .lt 36, 3) := by decide +kernel
theorem dX10_kind_21 : decode cX10_kind 21 = .ok (.iload_n 2, 1) := by decide +kernel
theorem dX10_kind_22 : decode cX10_kind 22 = .ok (.i2l, 1) := by decide +kernel
theorem dX10_kind_23 : decode cX10_kind 23 = .ok (.lconst 0, 1) := by decide +kernel
theorem dX10_kind_24 : decode cX10_kind 24 = .ok (.bipush 7, 2) := by decide +kernel
theorem dX10_kind_26 : decode cX10_kind 26 = .ok (.aload_n 0, 1) := by decide +kernel
theorem dX10_kind_27 : decode cX10_kind 27 = .ok (.getfield 39, 3) := by decide +kernel
theorem dX10_kind_30 : decode cX10_kind 30 = .ok (.iload_n 1, 1) := by decide +kernel
theorem dX10_kind_31 : decode cX10_kind 31 = .ok (.iaload, 1) := by decide +kernel
theorem dX10_kind_32 : decode cX10_kind 32 = .ok (.iadd, 1) := by decide +kernel
theorem dX10_kind_33 : decode cX10_kind 33 = .ok (.i2l, 1) := by decide +kernel
theorem dX10_kind_34 : decode cX10_kind 34 = .ok (.invokestatic 79, 3) := by decide +kernel
theorem dX10_kind_37 : decode cX10_kind 37 = .ok (.ifCond .eq 17, 3) := by decide +kernel
theorem dX10_kind_40 : decode cX10_kind 40 = .ok (.aload_n 0, 1) := by decide +kernel
theorem dX10_kind_41 : decode cX10_kind 41 = .ok (.getfield 42, 3) := by decide +kernel
theorem dX10_kind_44 : decode cX10_kind 44 = .ok (.bipush 16, 2) := by decide +kernel
theorem dX10_kind_46 : decode cX10_kind 46 = .ok (.iload_n 1, 1) := by decide +kernel
theorem dX10_kind_47 : decode cX10_kind 47 = .ok (.imul, 1) := by decide +kernel
theorem dX10_kind_48 : decode cX10_kind 48 = .ok (.iload_n 2, 1) := by decide +kernel
theorem dX10_kind_49 : decode cX10_kind 49 = .ok (.iadd, 1) := by decide +kernel
theorem dX10_kind_50 : decode cX10_kind 50 = .ok (.iaload, 1) := by decide +kernel
theorem dX10_kind_51 : decode cX10_kind 51 = .ok (.goto 5, 3) := by decide +kernel
theorem dX10_kind_54 : decode cX10_kind 54 = .ok (.ldc 234, 2) := by decide +kernel
theorem dX10_kind_56 : decode cX10_kind 56 = .ok (.ireturn, 1) := by decide +kernel
theorem dX10_rounds_0 : decode cX10_rounds 0 = .ok (.aload_n 0, 1) := by decide +kernel
theorem dX10_rounds_1 : decode cX10_rounds 1 = .ok (.getfield 225, 3) := by decide +kernel
theorem dX10_rounds_4 : decode cX10_rounds 4 = .ok (.ireturn, 1) := by decide +kernel
theorem dX10_areRight_0 : decode cX10_areRight 0 = .ok (.iconst 1, 1) := by decide +kernel
theorem dX10_areRight_1 : decode cX10_areRight 1 = .ok (.iload_n 1, 1) := by decide +kernel
theorem dX10_areRight_2 : decode cX10_areRight 2 = .ok (.ishl, 1) := by decide +kernel
theorem dX10_areRight_3 : decode cX10_areRight 3 = .ok (.istore_n 2, 1) := by decide +kernel
theorem dX10_areRight_4 : decode cX10_areRight 4 = .ok (.iload_n 1, 1) := by decide +kernel
theorem dX10_areRight_5 : decode cX10_areRight 5 = .ok (.istore_n 3, 1) := by decide +kernel
theorem dX10_areRight_6 : decode cX10_areRight 6 = .ok (.iload_n 3, 1) := by decide +kernel
theorem dX10_areRight_7 : decode cX10_areRight 7 = .ok (.ifCond .lt 109, 3) := by decide +kernel
theorem dX10_areRight_10 : decode cX10_areRight 10 = .ok (.iload_n 2, 1) := by decide +kernel
theorem dX10_areRight_11 : decode cX10_areRight 11 = .ok (.iload_n 3, 1) := by decide +kernel
theorem dX10_areRight_12 : decode cX10_areRight 12 = .ok (.ishr, 1) := by decide +kernel
theorem dX10_areRight_13 : decode cX10_areRight 13 = .ok (.iconst 1, 1) := by decide +kernel
theorem dX10_areRight_14 : decode cX10_areRight 14 = .ok (.iand, 1) := by decide +kernel
theorem dX10_areRight_15 : decode cX10_areRight 15 = .ok (.ifCond .ne 6, 3) := by decide +kernel
theorem dX10_areRight_18 : decode cX10_areRight 18 = .ok (.goto 92, 3) := by decide +kernel
theorem dX10_areRight_21 : decode cX10_areRight 21 = .ok (.aload_n 0, 1) := by decide +kernel
theorem dX10_areRight_22 : decode cX10_areRight 22 = .ok (.getfield 35, 3) := by decide +kernel
theorem dX10_areRight_25 : decode cX10_areRight 25 = .ok (.iload_n 3, 1) := by decide +kernel
theorem dX10_areRight_26 : decode cX10_areRight 26 = .ok (.baload, 1) := by decide +kernel
theorem dX10_areRight_27 : decode cX10_areRight 27 = .ok (.ifCond .ne 5, 3) := by decide +kernel
theorem dX10_areRight_30 : decode cX10_areRight 30 = .ok (.iconst 0, 1) := by decide +kernel
theorem dX10_areRight_31 : decode cX10_areRight 31 = .ok (.ireturn, 1) := by decide +kernel
theorem dX10_areRight_32 : decode cX10_areRight 32 = .ok (.iconst 0, 1) := by decide +kernel
theorem dX10_areRight_33 : decode cX10_areRight 33 = .ok (.istore 4, 2) := by decide +kernel
theorem dX10_areRight_35 : decode cX10_areRight 35 = .ok (.iload 4, 2) := by decide +kernel
theorem dX10_areRight_37 : decode cX10_areRight 37 = .ok (.aload_n 0, 1) := by decide +kernel
theorem dX10_areRight_38 : decode cX10_areRight 38 = .ok (.getfield 13, 3) := by decide +kernel
theorem dX10_areRight_41 : decode cX10_areRight 41 = .ok (.iload_n 3, 1) := by decide +kernel
theorem dX10_areRight_42 : decode cX10_areRight 42 = .ok (.iaload, 1) := by decide +kernel
theorem dX10_areRight_43 : decode cX10_areRight 43 = .ok (.if_icmp .ge 67, 3) := by decide +kernel
theorem dX10_areRight_46 : decode cX10_areRight 46 = .ok (.aload_n 0, 1) := by decide +kernel
theorem dX10_areRight_47 : decode cX10_areRight 47 = .ok (.getfield 16, 3) := by decide +kernel
theorem dX10_areRight_50 : decode cX10_areRight 50 = .ok (.bipush 40, 2) := by decide +kernel
theorem dX10_areRight_52 : decode cX10_areRight 52 = .ok (.iload_n 3, 1) := by decide +kernel
theorem dX10_areRight_53 : decode cX10_areRight 53 = .ok (.imul, 1) := by decide +kernel
theorem dX10_areRight_54 : decode cX10_areRight 54 = .ok (.iload 4, 2) := by decide +kernel
theorem dX10_areRight_56 : decode cX10_areRight 56 = .ok (.iadd, 1) := by decide +kernel
theorem dX10_areRight_57 : decode cX10_areRight 57 = .ok (.iaload, 1) := by decide +kernel
theorem dX10_areRight_58 : decode cX10_areRight 58 = .ok (.bipush 33, 2) := by decide +kernel
theorem dX10_areRight_60 : decode cX10_areRight 60 = .ok (.if_icmp .ne 44, 3) := by decide +kernel
theorem dX10_areRight_63 : decode cX10_areRight 63 = .ok (.aload_n 0, 1) := by decide +kernel
theorem dX10_areRight_64 : decode cX10_areRight 64 = .ok (.getfield 19, 3) := by decide +kernel
theorem dX10_areRight_67 : decode cX10_areRight 67 = .ok (.bipush 40, 2) := by decide +kernel
theorem dX10_areRight_69 : decode cX10_areRight 69 = .ok (.iload_n 3, 1) := by decide +kernel
theorem dX10_areRight_70 : decode cX10_areRight 70 = .ok (.imul, 1) := by decide +kernel
theorem dX10_areRight_71 : decode cX10_areRight 71 = .ok (.iload 4, 2) := by decide +kernel
theorem dX10_areRight_73 : decode cX10_areRight 73 = .ok (.iadd, 1) := by decide +kernel
theorem dX10_areRight_74 : decode cX10_areRight 74 = .ok (.laload, 1) := by decide +kernel
theorem dX10_areRight_75 : decode cX10_areRight 75 = .ok (.lconst 0, 1) := by decide +kernel
theorem dX10_areRight_76 : decode cX10_areRight 76 = .ok (.iload_n 3, 1) := by decide +kernel
theorem dX10_areRight_77 : decode cX10_areRight 77 = .ok (.iconst 1, 1) := by decide +kernel
theorem dX10_areRight_78 : decode cX10_areRight 78 = .ok (.isub, 1) := by decide +kernel
theorem dX10_areRight_79 : decode cX10_areRight 79 = .ok (.i2l, 1) := by decide +kernel
theorem dX10_areRight_80 : decode cX10_areRight 80 = .ok (.invokestatic 79, 3) := by decide +kernel
theorem dX10_areRight_83 : decode cX10_areRight 83 = .ok (.ifCond .eq 21, 3) := by decide +kernel
theorem dX10_areRight_86 : decode cX10_areRight 86 = .ok (.iload_n 2, 1) := by decide +kernel
theorem dX10_areRight_87 : decode cX10_areRight 87 = .ok (.iconst 1, 1) := by decide +kernel
theorem dX10_areRight_88 : decode cX10_areRight 88 = .ok (.aload_n 0, 1) := by decide +kernel
theorem dX10_areRight_89 : decode cX10_areRight 89 = .ok (.getfield 19, 3) := by decide +kernel
theorem dX10_areRight_92 : decode cX10_areRight 92 = .ok (.bipush 40, 2) := by decide +kernel
theorem dX10_areRight_94 : decode cX10_areRight 94 = .ok (.iload_n 3, 1) := by decide +kernel
theorem dX10_areRight_95 : decode cX10_areRight 95 = .ok (.imul, 1) := by decide +kernel
theorem dX10_areRight_96 : decode cX10_areRight 96 = .ok (.iload 4, 2) := by decide +kernel
theorem dX10_areRight_98 : decode cX10_areRight 98 = .ok (.iadd, 1) := by decide +kernel
theorem dX10_areRight_99 : decode cX10_areRight 99 = .ok (.laload, 1) := by decide +kernel
theorem dX10_areRight_100 : decode cX10_areRight 100 = .ok (.l2i, 1) := by decide +kernel
theorem dX10_areRight_101 : decode cX10_areRight 101 = .ok (.ishl, 1) := by decide +kernel
theorem dX10_areRight_102 : decode cX10_areRight 102 = .ok (.ior, 1) := by decide +kernel
theorem dX10_areRight_103 : decode cX10_areRight 103 = .ok (.istore_n 2, 1) := by decide +kernel
theorem dX10_areRight_104 : decode cX10_areRight 104 = .ok (.iinc 4 1, 3) := by decide +kernel
theorem dX10_areRight_107 : decode cX10_areRight 107 = .ok (.goto (-72), 3) := by decide +kernel
theorem dX10_areRight_110 : decode cX10_areRight 110 = .ok (.iinc 3 (-1), 3) := by decide +kernel
theorem dX10_areRight_113 : decode cX10_areRight 113 = .ok (.goto (-107), 3) := by decide +kernel
theorem dX10_areRight_116 : decode cX10_areRight 116 = .ok (.iconst 1, 1) := by decide +kernel
theorem dX10_areRight_117 : decode cX10_areRight 117 = .ok (.ireturn, 1) := by decide +kernel
theorem dX10_put_0 : decode cX10_put 0 = .ok (.aload_n 0, 1) := by decide +kernel
theorem dX10_put_1 : decode cX10_put 1 = .ok (.getfield 51, 3) := by decide +kernel
theorem dX10_put_4 : decode cX10_put 4 = .ok (.bipush 16, 2) := by decide +kernel
theorem dX10_put_6 : decode cX10_put 6 = .ok (.aload_n 0, 1) := by decide +kernel
theorem dX10_put_7 : decode cX10_put 7 = .ok (.getfield 235, 3) := by decide +kernel
theorem dX10_put_10 : decode cX10_put 10 = .ok (.imul, 1) := by decide +kernel
theorem dX10_put_11 : decode cX10_put 11 = .ok (.bipush 8, 2) := by decide +kernel
theorem dX10_put_13 : decode cX10_put 13 = .ok (.iadd, 1) := by decide +kernel
theorem dX10_put_14 : decode cX10_put 14 = .ok (.aload_n 0, 1) := by decide +kernel
theorem dX10_put_15 : decode cX10_put 15 = .ok (.getfield 54, 3) := by decide +kernel
theorem dX10_put_18 : decode cX10_put 18 = .ok (.aload_n 0, 1) := by decide +kernel
theorem dX10_put_19 : decode cX10_put 19 = .ok (.getfield 235, 3) := by decide +kernel
theorem dX10_put_22 : decode cX10_put 22 = .ok (.iaload, 1) := by decide +kernel
theorem dX10_put_23 : decode cX10_put 23 = .ok (.iadd, 1) := by decide +kernel
theorem dX10_put_24 : decode cX10_put 24 = .ok (.lload_n 1, 1) := by decide +kernel
theorem dX10_put_25 : decode cX10_put 25 = .ok (.lastore, 1) := by decide +kernel
theorem dX10_put_26 : decode cX10_put 26 = .ok (.aload_n 0, 1) := by decide +kernel
theorem dX10_put_27 : decode cX10_put 27 = .ok (.getfield 54, 3) := by decide +kernel
theorem dX10_put_30 : decode cX10_put 30 = .ok (.aload_n 0, 1) := by decide +kernel
theorem dX10_put_31 : decode cX10_put 31 = .ok (.getfield 235, 3) := by decide +kernel
theorem dX10_put_34 : decode cX10_put 34 = .ok (.dup2, 1) := by decide +kernel
theorem dX10_put_35 : decode cX10_put 35 = .ok (.iaload, 1) := by decide +kernel
theorem dX10_put_36 : decode cX10_put 36 = .ok (.iconst 1, 1) := by decide +kernel
theorem dX10_put_37 : decode cX10_put 37 = .ok (.iadd, 1) := by decide +kernel
theorem dX10_put_38 : decode cX10_put 38 = .ok (.iastore, 1) := by decide +kernel
theorem dX10_put_39 : decode cX10_put 39 = .ok (.return_, 1) := by decide +kernel
theorem dX10_take_0 : decode cX10_take 0 = .ok (.aload_n 0, 1) := by decide +kernel
theorem dX10_take_1 : decode cX10_take 1 = .ok (.getfield 54, 3) := by decide +kernel
theorem dX10_take_4 : decode cX10_take 4 = .ok (.aload_n 0, 1) := by decide +kernel
theorem dX10_take_5 : decode cX10_take 5 = .ok (.getfield 235, 3) := by decide +kernel
theorem dX10_take_8 : decode cX10_take 8 = .ok (.dup2, 1) := by decide +kernel
theorem dX10_take_9 : decode cX10_take 9 = .ok (.iaload, 1) := by decide +kernel
theorem dX10_take_10 : decode cX10_take 10 = .ok (.iconst 1, 1) := by decide +kernel
theorem dX10_take_11 : decode cX10_take 11 = .ok (.isub, 1) := by decide +kernel
theorem dX10_take_12 : decode cX10_take 12 = .ok (.iastore, 1) := by decide +kernel
theorem dX10_take_13 : decode cX10_take 13 = .ok (.aload_n 0, 1) := by decide +kernel
theorem dX10_take_14 : decode cX10_take 14 = .ok (.getfield 51, 3) := by decide +kernel
theorem dX10_take_17 : decode cX10_take 17 = .ok (.bipush 16, 2) := by decide +kernel
theorem dX10_take_19 : decode cX10_take 19 = .ok (.aload_n 0, 1) := by decide +kernel
theorem dX10_take_20 : decode cX10_take 20 = .ok (.getfield 235, 3) := by decide +kernel
theorem dX10_take_23 : decode cX10_take 23 = .ok (.imul, 1) := by decide +kernel
theorem dX10_take_24 : decode cX10_take 24 = .ok (.bipush 8, 2) := by decide +kernel
theorem dX10_take_26 : decode cX10_take 26 = .ok (.iadd, 1) := by decide +kernel
theorem dX10_take_27 : decode cX10_take 27 = .ok (.aload_n 0, 1) := by decide +kernel
theorem dX10_take_28 : decode cX10_take 28 = .ok (.getfield 54, 3) := by decide +kernel
theorem dX10_take_31 : decode cX10_take 31 = .ok (.aload_n 0, 1) := by decide +kernel
theorem dX10_take_32 : decode cX10_take 32 = .ok (.getfield 235, 3) := by decide +kernel
theorem dX10_take_35 : decode cX10_take 35 = .ok (.iaload, 1) := by decide +kernel
theorem dX10_take_36 : decode cX10_take 36 = .ok (.iadd, 1) := by decide +kernel
theorem dX10_take_37 : decode cX10_take 37 = .ok (.laload, 1) := by decide +kernel
theorem dX10_take_38 : decode cX10_take 38 = .ok (.lreturn, 1) := by decide +kernel
theorem dX10_putLong_0 : decode cX10_putLong 0 = .ok (.aload_n 0, 1) := by decide +kernel
theorem dX10_putLong_1 : decode cX10_putLong 1 = .ok (.lload_n 1, 1) := by decide +kernel
theorem dX10_putLong_2 : decode cX10_putLong 2 = .ok (.invokevirtual 238, 3) := by decide +kernel
theorem dX10_putLong_5 : decode cX10_putLong 5 = .ok (.aload_n 0, 1) := by decide +kernel
theorem dX10_putLong_6 : decode cX10_putLong 6 = .ok (.lconst 0, 1) := by decide +kernel
theorem dX10_putLong_7 : decode cX10_putLong 7 = .ok (.invokevirtual 238, 3) := by decide +kernel
theorem dX10_putLong_10 : decode cX10_putLong 10 = .ok (.return_, 1) := by decide +kernel
theorem dX10_takeLong_0 : decode cX10_takeLong 0 = .ok (.aload_n 0, 1) := by decide +kernel
theorem dX10_takeLong_1 : decode cX10_takeLong 1 = .ok (.getfield 54, 3) := by decide +kernel
theorem dX10_takeLong_4 : decode cX10_takeLong 4 = .ok (.aload_n 0, 1) := by decide +kernel
theorem dX10_takeLong_5 : decode cX10_takeLong 5 = .ok (.getfield 235, 3) := by decide +kernel
theorem dX10_takeLong_8 : decode cX10_takeLong 8 = .ok (.dup2, 1) := by decide +kernel
theorem dX10_takeLong_9 : decode cX10_takeLong 9 = .ok (.iaload, 1) := by decide +kernel
theorem dX10_takeLong_10 : decode cX10_takeLong 10 = .ok (.iconst 2, 1) := by decide +kernel
theorem dX10_takeLong_11 : decode cX10_takeLong 11 = .ok (.isub, 1) := by decide +kernel
theorem dX10_takeLong_12 : decode cX10_takeLong 12 = .ok (.iastore, 1) := by decide +kernel
theorem dX10_takeLong_13 : decode cX10_takeLong 13 = .ok (.aload_n 0, 1) := by decide +kernel
theorem dX10_takeLong_14 : decode cX10_takeLong 14 = .ok (.getfield 51, 3) := by decide +kernel
theorem dX10_takeLong_17 : decode cX10_takeLong 17 = .ok (.bipush 16, 2) := by decide +kernel
theorem dX10_takeLong_19 : decode cX10_takeLong 19 = .ok (.aload_n 0, 1) := by decide +kernel
theorem dX10_takeLong_20 : decode cX10_takeLong 20 = .ok (.getfield 235, 3) := by decide +kernel
theorem dX10_takeLong_23 : decode cX10_takeLong 23 = .ok (.imul, 1) := by decide +kernel
theorem dX10_takeLong_24 : decode cX10_takeLong 24 = .ok (.bipush 8, 2) := by decide +kernel
theorem dX10_takeLong_26 : decode cX10_takeLong 26 = .ok (.iadd, 1) := by decide +kernel
theorem dX10_takeLong_27 : decode cX10_takeLong 27 = .ok (.aload_n 0, 1) := by decide +kernel
theorem dX10_takeLong_28 : decode cX10_takeLong 28 = .ok (.getfield 54, 3) := by decide +kernel
theorem dX10_takeLong_31 : decode cX10_takeLong 31 = .ok (.aload_n 0, 1) := by decide +kernel
theorem dX10_takeLong_32 : decode cX10_takeLong 32 = .ok (.getfield 235, 3) := by decide +kernel
theorem dX10_takeLong_35 : decode cX10_takeLong 35 = .ok (.iaload, 1) := by decide +kernel
theorem dX10_takeLong_36 : decode cX10_takeLong 36 = .ok (.iadd, 1) := by decide +kernel
theorem dX10_takeLong_37 : decode cX10_takeLong 37 = .ok (.laload, 1) := by decide +kernel
theorem dX10_takeLong_38 : decode cX10_takeLong 38 = .ok (.lreturn, 1) := by decide +kernel
theorem dX10_run_0 : decode cX10_run 0 = .ok (.aload_n 0, 1) := by decide +kernel
theorem dX10_run_1 : decode cX10_run 1 = .ok (.iload_n 1, 1) := by decide +kernel
theorem dX10_run_2 : decode cX10_run 2 = .ok (.invokevirtual 130, 3) := by decide +kernel
theorem dX10_run_5 : decode cX10_run 5 = .ok (.ifCond .ne 5, 3) := by decide +kernel
theorem dX10_run_8 : decode cX10_run 8 = .ok (.iconst (-1), 1) := by decide +kernel
theorem dX10_run_9 : decode cX10_run 9 = .ok (.ireturn, 1) := by decide +kernel
theorem dX10_run_10 : decode cX10_run 10 = .ok (.aload_n 0, 1) := by decide +kernel
theorem dX10_run_11 : decode cX10_run 11 = .ok (.iload_n 1, 1) := by decide +kernel
theorem dX10_run_12 : decode cX10_run 12 = .ok (.invokevirtual 242, 3) := by decide +kernel
theorem dX10_run_15 : decode cX10_run 15 = .ok (.ifCond .ne 6, 3) := by decide +kernel
theorem dX10_run_18 : decode cX10_run 18 = .ok (.bipush (-2), 2) := by decide +kernel
theorem dX10_run_20 : decode cX10_run 20 = .ok (.ireturn, 1) := by decide +kernel
theorem dX10_run_21 : decode cX10_run 21 = .ok (.aload_n 0, 1) := by decide +kernel
theorem dX10_run_22 : decode cX10_run 22 = .ok (.iconst 1, 1) := by decide +kernel
theorem dX10_run_23 : decode cX10_run 23 = .ok (.putfield 245, 3) := by decide +kernel
theorem dX10_run_26 : decode cX10_run 26 = .ok (.aload_n 0, 1) := by decide +kernel
theorem dX10_run_27 : decode cX10_run 27 = .ok (.iconst 0, 1) := by decide +kernel
theorem dX10_run_28 : decode cX10_run 28 = .ok (.putfield 235, 3) := by decide +kernel
theorem dX10_run_31 : decode cX10_run 31 = .ok (.aload_n 0, 1) := by decide +kernel
theorem dX10_run_32 : decode cX10_run 32 = .ok (.getfield 57, 3) := by decide +kernel
theorem dX10_run_35 : decode cX10_run 35 = .ok (.iconst 0, 1) := by decide +kernel
theorem dX10_run_36 : decode cX10_run 36 = .ok (.iload_n 1, 1) := by decide +kernel
theorem dX10_run_37 : decode cX10_run 37 = .ok (.iastore, 1) := by decide +kernel
theorem dX10_run_38 : decode cX10_run 38 = .ok (.aload_n 0, 1) := by decide +kernel
theorem dX10_run_39 : decode cX10_run 39 = .ok (.getfield 60, 3) := by decide +kernel
theorem dX10_run_42 : decode cX10_run 42 = .ok (.iconst 0, 1) := by decide +kernel
theorem dX10_run_43 : decode cX10_run 43 = .ok (.iconst 0, 1) := by decide +kernel
theorem dX10_run_44 : decode cX10_run 44 = .ok (.iastore, 1) := by decide +kernel
theorem dX10_run_45 : decode cX10_run 45 = .ok (.aload_n 0, 1) := by decide +kernel
theorem dX10_run_46 : decode cX10_run 46 = .ok (.getfield 54, 3) := by decide +kernel
theorem dX10_run_49 : decode cX10_run 49 = .ok (.iconst 0, 1) := by decide +kernel
theorem dX10_run_50 : decode cX10_run 50 = .ok (.iconst 0, 1) := by decide +kernel
theorem dX10_run_51 : decode cX10_run 51 = .ok (.iastore, 1) := by decide +kernel
theorem dX10_run_52 : decode cX10_run 52 = .ok (.aload_n 0, 1) := by decide +kernel
theorem dX10_run_53 : decode cX10_run 53 = .ok (.getfield 51, 3) := by decide +kernel
theorem dX10_run_56 : decode cX10_run 56 = .ok (.iconst 0, 1) := by decide +kernel
theorem dX10_run_57 : decode cX10_run 57 = .ok (.iload_n 2, 1) := by decide +kernel
theorem dX10_run_58 : decode cX10_run 58 = .ok (.i2l, 1) := by decide +kernel
theorem dX10_run_59 : decode cX10_run 59 = .ok (.lastore, 1) := by decide +kernel
theorem dX10_run_60 : decode cX10_run 60 = .ok (.aload_n 0, 1) := by decide +kernel
theorem dX10_run_61 : decode cX10_run 61 = .ok (.getfield 51, 3) := by decide +kernel
theorem dX10_run_64 : decode cX10_run 64 = .ok (.iconst 1, 1) := by decide +kernel
theorem dX10_run_65 : decode cX10_run 65 = .ok (.iload_n 3, 1) := by decide +kernel
theorem dX10_run_66 : decode cX10_run 66 = .ok (.i2l, 1) := by decide +kernel
theorem dX10_run_67 : decode cX10_run 67 = .ok (.lastore, 1) := by decide +kernel
theorem dX10_run_68 : decode cX10_run 68 = .ok (.aload_n 0, 1) := by decide +kernel
theorem dX10_run_69 : decode cX10_run 69 = .ok (.getfield 51, 3) := by decide +kernel
theorem dX10_run_72 : decode cX10_run 72 = .ok (.iconst 2, 1) := by decide +kernel
theorem dX10_run_73 : decode cX10_run 73 = .ok (.iload 4, 2) := by decide +kernel
theorem dX10_run_75 : decode cX10_run 75 = .ok (.i2l, 1) := by decide +kernel
theorem dX10_run_76 : decode cX10_run 76 = .ok (.lastore, 1) := by decide +kernel
theorem dX10_run_77 : decode cX10_run 77 = .ok (.aload_n 0, 1) := by decide +kernel
theorem dX10_run_78 : decode cX10_run 78 = .ok (.getfield 51, 3) := by decide +kernel
theorem dX10_run_81 : decode cX10_run 81 = .ok (.iconst 3, 1) := by decide +kernel
theorem dX10_run_82 : decode cX10_run 82 = .ok (.iload 5, 2) := by decide +kernel
theorem dX10_run_84 : decode cX10_run 84 = .ok (.i2l, 1) := by decide +kernel
theorem dX10_run_85 : decode cX10_run 85 = .ok (.lastore, 1) := by decide +kernel
theorem dX10_run_86 : decode cX10_run 86 = .ok (.aload_n 0, 1) := by decide +kernel
theorem dX10_run_87 : decode cX10_run 87 = .ok (.iconst 0, 1) := by decide +kernel
theorem dX10_run_88 : decode cX10_run 88 = .ok (.putfield 248, 3) := by decide +kernel
theorem dX10_run_91 : decode cX10_run 91 = .ok (.aload_n 0, 1) := by decide +kernel
theorem dX10_run_92 : decode cX10_run 92 = .ok (.iconst 0, 1) := by decide +kernel
theorem dX10_run_93 : decode cX10_run 93 = .ok (.putfield 251, 3) := by decide +kernel
theorem dX10_run_96 : decode cX10_run 96 = .ok (.aload_n 0, 1) := by decide +kernel
theorem dX10_run_97 : decode cX10_run 97 = .ok (.iconst 0, 1) := by decide +kernel
theorem dX10_run_98 : decode cX10_run 98 = .ok (.putfield 254, 3) := by decide +kernel
theorem dX10_run_101 : decode cX10_run 101 = .ok (.aload_n 0, 1) := by decide +kernel
theorem dX10_run_102 : decode cX10_run 102 = .ok (.ldc 234, 2) := by decide +kernel
theorem dX10_run_104 : decode cX10_run 104 = .ok (.putfield 257, 3) := by decide +kernel
theorem dX10_run_107 : decode cX10_run 107 = .ok (.aload_n 0, 1) := by decide +kernel
theorem dX10_run_108 : decode cX10_run 108 = .ok (.ldc 234, 2) := by decide +kernel
theorem dX10_run_110 : decode cX10_run 110 = .ok (.putfield 260, 3) := by decide +kernel
theorem dX10_run_113 : decode cX10_run 113 = .ok (.aload_n 0, 1) := by decide +kernel
theorem dX10_run_114 : decode cX10_run 114 = .ok (.iconst 0, 1) := by decide +kernel
theorem dX10_run_115 : decode cX10_run 115 = .ok (.putfield 263, 3) := by decide +kernel
theorem dX10_run_118 : decode cX10_run 118 = .ok (.iconst (-1), 1) := by decide +kernel
theorem dX10_run_119 : decode cX10_run 119 = .ok (.istore 6, 2) := by decide +kernel
theorem dX10_run_121 : decode cX10_run 121 = .ok (.iload 6, 2) := by decide +kernel
theorem dX10_run_123 : decode cX10_run 123 = .ok (.ifCond .ge 43, 3) := by decide +kernel
theorem dX10_run_126 : decode cX10_run 126 = .ok (.aload_n 0, 1) := by decide +kernel
theorem dX10_run_127 : decode cX10_run 127 = .ok (.getfield 251, 3) := by decide +kernel
theorem dX10_run_130 : decode cX10_run 130 = .ok (.sipush 2000, 3) := by decide +kernel
theorem dX10_run_133 : decode cX10_run 133 = .ok (.if_icmp .ne 10, 3) := by decide +kernel
theorem dX10_run_136 : decode cX10_run 136 = .ok (.bipush 8, 2) := by decide +kernel
theorem dX10_run_138 : decode cX10_run 138 = .ok (.istore 6, 2) := by decide +kernel
theorem dX10_run_140 : decode cX10_run 140 = .ok (.goto (-19), 3) := by decide +kernel
theorem dX10_run_143 : decode cX10_run 143 = .ok (.aload_n 0, 1) := by decide +kernel
theorem dX10_run_144 : decode cX10_run 144 = .ok (.dup, 1) := by decide +kernel
theorem dX10_run_145 : decode cX10_run 145 = .ok (.getfield 251, 3) := by decide +kernel
theorem dX10_run_148 : decode cX10_run 148 = .ok (.iconst 1, 1) := by decide +kernel
theorem dX10_run_149 : decode cX10_run 149 = .ok (.iadd, 1) := by decide +kernel
