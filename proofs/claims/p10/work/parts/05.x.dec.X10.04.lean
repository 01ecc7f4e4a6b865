theorem dX10_goesToFrame_4 : decode cX10_goesToFrame 4 = .ok (.iload_n 2, 1) := by decide +kernel
theorem dX10_goesToFrame_5 : decode cX10_goesToFrame 5 = .ok (.iadd, 1) := by decide +kernel
theorem dX10_goesToFrame_6 : decode cX10_goesToFrame 6 = .ok (.istore_n 3, 1) := by decide +kernel
theorem dX10_goesToFrame_7 : decode cX10_goesToFrame 7 = .ok (.aload_n 0, 1) := by decide +kernel
theorem dX10_goesToFrame_8 : decode cX10_goesToFrame 8 = .ok (.getfield 29, 3) := by decide +kernel
theorem dX10_goesToFrame_11 : decode cX10_goesToFrame 11 = .ok (.iload_n 3, 1) := by decide +kernel
theorem dX10_goesToFrame_12 : decode cX10_goesToFrame 12 = .ok (.iaload, 1) := by decide +kernel
theorem dX10_goesToFrame_13 : decode cX10_goesToFrame 13 = .ok (.aload_n 0, 1) := by decide +kernel
theorem dX10_goesToFrame_14 : decode cX10_goesToFrame 14 = .ok (.getfield 145, 3) := by decide +kernel
theorem dX10_goesToFrame_17 : decode cX10_goesToFrame 17 = .ok (.if_icmp .eq 5, 3) := by decide +kernel
theorem dX10_goesToFrame_20 : decode cX10_goesToFrame 20 = .ok (.iconst 0, 1) := by decide +kernel
theorem dX10_goesToFrame_21 : decode cX10_goesToFrame 21 = .ok (.ireturn, 1) := by decide +kernel
theorem dX10_goesToFrame_22 : decode cX10_goesToFrame 22 = .ok (.iconst 1, 1) := by decide +kernel
theorem dX10_goesToFrame_23 : decode cX10_goesToFrame 23 = .ok (.istore 4, 2) := by decide +kernel
theorem dX10_goesToFrame_25 : decode cX10_goesToFrame 25 = .ok (.iconst 0, 1) := by decide +kernel
theorem dX10_goesToFrame_26 : decode cX10_goesToFrame 26 = .ok (.istore 5, 2) := by decide +kernel
theorem dX10_goesToFrame_28 : decode cX10_goesToFrame 28 = .ok (.iload 5, 2) := by decide +kernel
theorem dX10_goesToFrame_30 : decode cX10_goesToFrame 30 = .ok (.bipush 8, 2) := by decide +kernel
theorem dX10_goesToFrame_32 : decode cX10_goesToFrame 32 = .ok (.aload_n 0, 1) := by decide +kernel
theorem dX10_goesToFrame_33 : decode cX10_goesToFrame 33 = .ok (.getfield 145, 3) := by decide +kernel
theorem dX10_goesToFrame_36 : decode cX10_goesToFrame 36 = .ok (.iadd, 1) := by decide +kernel
theorem dX10_goesToFrame_37 : decode cX10_goesToFrame 37 = .ok (.if_icmp .ge 38, 3) := by decide +kernel
theorem dX10_goesToFrame_40 : decode cX10_goesToFrame 40 = .ok (.iload 4, 2) := by decide +kernel
theorem dX10_goesToFrame_42 : decode cX10_goesToFrame 42 = .ok (.ifCond .eq 33, 3) := by decide +kernel
theorem dX10_goesToFrame_45 : decode cX10_goesToFrame 45 = .ok (.aload_n 0, 1) := by decide +kernel
theorem dX10_goesToFrame_46 : decode cX10_goesToFrame 46 = .ok (.getfield 45, 3) := by decide +kernel
theorem dX10_goesToFrame_49 : decode cX10_goesToFrame 49 = .ok (.iload 5, 2) := by decide +kernel
theorem dX10_goesToFrame_51 : decode cX10_goesToFrame 51 = .ok (.iaload, 1) := by decide +kernel
theorem dX10_goesToFrame_52 : decode cX10_goesToFrame 52 = .ok (.aload_n 0, 1) := by decide +kernel
theorem dX10_goesToFrame_53 : decode cX10_goesToFrame 53 = .ok (.getfield 32, 3) := by decide +kernel
theorem dX10_goesToFrame_56 : decode cX10_goesToFrame 56 = .ok (.bipush 16, 2) := by decide +kernel
theorem dX10_goesToFrame_58 : decode cX10_goesToFrame 58 = .ok (.iload_n 3, 1) := by decide +kernel
theorem dX10_goesToFrame_59 : decode cX10_goesToFrame 59 = .ok (.imul, 1) := by decide +kernel
theorem dX10_goesToFrame_60 : decode cX10_goesToFrame 60 = .ok (.iload 5, 2) := by decide +kernel
theorem dX10_goesToFrame_62 : decode cX10_goesToFrame 62 = .ok (.iadd, 1) := by decide +kernel
theorem dX10_goesToFrame_63 : decode cX10_goesToFrame 63 = .ok (.iaload, 1) := by decide +kernel
theorem dX10_goesToFrame_64 : decode cX10_goesToFrame 64 = .ok (.invokestatic 125, 3) := by decide +kernel
theorem dX10_goesToFrame_67 : decode cX10_goesToFrame 67 = .ok (.istore 4, 2) := by decide +kernel
theorem dX10_goesToFrame_69 : decode cX10_goesToFrame 69 = .ok (.iinc 5 1, 3) := by decide +kernel
theorem dX10_goesToFrame_72 : decode cX10_goesToFrame 72 = .ok (.goto (-44), 3) := by decide +kernel
theorem dX10_goesToFrame_75 : decode cX10_goesToFrame 75 = .ok (.iload 4, 2) := by decide +kernel
theorem dX10_goesToFrame_77 : decode cX10_goesToFrame 77 = .ok (.ireturn, 1) := by decide +kernel
theorem dX10_handlersFit_0 : decode cX10_handlersFit 0 = .ok (.iconst 1, 1) := by decide +kernel
theorem dX10_handlersFit_1 : decode cX10_handlersFit 1 = .ok (.istore_n 3, 1) := by decide +kernel
theorem dX10_handlersFit_2 : decode cX10_handlersFit 2 = .ok (.iconst 0, 1) := by decide +kernel
theorem dX10_handlersFit_3 : decode cX10_handlersFit 3 = .ok (.istore 4, 2) := by decide +kernel
theorem dX10_handlersFit_5 : decode cX10_handlersFit 5 = .ok (.iload 4, 2) := by decide +kernel
theorem dX10_handlersFit_7 : decode cX10_handlersFit 7 = .ok (.aload_n 0, 1) := by decide +kernel
theorem dX10_handlersFit_8 : decode cX10_handlersFit 8 = .ok (.getfield 23, 3) := by decide +kernel
theorem dX10_handlersFit_11 : decode cX10_handlersFit 11 = .ok (.iload_n 1, 1) := by decide +kernel
theorem dX10_handlersFit_12 : decode cX10_handlersFit 12 = .ok (.iaload, 1) := by decide +kernel
theorem dX10_handlersFit_13 : decode cX10_handlersFit 13 = .ok (.if_icmp .ge 170, 3) := by decide +kernel
theorem dX10_handlersFit_16 : decode cX10_handlersFit 16 = .ok (.iload_n 3, 1) := by decide +kernel
theorem dX10_handlersFit_17 : decode cX10_handlersFit 17 = .ok (.ifCond .eq 166, 3) := by decide +kernel
theorem dX10_handlersFit_20 : decode cX10_handlersFit 20 = .ok (.iconst 4, 1) := by decide +kernel
theorem dX10_handlersFit_21 : decode cX10_handlersFit 21 = .ok (.bipush 6, 2) := by decide +kernel
theorem dX10_handlersFit_23 : decode cX10_handlersFit 23 = .ok (.iload_n 1, 1) := by decide +kernel
theorem dX10_handlersFit_24 : decode cX10_handlersFit 24 = .ok (.imul, 1) := by decide +kernel
theorem dX10_handlersFit_25 : decode cX10_handlersFit 25 = .ok (.iload 4, 2) := by decide +kernel
theorem dX10_handlersFit_27 : decode cX10_handlersFit 27 = .ok (.iadd, 1) := by decide +kernel
theorem dX10_handlersFit_28 : decode cX10_handlersFit 28 = .ok (.imul, 1) := by decide +kernel
theorem dX10_handlersFit_29 : decode cX10_handlersFit 29 = .ok (.istore 5, 2) := by decide +kernel
theorem dX10_handlersFit_31 : decode cX10_handlersFit 31 = .ok (.iload_n 2, 1) := by decide +kernel
theorem dX10_handlersFit_32 : decode cX10_handlersFit 32 = .ok (.i2l, 1) := by decide +kernel
theorem dX10_handlersFit_33 : decode cX10_handlersFit 33 = .ok (.aload_n 0, 1) := by decide +kernel
theorem dX10_handlersFit_34 : decode cX10_handlersFit 34 = .ok (.getfield 26, 3) := by decide +kernel
theorem dX10_handlersFit_37 : decode cX10_handlersFit 37 = .ok (.iload 5, 2) := by decide +kernel
theorem dX10_handlersFit_39 : decode cX10_handlersFit 39 = .ok (.iaload, 1) := by decide +kernel
theorem dX10_handlersFit_40 : decode cX10_handlersFit 40 = .ok (.i2l, 1) := by decide +kernel
theorem dX10_handlersFit_41 : decode cX10_handlersFit 41 = .ok (.aload_n 0, 1) := by decide +kernel
theorem dX10_handlersFit_42 : decode cX10_handlersFit 42 = .ok (.getfield 26, 3) := by decide +kernel
theorem dX10_handlersFit_45 : decode cX10_handlersFit 45 = .ok (.iload 5, 2) := by decide +kernel
theorem dX10_handlersFit_47 : decode cX10_handlersFit 47 = .ok (.iconst 1, 1) := by decide +kernel
theorem dX10_handlersFit_48 : decode cX10_handlersFit 48 = .ok (.iadd, 1) := by decide +kernel
theorem dX10_handlersFit_49 : decode cX10_handlersFit 49 = .ok (.iaload, 1) := by decide +kernel
theorem dX10_handlersFit_50 : decode cX10_handlersFit 50 = .ok (.iconst 1, 1) := by decide +kernel
theorem dX10_handlersFit_51 : decode cX10_handlersFit 51 = .ok (.isub, 1) := by decide +kernel
theorem dX10_handlersFit_52 : decode cX10_handlersFit 52 = .ok (.i2l, 1) := by decide +kernel
theorem dX10_handlersFit_53 : decode cX10_handlersFit 53 = .ok (.invokestatic 79, 3) := by decide +kernel
theorem dX10_handlersFit_56 : decode cX10_handlersFit 56 = .ok (.ifCond .ne 6, 3) := by decide +kernel
theorem dX10_handlersFit_59 : decode cX10_handlersFit 59 = .ok (.goto 118, 3) := by decide +kernel
theorem dX10_handlersFit_62 : decode cX10_handlersFit 62 = .ok (.bipush 40, 2) := by decide +kernel
theorem dX10_handlersFit_64 : decode cX10_handlersFit 64 = .ok (.iload_n 1, 1) := by decide +kernel
theorem dX10_handlersFit_65 : decode cX10_handlersFit 65 = .ok (.imul, 1) := by decide +kernel
theorem dX10_handlersFit_66 : decode cX10_handlersFit 66 = .ok (.aload_n 0, 1) := by decide +kernel
theorem dX10_handlersFit_67 : decode cX10_handlersFit 67 = .ok (.getfield 26, 3) := by decide +kernel
theorem dX10_handlersFit_70 : decode cX10_handlersFit 70 = .ok (.iload 5, 2) := by decide +kernel
theorem dX10_handlersFit_72 : decode cX10_handlersFit 72 = .ok (.iconst 2, 1) := by decide +kernel
theorem dX10_handlersFit_73 : decode cX10_handlersFit 73 = .ok (.iadd, 1) := by decide +kernel
theorem dX10_handlersFit_74 : decode cX10_handlersFit 74 = .ok (.iaload, 1) := by decide +kernel
theorem dX10_handlersFit_75 : decode cX10_handlersFit 75 = .ok (.iadd, 1) := by decide +kernel
theorem dX10_handlersFit_76 : decode cX10_handlersFit 76 = .ok (.istore 6, 2) := by decide +kernel
theorem dX10_handlersFit_78 : decode cX10_handlersFit 78 = .ok (.aload_n 0, 1) := by decide +kernel
theorem dX10_handlersFit_79 : decode cX10_handlersFit 79 = .ok (.getfield 26, 3) := by decide +kernel
theorem dX10_handlersFit_82 : decode cX10_handlersFit 82 = .ok (.iload 5, 2) := by decide +kernel
theorem dX10_handlersFit_84 : decode cX10_handlersFit 84 = .ok (.iconst 2, 1) := by decide +kernel
theorem dX10_handlersFit_85 : decode cX10_handlersFit 85 = .ok (.iadd, 1) := by decide +kernel
theorem dX10_handlersFit_86 : decode cX10_handlersFit 86 = .ok (.iaload, 1) := by decide +kernel
theorem dX10_handlersFit_87 : decode cX10_handlersFit 87 = .ok (.aload_n 0, 1) := by decide +kernel
theorem dX10_handlersFit_88 : decode cX10_handlersFit 88 = .ok (.getfield 13, 3) := by decide +kernel
theorem dX10_handlersFit_91 : decode cX10_handlersFit 91 = .ok (.iload_n 1, 1) := by decide +kernel
theorem dX10_handlersFit_92 : decode cX10_handlersFit 92 = .ok (.iaload, 1) := by decide +kernel
theorem dX10_handlersFit_93 : decode cX10_handlersFit 93 = .ok (.if_icmp .ge 38, 3) := by decide +kernel
theorem dX10_handlersFit_96 : decode cX10_handlersFit 96 = .ok (.aload_n 0, 1) := by decide +kernel
theorem dX10_handlersFit_97 : decode cX10_handlersFit 97 = .ok (.getfield 29, 3) := by decide +kernel
theorem dX10_handlersFit_100 : decode cX10_handlersFit 100 = .ok (.iload 6, 2) := by decide +kernel
theorem dX10_handlersFit_102 : decode cX10_handlersFit 102 = .ok (.iaload, 1) := by decide +kernel
theorem dX10_handlersFit_103 : decode cX10_handlersFit 103 = .ok (.iconst 1, 1) := by decide +kernel
theorem dX10_handlersFit_104 : decode cX10_handlersFit 104 = .ok (.if_icmp .ne 27, 3) := by decide +kernel
theorem dX10_handlersFit_107 : decode cX10_handlersFit 107 = .ok (.iconst 1, 1) := by decide +kernel
theorem dX10_handlersFit_108 : decode cX10_handlersFit 108 = .ok (.aload_n 0, 1) := by decide +kernel
theorem dX10_handlersFit_109 : decode cX10_handlersFit 109 = .ok (.getfield 32, 3) := by decide +kernel
theorem dX10_handlersFit_112 : decode cX10_handlersFit 112 = .ok (.bipush 16, 2) := by decide +kernel
theorem dX10_handlersFit_114 : decode cX10_handlersFit 114 = .ok (.iload 6, 2) := by decide +kernel
theorem dX10_handlersFit_116 : decode cX10_handlersFit 116 = .ok (.imul, 1) := by decide +kernel
theorem dX10_handlersFit_117 : decode cX10_handlersFit 117 = .ok (.bipush 8, 2) := by decide +kernel
theorem dX10_handlersFit_119 : decode cX10_handlersFit 119 = .ok (.iadd, 1) := by decide +kernel
theorem dX10_handlersFit_120 : decode cX10_handlersFit 120 = .ok (.iaload, 1) := by decide +kernel
theorem dX10_handlersFit_121 : decode cX10_handlersFit 121 = .ok (.invokestatic 125, 3) := by decide +kernel
theorem dX10_handlersFit_124 : decode cX10_handlersFit 124 = .ok (.ifCond .eq 7, 3) := by decide +kernel
theorem dX10_handlersFit_127 : decode cX10_handlersFit 127 = .ok (.iconst 1, 1) := by decide +kernel
theorem dX10_handlersFit_128 : decode cX10_handlersFit 128 = .ok (.goto 4, 3) := by decide +kernel
theorem dX10_handlersFit_131 : decode cX10_handlersFit 131 = .ok (.iconst 0, 1) := by decide +kernel
theorem dX10_handlersFit_132 : decode cX10_handlersFit 132 = .ok (.istore_n 3, 1) := by decide +kernel
theorem dX10_handlersFit_133 : decode cX10_handlersFit 133 = .ok (.iconst 0, 1) := by decide +kernel
theorem dX10_handlersFit_134 : decode cX10_handlersFit 134 = .ok (.istore 7, 2) := by decide +kernel
theorem dX10_handlersFit_136 : decode cX10_handlersFit 136 = .ok (.iload 7, 2) := by decide +kernel
theorem dX10_handlersFit_138 : decode cX10_handlersFit 138 = .ok (.bipush 8, 2) := by decide +kernel
theorem dX10_handlersFit_140 : decode cX10_handlersFit 140 = .ok (.if_icmp .ge 37, 3) := by decide +kernel
theorem dX10_handlersFit_143 : decode cX10_handlersFit 143 = .ok (.iload_n 3, 1) := by decide +kernel
theorem dX10_handlersFit_144 : decode cX10_handlersFit 144 = .ok (.ifCond .eq 33, 3) := by decide +kernel
theorem dX10_handlersFit_147 : decode cX10_handlersFit 147 = .ok (.aload_n 0, 1) := by decide +kernel
theorem dX10_handlersFit_148 : decode cX10_handlersFit 148 = .ok (.getfield 45, 3) := by decide +kernel
theorem dX10_handlersFit_151 : decode cX10_handlersFit 151 = .ok (.iload 7, 2) := by decide +kernel
theorem dX10_handlersFit_153 : decode cX10_handlersFit 153 = .ok (.iaload, 1) := by decide +kernel
theorem dX10_handlersFit_154 : decode cX10_handlersFit 154 = .ok (.aload_n 0, 1) := by decide +kernel
theorem dX10_handlersFit_155 : decode cX10_handlersFit 155 = .ok (.getfield 32, 3) := by decide +kernel
theorem dX10_handlersFit_158 : decode cX10_handlersFit 158 = .ok (.bipush 16, 2) := by decide +kernel
theorem dX10_handlersFit_160 : decode cX10_handlersFit 160 = .ok (.iload 6, 2) := by decide +kernel
theorem dX10_handlersFit_162 : decode cX10_handlersFit 162 = .ok (.imul, 1) := by decide +kernel
theorem dX10_handlersFit_163 : decode cX10_handlersFit 163 = .ok (.iload 7, 2) := by decide +kernel
theorem dX10_handlersFit_165 : decode cX10_handlersFit 165 = .ok (.iadd, 1) := by decide +kernel
theorem dX10_handlersFit_166 : decode cX10_handlersFit 166 = .ok (.iaload, 1) := by decide +kernel
theorem dX10_handlersFit_167 : decode cX10_handlersFit 167 = .ok (.invokestatic 125, 3) := by decide +kernel
theorem dX10_handlersFit_170 : decode cX10_handlersFit 170 = .ok (.istore_n 3, 1) := by decide +kernel
theorem dX10_handlersFit_171 : decode cX10_handlersFit 171 = .ok (.iinc 7 1, 3) := by decide +kernel
theorem dX10_handlersFit_174 : decode cX10_handlersFit 174 = .ok (.goto (-38), 3) := by decide +kernel
theorem dX10_handlersFit_177 : decode cX10_handlersFit 177 = .ok (.iinc 4 1, 3) := by decide +kernel
theorem dX10_handlersFit_180 : decode cX10_handlersFit 180 = .ok (.goto (-175), 3) := by decide +kernel
theorem dX10_handlersFit_183 : decode cX10_handlersFit 183 = .ok (.iload_n 3, 1) := by decide +kernel
theorem dX10_handlersFit_184 : decode cX10_handlersFit 184 = .ok (.ireturn, 1) := by decide +kernel
theorem dX10_wrongByFrames_0 : decode cX10_wrongByFrames 0 = .ok (.aload_n 0, 1) := by decide +kernel
theorem dX10_wrongByFrames_1 : decode cX10_wrongByFrames 1 = .ok (.iload_n 1, 1) := by decide +kernel
theorem dX10_wrongByFrames_2 : decode cX10_wrongByFrames 2 = .ok (.invokevirtual 188, 3) := by decide +kernel
theorem dX10_wrongByFrames_5 : decode cX10_wrongByFrames 5 = .ok (.iconst 1, 1) := by decide +kernel
theorem dX10_wrongByFrames_6 : decode cX10_wrongByFrames 6 = .ok (.istore_n 2, 1) := by decide +kernel
theorem dX10_wrongByFrames_7 : decode cX10_wrongByFrames 7 = .ok (.iconst 0, 1) := by decide +kernel
theorem dX10_wrongByFrames_8 : decode cX10_wrongByFrames 8 = .ok (.istore_n 3, 1) := by decide +kernel
theorem dX10_wrongByFrames_9 : decode cX10_wrongByFrames 9 = .ok (.iload_n 3, 1) := by decide +kernel
theorem dX10_wrongByFrames_10 : decode cX10_wrongByFrames 10 = .ok (.aload_n 0, 1) := by decide +kernel
theorem dX10_wrongByFrames_11 : decode cX10_wrongByFrames 11 = .ok (.getfield 13, 3) := by decide +kernel
theorem dX10_wrongByFrames_14 : decode cX10_wrongByFrames 14 = .ok (.iload_n 1, 1) := by decide +kernel
theorem dX10_wrongByFrames_15 : decode cX10_wrongByFrames 15 = .ok (.iaload, 1) := by decide +kernel
theorem dX10_wrongByFrames_16 : decode cX10_wrongByFrames 16 = .ok (.if_icmp .ge 173, 3) := by decide +kernel
theorem dX10_wrongByFrames_19 : decode cX10_wrongByFrames 19 = .ok (.bipush 40, 2) := by decide +kernel
theorem dX10_wrongByFrames_21 : decode cX10_wrongByFrames 21 = .ok (.iload_n 1, 1) := by decide +kernel
theorem dX10_wrongByFrames_22 : decode cX10_wrongByFrames 22 = .ok (.imul, 1) := by decide +kernel
theorem dX10_wrongByFrames_23 : decode cX10_wrongByFrames 23 = .ok (.iload_n 3, 1) := by decide +kernel
theorem dX10_wrongByFrames_24 : decode cX10_wrongByFrames 24 = .ok (.iadd, 1) := by decide +kernel
theorem dX10_wrongByFrames_25 : decode cX10_wrongByFrames 25 = .ok (.istore 4, 2) := by decide +kernel
theorem dX10_wrongByFrames_27 : decode cX10_wrongByFrames 27 = .ok (.aload_n 0, 1) := by decide +kernel
theorem dX10_wrongByFrames_28 : decode cX10_wrongByFrames 28 = .ok (.getfield 29, 3) := by decide +kernel
theorem dX10_wrongByFrames_31 : decode cX10_wrongByFrames 31 = .ok (.iload 4, 2) := by decide +kernel
theorem dX10_wrongByFrames_33 : decode cX10_wrongByFrames 33 = .ok (.iaload, 1) := by decide +kernel
theorem dX10_wrongByFrames_34 : decode cX10_wrongByFrames 34 = .ok (.ifCond .lt 68, 3) := by decide +kernel
theorem dX10_wrongByFrames_37 : decode cX10_wrongByFrames 37 = .ok (.iload_n 2, 1) := by decide +kernel
theorem dX10_wrongByFrames_38 : decode cX10_wrongByFrames 38 = .ok (.ifCond .eq 14, 3) := by decide +kernel
theorem dX10_wrongByFrames_41 : decode cX10_wrongByFrames 41 = .ok (.aload_n 0, 1) := by decide +kernel
theorem dX10_wrongByFrames_42 : decode cX10_wrongByFrames 42 = .ok (.iload_n 1, 1) := by decide +kernel
theorem dX10_wrongByFrames_43 : decode cX10_wrongByFrames 43 = .ok (.iload_n 3, 1) := by decide +kernel
theorem dX10_wrongByFrames_44 : decode cX10_wrongByFrames 44 = .ok (.invokevirtual 191, 3) := by decide +kernel
theorem dX10_wrongByFrames_47 : decode cX10_wrongByFrames 47 = .ok (.ifCond .ne 5, 3) := by decide +kernel
theorem dX10_wrongByFrames_50 : decode cX10_wrongByFrames 50 = .ok (.iload_n 3, 1) := by decide +kernel
theorem dX10_wrongByFrames_51 : decode cX10_wrongByFrames 51 = .ok (.ireturn, 1) := by decide +kernel
theorem dX10_wrongByFrames_52 : decode cX10_wrongByFrames 52 = .ok (.aload_n 0, 1) := by decide +kernel
theorem dX10_wrongByFrames_53 : decode cX10_wrongByFrames 53 = .ok (.aload_n 0, 1) := by decide +kernel
theorem dX10_wrongByFrames_54 : decode cX10_wrongByFrames 54 = .ok (.getfield 29, 3) := by decide +kernel
theorem dX10_wrongByFrames_57 : decode cX10_wrongByFrames 57 = .ok (.iload 4, 2) := by decide +kernel
theorem dX10_wrongByFrames_59 : decode cX10_wrongByFrames 59 = .ok (.iaload, 1) := by decide +kernel
theorem dX10_wrongByFrames_60 : decode cX10_wrongByFrames 60 = .ok (.putfield 145, 3) := by decide +kernel
theorem dX10_wrongByFrames_63 : decode cX10_wrongByFrames 63 = .ok (.iconst 0, 1) := by decide +kernel
theorem dX10_wrongByFrames_64 : decode cX10_wrongByFrames 64 = .ok (.istore 5, 2) := by decide +kernel
theorem dX10_wrongByFrames_66 : decode cX10_wrongByFrames 66 = .ok (.iload 5, 2) := by decide +kernel
theorem dX10_wrongByFrames_68 : decode cX10_wrongByFrames 68 = .ok (.bipush 16, 2) := by decide +kernel
theorem dX10_wrongByFrames_70 : decode cX10_wrongByFrames 70 = .ok (.if_icmp .ge 29, 3) := by decide +kernel
theorem dX10_wrongByFrames_73 : decode cX10_wrongByFrames 73 = .ok (.aload_n 0, 1) := by decide +kernel
theorem dX10_wrongByFrames_74 : decode cX10_wrongByFrames 74 = .ok (.getfield 45, 3) := by decide +kernel
theorem dX10_wrongByFrames_77 : decode cX10_wrongByFrames 77 = .ok (.iload 5, 2) := by decide +kernel
theorem dX10_wrongByFrames_79 : decode cX10_wrongByFrames 79 = .ok (.aload_n 0, 1) := by decide +kernel
theorem dX10_wrongByFrames_80 : decode cX10_wrongByFrames 80 = .ok (.getfield 32, 3) := by decide +kernel
theorem dX10_wrongByFrames_83 : decode cX10_wrongByFrames 83 = .ok (.bipush 16, 2) := by decide +kernel
theorem dX10_wrongByFrames_85 : decode cX10_wrongByFrames 85 = .ok (.iload 4, 2) := by decide +kernel
theorem dX10_wrongByFrames_87 : decode cX10_wrongByFrames 87 = .ok (.imul, 1) := by decide +kernel
theorem dX10_wrongByFrames_88 : decode cX10_wrongByFrames 88 = .ok (.iload 5, 2) := by decide +kernel
theorem dX10_wrongByFrames_90 : decode cX10_wrongByFrames 90 = .ok (.iadd, 1) := by decide +kernel
theorem dX10_wrongByFrames_91 : decode cX10_wrongByFrames 91 = .ok (.iaload, 1) := by decide +kernel
theorem dX10_wrongByFrames_92 : decode cX10_wrongByFrames 92 = .ok (.iastore, 1) := by decide +kernel
theorem dX10_wrongByFrames_93 : decode cX10_wrongByFrames 93 = .ok (.iinc 5 1, 3) := by decide +kernel
theorem dX10_wrongByFrames_96 : decode cX10_wrongByFrames 96 = .ok (.goto (-30), 3) := by decide +kernel
theorem dX10_wrongByFrames_99 : decode cX10_wrongByFrames 99 = .ok (.goto 9, 3) := by decide +kernel
theorem dX10_wrongByFrames_102 : decode cX10_wrongByFrames 102 = .ok (.iload_n 2, 1) := by decide +kernel
theorem dX10_wrongByFrames_103 : decode cX10_wrongByFrames 103 = .ok (.ifCond .ne 5, 3) := by decide +kernel
theorem dX10_wrongByFrames_106 : decode cX10_wrongByFrames 106 = .ok (.iload_n 3, 1) := by decide +kernel
theorem dX10_wrongByFrames_107 : decode cX10_wrongByFrames 107 = .ok (.ireturn, 1) := by decide +kernel
theorem dX10_wrongByFrames_108 : decode cX10_wrongByFrames 108 = .ok (.aload_n 0, 1) := by decide +kernel
theorem dX10_wrongByFrames_109 : decode cX10_wrongByFrames 109 = .ok (.iload_n 3, 1) := by decide +kernel
theorem dX10_wrongByFrames_110 : decode cX10_wrongByFrames 110 = .ok (.invokevirtual 194, 3) := by decide +kernel
theorem dX10_wrongByFrames_113 : decode cX10_wrongByFrames 113 = .ok (.aload_n 0, 1) := by decide +kernel
theorem dX10_wrongByFrames_114 : decode cX10_wrongByFrames 114 = .ok (.iload_n 1, 1) := by decide +kernel
theorem dX10_wrongByFrames_115 : decode cX10_wrongByFrames 115 = .ok (.iload_n 3, 1) := by decide +kernel
theorem dX10_wrongByFrames_116 : decode cX10_wrongByFrames 116 = .ok (.invokevirtual 197, 3) := by decide +kernel
theorem dX10_wrongByFrames_119 : decode cX10_wrongByFrames 119 = .ok (.ifCond .eq 12, 3) := by decide +kernel
theorem dX10_wrongByFrames_122 : decode cX10_wrongByFrames 122 = .ok (.aload_n 0, 1) := by decide +kernel
theorem dX10_wrongByFrames_123 : decode cX10_wrongByFrames 123 = .ok (.iload_n 1, 1) := by decide +kernel
theorem dX10_wrongByFrames_124 : decode cX10_wrongByFrames 124 = .ok (.iload_n 3, 1) := by decide +kernel
theorem dX10_wrongByFrames_125 : decode cX10_wrongByFrames 125 = .ok (.invokevirtual 200, 3) := by decide +kernel
theorem dX10_wrongByFrames_128 : decode cX10_wrongByFrames 128 = .ok (.ifCond .ne 5, 3) := by decide +kernel
theorem dX10_wrongByFrames_131 : decode cX10_wrongByFrames 131 = .ok (.iload_n 3, 1) := by decide +kernel
theorem dX10_wrongByFrames_132 : decode cX10_wrongByFrames 132 = .ok (.ireturn, 1) := by decide +kernel
theorem dX10_wrongByFrames_133 : decode cX10_wrongByFrames 133 = .ok (.aload_n 0, 1) := by decide +kernel
theorem dX10_wrongByFrames_134 : decode cX10_wrongByFrames 134 = .ok (.getfield 16, 3) := by decide +kernel
theorem dX10_wrongByFrames_137 : decode cX10_wrongByFrames 137 = .ok (.iload 4, 2) := by decide +kernel
theorem dX10_wrongByFrames_139 : decode cX10_wrongByFrames 139 = .ok (.iaload, 1) := by decide +kernel
theorem dX10_wrongByFrames_140 : decode cX10_wrongByFrames 140 = .ok (.invokestatic 203, 3) := by decide +kernel
theorem dX10_wrongByFrames_143 : decode cX10_wrongByFrames 143 = .ok (.ifCond .eq 21, 3) := by decide +kernel
theorem dX10_wrongByFrames_146 : decode cX10_wrongByFrames 146 = .ok (.aload_n 0, 1) := by decide +kernel
theorem dX10_wrongByFrames_147 : decode cX10_wrongByFrames 147 = .ok (.iload_n 1, 1) := by decide +kernel
theorem dX10_wrongByFrames_148 : decode cX10_wrongByFrames 148 = .ok (.aload_n 0, 1) := by decide +kernel
theorem dX10_wrongByFrames_149 : decode cX10_wrongByFrames 149 = .ok (.getfield 19, 3) := by decide +kernel
theorem dX10_wrongByFrames_152 : decode cX10_wrongByFrames 152 = .ok (.iload 4, 2) := by decide +kernel
theorem dX10_wrongByFrames_154 : decode cX10_wrongByFrames 154 = .ok (.laload, 1) := by decide +kernel
theorem dX10_wrongByFrames_155 : decode cX10_wrongByFrames 155 = .ok (.l2i, 1) := by decide +kernel
theorem dX10_wrongByFrames_156 : decode cX10_wrongByFrames 156 = .ok (.invokevirtual 191, 3) := by decide +kernel
theorem dX10_wrongByFrames_159 : decode cX10_wrongByFrames 159 = .ok (.ifCond .ne 5, 3) := by decide +kernel
theorem dX10_wrongByFrames_162 : decode cX10_wrongByFrames 162 = .ok (.iload_n 3, 1) := by decide +kernel
theorem dX10_wrongByFrames_163 : decode cX10_wrongByFrames 163 = .ok (.ireturn, 1) := by decide +kernel
theorem dX10_wrongByFrames_164 : decode cX10_wrongByFrames 164 = .ok (.aload_n 0, 1) := by decide +kernel
theorem dX10_wrongByFrames_165 : decode cX10_wrongByFrames 165 = .ok (.getfield 16, 3) := by decide +kernel
theorem dX10_wrongByFrames_168 : decode cX10_wrongByFrames 168 = .ok (.iload 4, 2) := by decide +kernel
theorem dX10_wrongByFrames_170 : decode cX10_wrongByFrames 170 = .ok (.iaload, 1) := by decide +kernel
theorem dX10_wrongByFrames_171 : decode cX10_wrongByFrames 171 = .ok (.invokestatic 206, 3) := by decide +kernel
theorem dX10_wrongByFrames_174 : decode cX10_wrongByFrames 174 = .ok (.ifCond .ne 7, 3) := by decide +kernel
theorem dX10_wrongByFrames_177 : decode cX10_wrongByFrames 177 = .ok (.iconst 1, 1) := by decide +kernel
theorem dX10_wrongByFrames_178 : decode cX10_wrongByFrames 178 = .ok (.goto 4, 3) := by decide +kernel
theorem dX10_wrongByFrames_181 : decode cX10_wrongByFrames 181 = .ok (.iconst 0, 1) := by decide +kernel
theorem dX10_wrongByFrames_182 : decode cX10_wrongByFrames 182 = .ok (.istore_n 2, 1) := by decide +kernel
theorem dX10_wrongByFrames_183 : decode cX10_wrongByFrames 183 = .ok (.iinc 3 1, 3) := by decide +kernel
theorem dX10_wrongByFrames_186 : decode cX10_wrongByFrames 186 = .ok (.goto (-177), 3) := by decide +kernel
theorem dX10_wrongByFrames_189 : decode cX10_wrongByFrames 189 = .ok (.iload_n 2, 1) := by decide +kernel
theorem dX10_wrongByFrames_190 : decode cX10_wrongByFrames 190 = .ok (.ifCond .eq 12, 3) := by decide +kernel
theorem dX10_wrongByFrames_193 : decode cX10_wrongByFrames 193 = .ok (.aload_n 0, 1) := by decide +kernel
theorem dX10_wrongByFrames_194 : decode cX10_wrongByFrames 194 = .ok (.getfield 13, 3) := by decide +kernel
theorem dX10_wrongByFrames_197 : decode cX10_wrongByFrames 197 = .ok (.iload_n 1, 1) := by decide +kernel
theorem dX10_wrongByFrames_198 : decode cX10_wrongByFrames 198 = .ok (.iaload, 1) := by decide +kernel
theorem dX10_wrongByFrames_199 : decode cX10_wrongByFrames 199 = .ok (.goto 4, 3) := by decide +kernel
theorem dX10_wrongByFrames_202 : decode cX10_wrongByFrames 202 = .ok (.iconst (-1), 1) := by decide +kernel
theorem dX10_wrongByFrames_203 : decode cX10_wrongByFrames 203 = .ok (.ireturn, 1) := by decide +kernel
theorem dX10_judge_0 : decode cX10_judge 0 = .ok (.aload_n 0, 1) := by decide +kernel
theorem dX10_judge_1 : decode cX10_judge 1 = .ok (.iload_n 1, 1) := by decide +kernel
theorem dX10_judge_2 : decode cX10_judge 2 = .ok (.invokevirtual 130, 3) := by decide +kernel
theorem dX10_judge_5 : decode cX10_judge 5 = .ok (.ifCond .ne 5, 3) := by decide +kernel
theorem dX10_judge_8 : decode cX10_judge 8 = .ok (.iconst (-1), 1) := by decide +kernel
theorem dX10_judge_9 : decode cX10_judge 9 = .ok (.ireturn, 1) := by decide +kernel
theorem dX10_judge_10 : decode cX10_judge 10 = .ok (.aload_n 0, 1) := by decide +kernel
theorem dX10_judge_11 : decode cX10_judge 11 = .ok (.iload_n 1, 1) := by decide +kernel
theorem dX10_judge_12 : decode cX10_judge 12 = .ok (.invokevirtual 209, 3) := by decide +kernel
theorem dX10_judge_15 : decode cX10_judge 15 = .ok (.istore_n 2, 1) := by decide +kernel
theorem dX10_judge_16 : decode cX10_judge 16 = .ok (.aload_n 0, 1) := by decide +kernel
theorem dX10_judge_17 : decode cX10_judge 17 = .ok (.getfield 35, 3) := by decide +kernel
theorem dX10_judge_20 : decode cX10_judge 20 = .ok (.iload_n 1, 1) := by decide +kernel
theorem dX10_judge_21 : decode cX10_judge 21 = .ok (.iload_n 2, 1) := by decide +kernel
theorem dX10_judge_22 : decode cX10_judge 22 = .ok (.ifCond .ge 7, 3) := by decide +kernel
theorem dX10_judge_25 : decode cX10_judge 25 = .ok (.iconst 1, 1) := by decide +kernel
theorem dX10_judge_26 : decode cX10_judge 26 = .ok (.goto 4, 3) := by decide +kernel
theorem dX10_judge_29 : decode cX10_judge 29 = .ok (.iconst 0, 1) := by decide +kernel
theorem dX10_judge_30 : decode cX10_judge 30 = .ok (.bastore, 1) := by decide +kernel
theorem dX10_judge_31 : decode cX10_judge 31 = .ok (.iload_n 2, 1) := by decide +kernel
theorem dX10_judge_32 : decode cX10_judge 32 = .ok (.ifCond .ge 7, 3) := by decide +kernel
theorem dX10_judge_35 : decode cX10_judge 35 = .ok (.iconst 0, 1) := by decide +kernel
theorem dX10_judge_36 : decode cX10_judge 36 = .ok (.goto 6, 3) := by decide +kernel
theorem dX10_judge_39 : decode cX10_judge 39 = .ok (.iconst 1, 1) := by decide +kernel
theorem dX10_judge_40 : decode cX10_judge 40 = .ok (.iload_n 2, 1) := by decide +kernel
theorem dX10_judge_41 : decode cX10_judge 41 = .ok (.iadd, 1) := by decide +kernel
theorem dX10_judge_42 : decode cX10_judge 42 = .ok (.ireturn, 1) := by decide +kernel
theorem dX10_comesTo_0 : decode cX10_comesTo 0 = .ok (.iload_n 2, 1) := by decide +kernel
theorem dX10_comesTo_1 : decode cX10_comesTo 1 = .ok (.i2l, 1) := by decide +kernel
theorem dX10_comesTo_2 : decode cX10_comesTo 2 = .ok (.lconst 0, 1) := by decide +kernel
theorem dX10_comesTo_3 : decode cX10_comesTo 3 = .ok (.aload_n 0, 1) := by decide +kernel
theorem dX10_comesTo_4 : decode cX10_comesTo 4 = .ok (.getfield 13, 3) := by decide +kernel
theorem dX10_comesTo_7 : decode cX10_comesTo 7 = .ok (.iload_n 1, 1) := by decide +kernel
theorem dX10_comesTo_8 : decode cX10_comesTo 8 = .ok (.iaload, 1) := by decide +kernel
theorem dX10_comesTo_9 : decode cX10_comesTo 9 = .ok (.iconst 1, 1) := by decide +kernel
theorem dX10_comesTo_10 : decode cX10_comesTo 10 = .ok (.isub, 1) := by decide +kernel
theorem dX10_comesTo_11 : decode cX10_comesTo 11 = .ok (.i2l, 1) := by decide +kernel
theorem dX10_comesTo_12 : decode cX10_comesTo 12 = .ok (.invokestatic 79, 3) := by decide +kernel
theorem dX10_comesTo_15 : decode cX10_comesTo 15 = .ok (.ifCond .ne 5, 3) := by decide +kernel
theorem dX10_comesTo_18 : decode cX10_comesTo 18 = .ok (.iconst 0, 1) := by decide +kernel
theorem dX10_comesTo_19 : decode cX10_comesTo 19 = .ok (.ireturn, 1) := by decide +kernel
theorem dX10_comesTo_20 : decode cX10_comesTo 20 = .ok (.aload_n 0, 1) := by decide +kernel
theorem dX10_comesTo_21 : decode cX10_comesTo 21 = .ok (.getfield 39, 3) := by decide +kernel
theorem dX10_comesTo_24 : decode cX10_comesTo 24 = .ok (.iload_n 2, 1) := by decide +kernel
theorem dX10_comesTo_25 : decode cX10_comesTo 25 = .ok (.iaload, 1) := by decide +kernel
theorem dX10_comesTo_26 : decode cX10_comesTo 26 = .ok (.ifCond .ge 15, 3) := by decide +kernel
theorem dX10_comesTo_29 : decode cX10_comesTo 29 = .ok (.aload_n 0, 1) := by decide +kernel
theorem dX10_comesTo_30 : decode cX10_comesTo 30 = .ok (.iload_n 2, 1) := by decide +kernel
theorem dX10_comesTo_31 : decode cX10_comesTo 31 = .ok (.invokevirtual 194, 3) := by decide +kernel
theorem dX10_comesTo_34 : decode cX10_comesTo 34 = .ok (.aload_n 0, 1) := by decide +kernel
theorem dX10_comesTo_35 : decode cX10_comesTo 35 = .ok (.iconst 1, 1) := by decide +kernel
theorem dX10_comesTo_36 : decode cX10_comesTo 36 = .ok (.putfield 212, 3) := by decide +kernel
theorem dX10_comesTo_39 : decode cX10_comesTo 39 = .ok (.iconst 1, 1) := by decide +kernel
theorem dX10_comesTo_40 : decode cX10_comesTo 40 = .ok (.ireturn, 1) := by decide +kernel
theorem dX10_comesTo_41 : decode cX10_comesTo 41 = .ok (.aload_n 0, 1) := by decide +kernel
theorem dX10_comesTo_42 : decode cX10_comesTo 42 = .ok (.getfield 39, 3) := by decide +kernel
theorem dX10_comesTo_45 : decode cX10_comesTo 45 = .ok (.iload_n 2, 1) := by decide +kernel
theorem dX10_comesTo_46 : decode cX10_comesTo 46 = .ok (.iaload, 1) := by decide +kernel
theorem dX10_comesTo_47 : decode cX10_comesTo 47 = .ok (.aload_n 0, 1) := by decide +kernel
theorem dX10_comesTo_48 : decode cX10_comesTo 48 = .ok (.getfield 145, 3) := by decide +kernel
theorem dX10_comesTo_51 : decode cX10_comesTo 51 = .ok (.if_icmp .eq 5, 3) := by decide +kernel
theorem dX10_comesTo_54 : decode cX10_comesTo 54 = .ok (.iconst 0, 1) := by decide +kernel
theorem dX10_comesTo_55 : decode cX10_comesTo 55 = .ok (.ireturn, 1) := by decide +kernel
theorem dX10_comesTo_56 : decode cX10_comesTo 56 = .ok (.iconst 0, 1) := by decide +kernel
theorem dX10_comesTo_57 : decode cX10_comesTo 57 = .ok (.istore_n 3, 1) := by decide +kernel
theorem dX10_comesTo_58 : decode cX10_comesTo 58 = .ok (.iload_n 3, 1) := by decide +kernel
theorem dX10_comesTo_59 : decode cX10_comesTo 59 = .ok (.bipush 8, 2) := by decide +kernel
theorem dX10_comesTo_61 : decode cX10_comesTo 61 = .ok (.aload_n 0, 1) := by decide +kernel
theorem dX10_comesTo_62 : decode cX10_comesTo 62 = .ok (.getfield 145, 3) := by decide +kernel
theorem dX10_comesTo_65 : decode cX10_comesTo 65 = .ok (.iadd, 1) := by decide +kernel
theorem dX10_comesTo_66 : decode cX10_comesTo 66 = .ok (.if_icmp .ge 74, 3) := by decide +kernel
theorem dX10_comesTo_69 : decode cX10_comesTo 69 = .ok (.aload_n 0, 1) := by decide +kernel
theorem dX10_comesTo_70 : decode cX10_comesTo 70 = .ok (.getfield 42, 3) := by decide +kernel
theorem dX10_comesTo_73 : decode cX10_comesTo 73 = .ok (.bipush 16, 2) := by decide +kernel
theorem dX10_comesTo_75 : decode cX10_comesTo 75 = .ok (.iload_n 2, 1) := by decide +kernel
theorem dX10_comesTo_76 : decode cX10_comesTo 76 = .ok (.imul, 1) := by decide +kernel
theorem dX10_comesTo_77 : decode cX10_comesTo 77 = .ok (.iload_n 3, 1) := by decide +kernel
theorem dX10_comesTo_78 : decode cX10_comesTo 78 = .ok (.iadd, 1) := by decide +kernel
theorem dX10_comesTo_79 : decode cX10_comesTo 79 = .ok (.iaload, 1) := by decide +kernel
theorem dX10_comesTo_80 : decode cX10_comesTo 80 = .ok (.aload_n 0, 1) := by decide +kernel
theorem dX10_comesTo_81 : decode cX10_comesTo 81 = .ok (.getfield 45, 3) := by decide +kernel
theorem dX10_comesTo_84 : decode cX10_comesTo 84 = .ok (.iload_n 3, 1) := by decide +kernel
theorem dX10_comesTo_85 : decode cX10_comesTo 85 = .ok (.iaload, 1) := by decide +kernel
theorem dX10_comesTo_86 : decode cX10_comesTo 86 = .ok (.invokestatic 122, 3) := by decide +kernel
theorem dX10_comesTo_89 : decode cX10_comesTo 89 = .ok (.istore 4, 2) := by decide +kernel
theorem dX10_comesTo_91 : decode cX10_comesTo 91 = .ok (.aload_n 0, 1) := by decide +kernel
theorem dX10_comesTo_92 : decode cX10_comesTo 92 = .ok (.dup, 1) := by decide +kernel
theorem dX10_comesTo_93 : decode cX10_comesTo 93 = .ok (.getfield 212, 3) := by decide +kernel
theorem dX10_comesTo_96 : decode cX10_comesTo 96 = .ok (.iload 4, 2) := by decide +kernel
theorem dX10_comesTo_98 : decode cX10_comesTo 98 = .ok (.aload_n 0, 1) := by decide +kernel
theorem dX10_comesTo_99 : decode cX10_comesTo 99 = .ok (.getfield 42, 3) := by decide +kernel
theorem dX10_comesTo_102 : decode cX10_comesTo 102 = .ok (.bipush 16, 2) := by decide +kernel
theorem dX10_comesTo_104 : decode cX10_comesTo 104 = .ok (.iload_n 2, 1) := by decide +kernel
theorem dX10_comesTo_105 : decode cX10_comesTo 105 = .ok (.imul, 1) := by decide +kernel
theorem dX10_comesTo_106 : decode cX10_comesTo 106 = .ok (.iload_n 3, 1) := by decide +kernel
theorem dX10_comesTo_107 : decode cX10_comesTo 107 = .ok (.iadd, 1) := by decide +kernel
theorem dX10_comesTo_108 : decode cX10_comesTo 108 = .ok (.iaload, 1) := by decide +kernel
theorem dX10_comesTo_109 : decode cX10_comesTo 109 = .ok (.if_icmp .eq 7, 3) := by decide +kernel
theorem dX10_comesTo_112 : decode cX10_comesTo 112 = .ok (.iconst 1, 1) := by decide +kernel
theorem dX10_comesTo_113 : decode cX10_comesTo 113 = .ok (.goto 4, 3) := by decide +kernel
theorem dX10_comesTo_116 : decode cX10_comesTo 116 = .ok (.iconst 0, 1) := by decide +kernel
theorem dX10_comesTo_117 : decode cX10_comesTo 117 = .ok (.ior, 1) := by decide +kernel
theorem dX10_comesTo_118 : decode cX10_comesTo 118 = .ok (.putfield 212, 3) := by decide +kernel
theorem dX10_comesTo_121 : decode cX10_comesTo 121 = .ok (.aload_n 0, 1) := by decide +kernel
theorem dX10_comesTo_122 : decode cX10_comesTo 122 = .ok (.getfield 42, 3) := by decide +kernel
theorem dX10_comesTo_125 : decode cX10_comesTo 125 = .ok (.bipush 16, 2) := by decide +kernel
theorem dX10_comesTo_127 : decode cX10_comesTo 127 = .ok (.iload_n 2, 1) := by decide +kernel
theorem dX10_comesTo_128 : decode cX10_comesTo 128 = .ok (.imul, 1) := by decide +kernel
theorem dX10_comesTo_129 : decode cX10_comesTo 129 = .ok (.iload_n 3, 1) := by decide +kernel
theorem dX10_comesTo_130 : decode cX10_comesTo 130 = .ok (.iadd, 1) := by decide +kernel
theorem dX10_comesTo_131 : decode cX10_comesTo 131 = .ok (.iload 4, 2) := by decide +kernel
theorem dX10_comesTo_133 : decode cX10_comesTo 133 = .ok (.iastore, 1) := by decide +kernel
theorem dX10_comesTo_134 : decode cX10_comesTo 134 = .ok (.iinc 3 1, 3) := by decide +kernel
theorem dX10_comesTo_137 : decode cX10_comesTo 137 = .ok (.goto (-79), 3) := by decide +kernel
theorem dX10_comesTo_140 : decode cX10_comesTo 140 = .ok (.iconst 1, 1) := by decide +kernel
theorem dX10_comesTo_141 : decode cX10_comesTo 141 = .ok (.ireturn, 1) := by decide +kernel
theorem dX10_goesOn_0 : decode cX10_goesOn 0 = .ok (.aload_n 0, 1) := by decide +kernel
theorem dX10_goesOn_1 : decode cX10_goesOn 1 = .ok (.iload_n 2, 1) := by decide +kernel
theorem dX10_goesOn_2 : decode cX10_goesOn 2 = .ok (.invokevirtual 216, 3) := by decide +kernel
theorem dX10_goesOn_5 : decode cX10_goesOn 5 = .ok (.aload_n 0, 1) := by decide +kernel
theorem dX10_goesOn_6 : decode cX10_goesOn 6 = .ok (.iload_n 1, 1) := by decide +kernel
theorem dX10_goesOn_7 : decode cX10_goesOn 7 = .ok (.iload_n 2, 1) := by decide +kernel
theorem dX10_goesOn_8 : decode cX10_goesOn 8 = .ok (.invokevirtual 200, 3) := by decide +kernel
theorem dX10_goesOn_11 : decode cX10_goesOn 11 = .ok (.ifCond .ne 5, 3) := by decide +kernel
theorem dX10_goesOn_14 : decode cX10_goesOn 14 = .ok (.iconst 0, 1) := by decide +kernel
theorem dX10_goesOn_15 : decode cX10_goesOn 15 = .ok (.ireturn, 1) := by decide +kernel
theorem dX10_goesOn_16 : decode cX10_goesOn 16 = .ok (.aload_n 0, 1) := by decide +kernel
theorem dX10_goesOn_17 : decode cX10_goesOn 17 = .ok (.getfield 16, 3) := by decide +kernel
theorem dX10_goesOn_20 : decode cX10_goesOn 20 = .ok (.bipush 40, 2) := by decide +kernel
theorem dX10_goesOn_22 : decode cX10_goesOn 22 = .ok (.iload_n 1, 1) := by decide +kernel
theorem dX10_goesOn_23 : decode cX10_goesOn 23 = .ok (.imul, 1) := by decide +kernel
theorem dX10_goesOn_24 : decode cX10_goesOn 24 = .ok (.iload_n 2, 1) := by decide +kernel
theorem dX10_goesOn_25 : decode cX10_goesOn 25 = .ok (.iadd, 1) := by decide +kernel
theorem dX10_goesOn_26 : decode cX10_goesOn 26 = .ok (.iaload, 1) := by decide +kernel
theorem dX10_goesOn_27 : decode cX10_goesOn 27 = .ok (.istore_n 3, 1) := by decide +kernel
theorem dX10_goesOn_28 : decode cX10_goesOn 28 = .ok (.iload_n 3, 1) := by decide +kernel
theorem dX10_goesOn_29 : decode cX10_goesOn 29 = .ok (.invokestatic 206, 3) := by decide +kernel
theorem dX10_goesOn_32 : decode cX10_goesOn 32 = .ok (.ifCond .ne 16, 3) := by decide +kernel
theorem dX10_goesOn_35 : decode cX10_goesOn 35 = .ok (.aload_n 0, 1) := by decide +kernel
theorem dX10_goesOn_36 : decode cX10_goesOn 36 = .ok (.iload_n 1, 1) := by decide +kernel
theorem dX10_goesOn_37 : decode cX10_goesOn 37 = .ok (.iload_n 2, 1) := by decide +kernel
theorem dX10_goesOn_38 : decode cX10_goesOn 38 = .ok (.iconst 1, 1) := by decide +kernel
theorem dX10_goesOn_39 : decode cX10_goesOn 39 = .ok (.iadd, 1) := by decide +kernel
theorem dX10_goesOn_40 : decode cX10_goesOn 40 = .ok (.invokevirtual 219, 3) := by decide +kernel
theorem dX10_goesOn_43 : decode cX10_goesOn 43 = .ok (.ifCond .ne 5, 3) := by decide +kernel
theorem dX10_goesOn_46 : decode cX10_goesOn 46 = .ok (.iconst 0, 1) := by decide +kernel
theorem dX10_goesOn_47 : decode cX10_goesOn 47 = .ok (.ireturn, 1) := by decide +kernel
theorem dX10_goesOn_48 : decode cX10_goesOn 48 = .ok (.iload_n 3, 1) := by decide +kernel
theorem dX10_goesOn_49 : decode cX10_goesOn 49 = .ok (.invokestatic 203, 3) := by decide +kernel
theorem dX10_goesOn_52 : decode cX10_goesOn 52 = .ok (.ifCond .eq 25, 3) := by decide +kernel
theorem dX10_goesOn_55 : decode cX10_goesOn 55 = .ok (.aload_n 0, 1) := by decide +kernel
theorem dX10_goesOn_56 : decode cX10_goesOn 56 = .ok (.iload_n 1, 1) := by decide +kernel
theorem dX10_goesOn_57 : decode cX10_goesOn 57 = .ok (.aload_n 0, 1) := by decide +kernel
theorem dX10_goesOn_58 : decode cX10_goesOn 58 = .ok (.getfield 19, 3) := by decide +kernel
theorem dX10_goesOn_61 : decode cX10_goesOn 61 = .ok (.bipush 40, 2) := by decide +kernel
theorem dX10_goesOn_63 : decode cX10_goesOn 63 = .ok (.iload_n 1, 1) := by decide +kernel
theorem dX10_goesOn_64 : decode cX10_goesOn 64 = .ok (.imul, 1) := by decide +kernel
theorem dX10_goesOn_65 : decode cX10_goesOn 65 = .ok (.iload_n 2, 1) := by decide +kernel
theorem dX10_goesOn_66 : decode cX10_goesOn 66 = .ok (.iadd, 1) := by decide +kernel
theorem dX10_goesOn_67 : decode cX10_goesOn 67 = .ok (.laload, 1) := by decide +kernel
theorem dX10_goesOn_68 : decode cX10_goesOn 68 = .ok (.l2i, 1) := by decide +kernel
theorem dX10_goesOn_69 : decode cX10_goesOn 69 = .ok (.invokevirtual 219, 3) := by decide +kernel
theorem dX10_goesOn_72 : decode cX10_goesOn 72 = .ok (.ifCond .ne 5, 3) := by decide +kernel
theorem dX10_goesOn_75 : decode cX10_goesOn 75 = .ok (.iconst 0, 1) := by decide +kernel
theorem dX10_goesOn_76 : decode cX10_goesOn 76 = .ok (.ireturn, 1) := by decide +kernel
theorem dX10_goesOn_77 : decode cX10_goesOn 77 = .ok (.iconst 1, 1) := by decide +kernel
theorem dX10_goesOn_78 : decode cX10_goesOn 78 = .ok (.istore 4, 2) := by decide +kernel
theorem dX10_goesOn_80 : decode cX10_goesOn 80 = .ok (.iconst 0, 1) := by decide +kernel
theorem dX10_goesOn_81 : decode cX10_goesOn 81 = .ok (.istore 5, 2) := by decide +kernel
theorem dX10_goesOn_83 : decode cX10_goesOn 83 = .ok (.iload 5, 2) := by decide +kernel
theorem dX10_goesOn_85 : decode cX10_goesOn 85 = .ok (.aload_n 0, 1) := by decide +kernel
theorem dX10_goesOn_86 : decode cX10_goesOn 86 = .ok (.getfield 23, 3) := by decide +kernel
theorem dX10_goesOn_89 : decode cX10_goesOn 89 = .ok (.iload_n 1, 1) := by decide +kernel
theorem dX10_goesOn_90 : decode cX10_goesOn 90 = .ok (.iaload, 1) := by decide +kernel
theorem dX10_goesOn_91 : decode cX10_goesOn 91 = .ok (.if_icmp .ge 74, 3) := by decide +kernel
theorem dX10_goesOn_94 : decode cX10_goesOn 94 = .ok (.iload 4, 2) := by decide +kernel
theorem dX10_goesOn_96 : decode cX10_goesOn 96 = .ok (.ifCond .eq 69, 3) := by decide +kernel
theorem dX10_goesOn_99 : decode cX10_goesOn 99 = .ok (.iconst 4, 1) := by decide +kernel
theorem dX10_goesOn_100 : decode cX10_goesOn 100 = .ok (.bipush 6, 2) := by decide +kernel
theorem dX10_goesOn_102 : decode cX10_goesOn 102 = .ok (.iload_n 1, 1) := by decide +kernel
theorem dX10_goesOn_103 : decode cX10_goesOn 103 = .ok (.imul, 1) := by decide +kernel
theorem dX10_goesOn_104 : decode cX10_goesOn 104 = .ok (.iload 5, 2) := by decide +kernel
theorem dX10_goesOn_106 : decode cX10_goesOn 106 = .ok (.iadd, 1) := by decide +kernel
