theorem dX8_init_0 : decode cX8_init 0 = .ok (.aload_n 0, 1) := by decide +kernel
theorem dX8_init_1 : decode cX8_init 1 = .ok (.invokespecial 1, 3) := by decide +kernel
theorem dX8_init_4 : decode cX8_init 4 = .ok (.aload_n 0, 1) := by decide +kernel
theorem dX8_init_5 : decode cX8_init 5 = .ok (.new 7, 3) := by decide +kernel
theorem dX8_init_8 : decode cX8_init 8 = .ok (.dup, 1) := by decide +kernel
theorem dX8_init_9 : decode cX8_init 9 = .ok (.invokespecial 9, 3) := by decide +kernel
theorem dX8_init_12 : decode cX8_init 12 = .ok (.putfield 10, 3) := by decide +kernel
theorem dX8_init_15 : decode cX8_init 15 = .ok (.return_, 1) := by decide +kernel
theorem dX8_does_0 : decode cX8_does 0 = .ok (.aload_n 2, 1) := by decide +kernel
theorem dX8_does_1 : decode cX8_does 1 = .ok (.iload_n 3, 1) := by decide +kernel
theorem dX8_does_2 : decode cX8_does 2 = .ok (.i2l, 1) := by decide +kernel
theorem dX8_does_3 : decode cX8_does 3 = .ok (.invokevirtual 16, 3) := by decide +kernel
theorem dX8_does_6 : decode cX8_does 6 = .ok (.ifCond .ne 5, 3) := by decide +kernel
theorem dX8_does_9 : decode cX8_does 9 = .ok (.iconst 0, 1) := by decide +kernel
theorem dX8_does_10 : decode cX8_does 10 = .ok (.ireturn, 1) := by decide +kernel
theorem dX8_does_11 : decode cX8_does 11 = .ok (.aload_n 2, 1) := by decide +kernel
theorem dX8_does_12 : decode cX8_does 12 = .ok (.getfield 22, 3) := by decide +kernel
theorem dX8_does_15 : decode cX8_does 15 = .ok (.iload_n 3, 1) := by decide +kernel
theorem dX8_does_16 : decode cX8_does 16 = .ok (.iaload, 1) := by decide +kernel
theorem dX8_does_17 : decode cX8_does 17 = .ok (.istore 4, 2) := by decide +kernel
theorem dX8_does_19 : decode cX8_does 19 = .ok (.aload_n 2, 1) := by decide +kernel
theorem dX8_does_20 : decode cX8_does 20 = .ok (.getfield 26, 3) := by decide +kernel
theorem dX8_does_23 : decode cX8_does 23 = .ok (.iload_n 3, 1) := by decide +kernel
theorem dX8_does_24 : decode cX8_does 24 = .ok (.laload, 1) := by decide +kernel
theorem dX8_does_25 : decode cX8_does 25 = .ok (.lstore 5, 2) := by decide +kernel
theorem dX8_does_27 : decode cX8_does 27 = .ok (.aload_n 0, 1) := by decide +kernel
theorem dX8_does_28 : decode cX8_does 28 = .ok (.iconst (-1), 1) := by decide +kernel
theorem dX8_does_29 : decode cX8_does 29 = .ok (.putfield 30, 3) := by decide +kernel
theorem dX8_does_32 : decode cX8_does 32 = .ok (.aload_n 0, 1) := by decide +kernel
theorem dX8_does_33 : decode cX8_does 33 = .ok (.iload 4, 2) := by decide +kernel
theorem dX8_does_35 : decode cX8_does 35 = .ok (.bipush 29, 2) := by decide +kernel
theorem dX8_does_37 : decode cX8_does 37 = .ok (.if_icmp .eq 21, 3) := by decide +kernel
theorem dX8_does_40 : decode cX8_does 40 = .ok (.iload 4, 2) := by decide +kernel
theorem dX8_does_42 : decode cX8_does 42 = .ok (.bipush 32, 2) := by decide +kernel
theorem dX8_does_44 : decode cX8_does 44 = .ok (.if_icmp .eq 14, 3) := by decide +kernel
theorem dX8_does_47 : decode cX8_does 47 = .ok (.iload 4, 2) := by decide +kernel
theorem dX8_does_49 : decode cX8_does 49 = .ok (.bipush 34, 2) := by decide +kernel
theorem dX8_does_51 : decode cX8_does 51 = .ok (.if_icmp .eq 7, 3) := by decide +kernel
theorem dX8_does_54 : decode cX8_does 54 = .ok (.iconst 1, 1) := by decide +kernel
theorem dX8_does_55 : decode cX8_does 55 = .ok (.goto 4, 3) := by decide +kernel
theorem dX8_does_58 : decode cX8_does 58 = .ok (.iconst 0, 1) := by decide +kernel
theorem dX8_does_59 : decode cX8_does 59 = .ok (.putfield 36, 3) := by decide +kernel
theorem dX8_does_62 : decode cX8_does 62 = .ok (.iload 4, 2) := by decide +kernel
theorem dX8_does_64 : decode cX8_does 64 = .ok (.ifCond .lt 10, 3) := by decide +kernel
theorem dX8_does_67 : decode cX8_does 67 = .ok (.iload 4, 2) := by decide +kernel
theorem dX8_does_69 : decode cX8_does 69 = .ok (.bipush 34, 2) := by decide +kernel
theorem dX8_does_71 : decode cX8_does 71 = .ok (.if_icmp .le 5, 3) := by decide +kernel
theorem dX8_does_74 : decode cX8_does 74 = .ok (.iconst 0, 1) := by decide +kernel
theorem dX8_does_75 : decode cX8_does 75 = .ok (.ireturn, 1) := by decide +kernel
theorem dX8_does_76 : decode cX8_does 76 = .ok (.iload 4, 2) := by decide +kernel
theorem dX8_does_78 : decode cX8_does 78 = .ok (.bipush 6, 2) := by decide +kernel
theorem dX8_does_80 : decode cX8_does 80 = .ok (.if_icmp .gt 12, 3) := by decide +kernel
theorem dX8_does_83 : decode cX8_does 83 = .ok (.aload_n 0, 1) := by decide +kernel
theorem dX8_does_84 : decode cX8_does 84 = .ok (.iload 4, 2) := by decide +kernel
theorem dX8_does_86 : decode cX8_does 86 = .ok (.lload 5, 2) := by decide +kernel
theorem dX8_does_88 : decode cX8_does 88 = .ok (.invokevirtual 40, 3) := by decide +kernel
theorem dX8_does_91 : decode cX8_does 91 = .ok (.ireturn, 1) := by decide +kernel
theorem dX8_does_92 : decode cX8_does 92 = .ok (.iload 4, 2) := by decide +kernel
theorem dX8_does_94 : decode cX8_does 94 = .ok (.bipush 11, 2) := by decide +kernel
theorem dX8_does_96 : decode cX8_does 96 = .ok (.if_icmp .gt 12, 3) := by decide +kernel
theorem dX8_does_99 : decode cX8_does 99 = .ok (.aload_n 0, 1) := by decide +kernel
theorem dX8_does_100 : decode cX8_does 100 = .ok (.iload 4, 2) := by decide +kernel
theorem dX8_does_102 : decode cX8_does 102 = .ok (.lload 5, 2) := by decide +kernel
theorem dX8_does_104 : decode cX8_does 104 = .ok (.invokevirtual 44, 3) := by decide +kernel
theorem dX8_does_107 : decode cX8_does 107 = .ok (.ireturn, 1) := by decide +kernel
theorem dX8_does_108 : decode cX8_does 108 = .ok (.iload 4, 2) := by decide +kernel
theorem dX8_does_110 : decode cX8_does 110 = .ok (.bipush 13, 2) := by decide +kernel
theorem dX8_does_112 : decode cX8_does 112 = .ok (.if_icmp .gt 28, 3) := by decide +kernel
theorem dX8_does_115 : decode cX8_does 115 = .ok (.iload 4, 2) := by decide +kernel
theorem dX8_does_117 : decode cX8_does 117 = .ok (.bipush 12, 2) := by decide +kernel
theorem dX8_does_119 : decode cX8_does 119 = .ok (.if_icmp .ne 13, 3) := by decide +kernel
theorem dX8_does_122 : decode cX8_does 122 = .ok (.aload_n 0, 1) := by decide +kernel
theorem dX8_does_123 : decode cX8_does 123 = .ok (.iload_n 3, 1) := by decide +kernel
theorem dX8_does_124 : decode cX8_does 124 = .ok (.lload 5, 2) := by decide +kernel
theorem dX8_does_126 : decode cX8_does 126 = .ok (.invokevirtual 47, 3) := by decide +kernel
theorem dX8_does_129 : decode cX8_does 129 = .ok (.goto 10, 3) := by decide +kernel
theorem dX8_does_132 : decode cX8_does 132 = .ok (.aload_n 0, 1) := by decide +kernel
theorem dX8_does_133 : decode cX8_does 133 = .ok (.aload_n 2, 1) := by decide +kernel
theorem dX8_does_134 : decode cX8_does 134 = .ok (.lload 5, 2) := by decide +kernel
theorem dX8_does_136 : decode cX8_does 136 = .ok (.invokevirtual 50, 3) := by decide +kernel
theorem dX8_does_139 : decode cX8_does 139 = .ok (.ireturn, 1) := by decide +kernel
theorem dX8_does_140 : decode cX8_does 140 = .ok (.iload 4, 2) := by decide +kernel
theorem dX8_does_142 : decode cX8_does 142 = .ok (.bipush 20, 2) := by decide +kernel
theorem dX8_does_144 : decode cX8_does 144 = .ok (.if_icmp .gt 12, 3) := by decide +kernel
theorem dX8_does_147 : decode cX8_does 147 = .ok (.aload_n 0, 1) := by decide +kernel
theorem dX8_does_148 : decode cX8_does 148 = .ok (.iload 4, 2) := by decide +kernel
theorem dX8_does_150 : decode cX8_does 150 = .ok (.lload 5, 2) := by decide +kernel
theorem dX8_does_152 : decode cX8_does 152 = .ok (.invokevirtual 54, 3) := by decide +kernel
theorem dX8_does_155 : decode cX8_does 155 = .ok (.ireturn, 1) := by decide +kernel
theorem dX8_does_156 : decode cX8_does 156 = .ok (.iload 4, 2) := by decide +kernel
theorem dX8_does_158 : decode cX8_does 158 = .ok (.bipush 25, 2) := by decide +kernel
theorem dX8_does_160 : decode cX8_does 160 = .ok (.if_icmp .gt 12, 3) := by decide +kernel
theorem dX8_does_163 : decode cX8_does 163 = .ok (.aload_n 0, 1) := by decide +kernel
theorem dX8_does_164 : decode cX8_does 164 = .ok (.iload 4, 2) := by decide +kernel
theorem dX8_does_166 : decode cX8_does 166 = .ok (.lload 5, 2) := by decide +kernel
theorem dX8_does_168 : decode cX8_does 168 = .ok (.invokevirtual 57, 3) := by decide +kernel
theorem dX8_does_171 : decode cX8_does 171 = .ok (.ireturn, 1) := by decide +kernel
theorem dX8_does_172 : decode cX8_does 172 = .ok (.iload 4, 2) := by decide +kernel
theorem dX8_does_174 : decode cX8_does 174 = .ok (.bipush 28, 2) := by decide +kernel
theorem dX8_does_176 : decode cX8_does 176 = .ok (.if_icmp .gt 10, 3) := by decide +kernel
theorem dX8_does_179 : decode cX8_does 179 = .ok (.aload_n 0, 1) := by decide +kernel
theorem dX8_does_180 : decode cX8_does 180 = .ok (.iload 4, 2) := by decide +kernel
theorem dX8_does_182 : decode cX8_does 182 = .ok (.invokevirtual 60, 3) := by decide +kernel
theorem dX8_does_185 : decode cX8_does 185 = .ok (.ireturn, 1) := by decide +kernel
theorem dX8_does_186 : decode cX8_does 186 = .ok (.iload 4, 2) := by decide +kernel
theorem dX8_does_188 : decode cX8_does 188 = .ok (.bipush 33, 2) := by decide +kernel
theorem dX8_does_190 : decode cX8_does 190 = .ok (.if_icmp .ne 14, 3) := by decide +kernel
theorem dX8_does_193 : decode cX8_does 193 = .ok (.aload_n 0, 1) := by decide +kernel
theorem dX8_does_194 : decode cX8_does 194 = .ok (.aload_n 1, 1) := by decide +kernel
theorem dX8_does_195 : decode cX8_does 195 = .ok (.aload_n 2, 1) := by decide +kernel
theorem dX8_does_196 : decode cX8_does 196 = .ok (.lload 5, 2) := by decide +kernel
theorem dX8_does_198 : decode cX8_does 198 = .ok (.invokevirtual 64, 3) := by decide +kernel
theorem dX8_does_201 : decode cX8_does 201 = .ok (.goto 12, 3) := by decide +kernel
theorem dX8_does_204 : decode cX8_does 204 = .ok (.aload_n 0, 1) := by decide +kernel
theorem dX8_does_205 : decode cX8_does 205 = .ok (.aload_n 2, 1) := by decide +kernel
theorem dX8_does_206 : decode cX8_does 206 = .ok (.iload 4, 2) := by decide +kernel
theorem dX8_does_208 : decode cX8_does 208 = .ok (.lload 5, 2) := by decide +kernel
theorem dX8_does_210 : decode cX8_does 210 = .ok (.invokevirtual 68, 3) := by decide +kernel
theorem dX8_does_213 : decode cX8_does 213 = .ok (.ireturn, 1) := by decide +kernel
theorem dX8_moves_0 : decode cX8_moves 0 = .ok (.iload_n 1, 1) := by decide +kernel
theorem dX8_moves_1 : decode cX8_moves 1 = .ok (.tableswitch 53 0 2 #[27, 36, 44], 27) := by decide +kernel
theorem dX8_moves_28 : decode cX8_moves 28 = .ok (.aload_n 0, 1) := by decide +kernel
theorem dX8_moves_29 : decode cX8_moves 29 = .ok (.getfield 10, 3) := by decide +kernel
theorem dX8_moves_32 : decode cX8_moves 32 = .ok (.iconst 1, 1) := by decide +kernel
theorem dX8_moves_33 : decode cX8_moves 33 = .ok (.invokevirtual 74, 3) := by decide +kernel
theorem dX8_moves_36 : decode cX8_moves 36 = .ok (.ireturn, 1) := by decide +kernel
theorem dX8_moves_37 : decode cX8_moves 37 = .ok (.aload_n 0, 1) := by decide +kernel
theorem dX8_moves_38 : decode cX8_moves 38 = .ok (.getfield 10, 3) := by decide +kernel
theorem dX8_moves_41 : decode cX8_moves 41 = .ok (.invokevirtual 77, 3) := by decide +kernel
theorem dX8_moves_44 : decode cX8_moves 44 = .ok (.ireturn, 1) := by decide +kernel
theorem dX8_moves_45 : decode cX8_moves 45 = .ok (.aload_n 0, 1) := by decide +kernel
theorem dX8_moves_46 : decode cX8_moves 46 = .ok (.getfield 10, 3) := by decide +kernel
theorem dX8_moves_49 : decode cX8_moves 49 = .ok (.iconst 4, 1) := by decide +kernel
theorem dX8_moves_50 : decode cX8_moves 50 = .ok (.invokevirtual 74, 3) := by decide +kernel
theorem dX8_moves_53 : decode cX8_moves 53 = .ok (.ireturn, 1) := by decide +kernel
theorem dX8_moves_54 : decode cX8_moves 54 = .ok (.lload_n 2, 1) := by decide +kernel
theorem dX8_moves_55 : decode cX8_moves 55 = .ok (.lconst 0, 1) := by decide +kernel
theorem dX8_moves_56 : decode cX8_moves 56 = .ok (.lcmp, 1) := by decide +kernel
theorem dX8_moves_57 : decode cX8_moves 57 = .ok (.ifCond .lt 11, 3) := by decide +kernel
theorem dX8_moves_60 : decode cX8_moves 60 = .ok (.lload_n 2, 1) := by decide +kernel
theorem dX8_moves_61 : decode cX8_moves 61 = .ok (.ldc2_w 81, 3) := by decide +kernel
theorem dX8_moves_64 : decode cX8_moves 64 = .ok (.lcmp, 1) := by decide +kernel
theorem dX8_moves_65 : decode cX8_moves 65 = .ok (.ifCond .lt 5, 3) := by decide +kernel
theorem dX8_moves_68 : decode cX8_moves 68 = .ok (.iconst 0, 1) := by decide +kernel
theorem dX8_moves_69 : decode cX8_moves 69 = .ok (.ireturn, 1) := by decide +kernel
theorem dX8_moves_70 : decode cX8_moves 70 = .ok (.lload_n 2, 1) := by decide +kernel
theorem dX8_moves_71 : decode cX8_moves 71 = .ok (.l2i, 1) := by decide +kernel
theorem dX8_moves_72 : decode cX8_moves 72 = .ok (.istore 4, 2) := by decide +kernel
theorem dX8_moves_74 : decode cX8_moves 74 = .ok (.iload_n 1, 1) := by decide +kernel
theorem dX8_moves_75 : decode cX8_moves 75 = .ok (.tableswitch 99 3 5 #[25, 67, 74], 25) := by decide +kernel
theorem dX8_moves_100 : decode cX8_moves 100 = .ok (.aload_n 0, 1) := by decide +kernel
theorem dX8_moves_101 : decode cX8_moves 101 = .ok (.getfield 10, 3) := by decide +kernel
theorem dX8_moves_104 : decode cX8_moves 104 = .ok (.getfield 83, 3) := by decide +kernel
theorem dX8_moves_107 : decode cX8_moves 107 = .ok (.iload 4, 2) := by decide +kernel
theorem dX8_moves_109 : decode cX8_moves 109 = .ok (.iaload, 1) := by decide +kernel
theorem dX8_moves_110 : decode cX8_moves 110 = .ok (.invokestatic 86, 3) := by decide +kernel
theorem dX8_moves_113 : decode cX8_moves 113 = .ok (.ifCond .eq 27, 3) := by decide +kernel
theorem dX8_moves_116 : decode cX8_moves 116 = .ok (.aload_n 0, 1) := by decide +kernel
theorem dX8_moves_117 : decode cX8_moves 117 = .ok (.getfield 10, 3) := by decide +kernel
theorem dX8_moves_120 : decode cX8_moves 120 = .ok (.aload_n 0, 1) := by decide +kernel
theorem dX8_moves_121 : decode cX8_moves 121 = .ok (.getfield 10, 3) := by decide +kernel
theorem dX8_moves_124 : decode cX8_moves 124 = .ok (.getfield 83, 3) := by decide +kernel
theorem dX8_moves_127 : decode cX8_moves 127 = .ok (.iload 4, 2) := by decide +kernel
theorem dX8_moves_129 : decode cX8_moves 129 = .ok (.iaload, 1) := by decide +kernel
theorem dX8_moves_130 : decode cX8_moves 130 = .ok (.invokevirtual 74, 3) := by decide +kernel
theorem dX8_moves_133 : decode cX8_moves 133 = .ok (.ifCond .eq 7, 3) := by decide +kernel
theorem dX8_moves_136 : decode cX8_moves 136 = .ok (.iconst 1, 1) := by decide +kernel
theorem dX8_moves_137 : decode cX8_moves 137 = .ok (.goto 4, 3) := by decide +kernel
theorem dX8_moves_140 : decode cX8_moves 140 = .ok (.iconst 0, 1) := by decide +kernel
theorem dX8_moves_141 : decode cX8_moves 141 = .ok (.ireturn, 1) := by decide +kernel
theorem dX8_moves_142 : decode cX8_moves 142 = .ok (.aload_n 0, 1) := by decide +kernel
theorem dX8_moves_143 : decode cX8_moves 143 = .ok (.iload 4, 2) := by decide +kernel
theorem dX8_moves_145 : decode cX8_moves 145 = .ok (.invokevirtual 89, 3) := by decide +kernel
theorem dX8_moves_148 : decode cX8_moves 148 = .ok (.ireturn, 1) := by decide +kernel
theorem dX8_moves_149 : decode cX8_moves 149 = .ok (.aload_n 0, 1) := by decide +kernel
theorem dX8_moves_150 : decode cX8_moves 150 = .ok (.iload 4, 2) := by decide +kernel
theorem dX8_moves_152 : decode cX8_moves 152 = .ok (.invokevirtual 92, 3) := by decide +kernel
theorem dX8_moves_155 : decode cX8_moves 155 = .ok (.ifCond .eq 17, 3) := by decide +kernel
theorem dX8_moves_158 : decode cX8_moves 158 = .ok (.aload_n 0, 1) := by decide +kernel
theorem dX8_moves_159 : decode cX8_moves 159 = .ok (.getfield 10, 3) := by decide +kernel
theorem dX8_moves_162 : decode cX8_moves 162 = .ok (.invokevirtual 77, 3) := by decide +kernel
theorem dX8_moves_165 : decode cX8_moves 165 = .ok (.ifCond .eq 7, 3) := by decide +kernel
theorem dX8_moves_168 : decode cX8_moves 168 = .ok (.iconst 1, 1) := by decide +kernel
theorem dX8_moves_169 : decode cX8_moves 169 = .ok (.goto 4, 3) := by decide +kernel
theorem dX8_moves_172 : decode cX8_moves 172 = .ok (.iconst 0, 1) := by decide +kernel
theorem dX8_moves_173 : decode cX8_moves 173 = .ok (.ireturn, 1) := by decide +kernel
theorem dX8_moves_174 : decode cX8_moves 174 = .ok (.aload_n 0, 1) := by decide +kernel
theorem dX8_moves_175 : decode cX8_moves 175 = .ok (.iload 4, 2) := by decide +kernel
theorem dX8_moves_177 : decode cX8_moves 177 = .ok (.invokevirtual 95, 3) := by decide +kernel
theorem dX8_moves_180 : decode cX8_moves 180 = .ok (.ireturn, 1) := by decide +kernel
theorem dX8_stores_0 : decode cX8_stores 0 = .ok (.aload_n 0, 1) := by decide +kernel
theorem dX8_stores_1 : decode cX8_stores 1 = .ok (.getfield 10, 3) := by decide +kernel
theorem dX8_stores_4 : decode cX8_stores 4 = .ok (.invokevirtual 98, 3) := by decide +kernel
theorem dX8_stores_7 : decode cX8_stores 7 = .ok (.istore_n 2, 1) := by decide +kernel
theorem dX8_stores_8 : decode cX8_stores 8 = .ok (.aload_n 0, 1) := by decide +kernel
theorem dX8_stores_9 : decode cX8_stores 9 = .ok (.getfield 10, 3) := by decide +kernel
theorem dX8_stores_12 : decode cX8_stores 12 = .ok (.iload_n 1, 1) := by decide +kernel
theorem dX8_stores_13 : decode cX8_stores 13 = .ok (.iload_n 2, 1) := by decide +kernel
theorem dX8_stores_14 : decode cX8_stores 14 = .ok (.invokevirtual 102, 3) := by decide +kernel
theorem dX8_stores_17 : decode cX8_stores 17 = .ok (.iload_n 2, 1) := by decide +kernel
theorem dX8_stores_18 : decode cX8_stores 18 = .ok (.ifCond .eq 7, 3) := by decide +kernel
theorem dX8_stores_21 : decode cX8_stores 21 = .ok (.iconst 1, 1) := by decide +kernel
theorem dX8_stores_22 : decode cX8_stores 22 = .ok (.goto 4, 3) := by decide +kernel
theorem dX8_stores_25 : decode cX8_stores 25 = .ok (.iconst 0, 1) := by decide +kernel
theorem dX8_stores_26 : decode cX8_stores 26 = .ok (.ireturn, 1) := by decide +kernel
theorem dX8_storesLong_0 : decode cX8_storesLong 0 = .ok (.iload_n 1, 1) := by decide +kernel
theorem dX8_storesLong_1 : decode cX8_storesLong 1 = .ok (.iconst 1, 1) := by decide +kernel
theorem dX8_storesLong_2 : decode cX8_storesLong 2 = .ok (.iadd, 1) := by decide +kernel
theorem dX8_storesLong_3 : decode cX8_storesLong 3 = .ok (.bipush 8, 2) := by decide +kernel
theorem dX8_storesLong_5 : decode cX8_storesLong 5 = .ok (.if_icmp .ge 13, 3) := by decide +kernel
theorem dX8_storesLong_8 : decode cX8_storesLong 8 = .ok (.aload_n 0, 1) := by decide +kernel
theorem dX8_storesLong_9 : decode cX8_storesLong 9 = .ok (.getfield 10, 3) := by decide +kernel
theorem dX8_storesLong_12 : decode cX8_storesLong 12 = .ok (.invokevirtual 106, 3) := by decide +kernel
theorem dX8_storesLong_15 : decode cX8_storesLong 15 = .ok (.ifCond .ne 5, 3) := by decide +kernel
theorem dX8_storesLong_18 : decode cX8_storesLong 18 = .ok (.iconst 0, 1) := by decide +kernel
theorem dX8_storesLong_19 : decode cX8_storesLong 19 = .ok (.ireturn, 1) := by decide +kernel
theorem dX8_storesLong_20 : decode cX8_storesLong 20 = .ok (.aload_n 0, 1) := by decide +kernel
theorem dX8_storesLong_21 : decode cX8_storesLong 21 = .ok (.getfield 10, 3) := by decide +kernel
theorem dX8_storesLong_24 : decode cX8_storesLong 24 = .ok (.iload_n 1, 1) := by decide +kernel
theorem dX8_storesLong_25 : decode cX8_storesLong 25 = .ok (.invokevirtual 109, 3) := by decide +kernel
theorem dX8_storesLong_28 : decode cX8_storesLong 28 = .ok (.iconst 1, 1) := by decide +kernel
theorem dX8_storesLong_29 : decode cX8_storesLong 29 = .ok (.ireturn, 1) := by decide +kernel
theorem dX8_holdsLong_0 : decode cX8_holdsLong 0 = .ok (.iload_n 1, 1) := by decide +kernel
theorem dX8_holdsLong_1 : decode cX8_holdsLong 1 = .ok (.ifCond .lt 43, 3) := by decide +kernel
theorem dX8_holdsLong_4 : decode cX8_holdsLong 4 = .ok (.iload_n 1, 1) := by decide +kernel
theorem dX8_holdsLong_5 : decode cX8_holdsLong 5 = .ok (.iconst 1, 1) := by decide +kernel
theorem dX8_holdsLong_6 : decode cX8_holdsLong 6 = .ok (.iadd, 1) := by decide +kernel
theorem dX8_holdsLong_7 : decode cX8_holdsLong 7 = .ok (.bipush 8, 2) := by decide +kernel
theorem dX8_holdsLong_9 : decode cX8_holdsLong 9 = .ok (.if_icmp .ge 35, 3) := by decide +kernel
theorem dX8_holdsLong_12 : decode cX8_holdsLong 12 = .ok (.aload_n 0, 1) := by decide +kernel
theorem dX8_holdsLong_13 : decode cX8_holdsLong 13 = .ok (.getfield 10, 3) := by decide +kernel
theorem dX8_holdsLong_16 : decode cX8_holdsLong 16 = .ok (.getfield 83, 3) := by decide +kernel
theorem dX8_holdsLong_19 : decode cX8_holdsLong 19 = .ok (.iload_n 1, 1) := by decide +kernel
theorem dX8_holdsLong_20 : decode cX8_holdsLong 20 = .ok (.iaload, 1) := by decide +kernel
theorem dX8_holdsLong_21 : decode cX8_holdsLong 21 = .ok (.iconst 2, 1) := by decide +kernel
theorem dX8_holdsLong_22 : decode cX8_holdsLong 22 = .ok (.if_icmp .ne 22, 3) := by decide +kernel
theorem dX8_holdsLong_25 : decode cX8_holdsLong 25 = .ok (.aload_n 0, 1) := by decide +kernel
theorem dX8_holdsLong_26 : decode cX8_holdsLong 26 = .ok (.getfield 10, 3) := by decide +kernel
theorem dX8_holdsLong_29 : decode cX8_holdsLong 29 = .ok (.getfield 83, 3) := by decide +kernel
theorem dX8_holdsLong_32 : decode cX8_holdsLong 32 = .ok (.iload_n 1, 1) := by decide +kernel
theorem dX8_holdsLong_33 : decode cX8_holdsLong 33 = .ok (.iconst 1, 1) := by decide +kernel
theorem dX8_holdsLong_34 : decode cX8_holdsLong 34 = .ok (.iadd, 1) := by decide +kernel
theorem dX8_holdsLong_35 : decode cX8_holdsLong 35 = .ok (.iaload, 1) := by decide +kernel
theorem dX8_holdsLong_36 : decode cX8_holdsLong 36 = .ok (.iconst 3, 1) := by decide +kernel
theorem dX8_holdsLong_37 : decode cX8_holdsLong 37 = .ok (.if_icmp .ne 7, 3) := by decide +kernel
theorem dX8_holdsLong_40 : decode cX8_holdsLong 40 = .ok (.iconst 1, 1) := by decide +kernel
theorem dX8_holdsLong_41 : decode cX8_holdsLong 41 = .ok (.goto 4, 3) := by decide +kernel
theorem dX8_holdsLong_44 : decode cX8_holdsLong 44 = .ok (.iconst 0, 1) := by decide +kernel
theorem dX8_holdsLong_45 : decode cX8_holdsLong 45 = .ok (.ireturn, 1) := by decide +kernel
theorem dX8_reckons_0 : decode cX8_reckons 0 = .ok (.lload_n 2, 1) := by decide +kernel
theorem dX8_reckons_1 : decode cX8_reckons 1 = .ok (.lconst 0, 1) := by decide +kernel
theorem dX8_reckons_2 : decode cX8_reckons 2 = .ok (.lcmp, 1) := by decide +kernel
theorem dX8_reckons_3 : decode cX8_reckons 3 = .ok (.ifCond .lt 15, 3) := by decide +kernel
theorem dX8_reckons_6 : decode cX8_reckons 6 = .ok (.lload_n 2, 1) := by decide +kernel
theorem dX8_reckons_7 : decode cX8_reckons 7 = .ok (.ldc2_w 113, 3) := by decide +kernel
theorem dX8_reckons_10 : decode cX8_reckons 10 = .ok (.lcmp, 1) := by decide +kernel
theorem dX8_reckons_11 : decode cX8_reckons 11 = .ok (.ifCond .gt 7, 3) := by decide +kernel
theorem dX8_reckons_14 : decode cX8_reckons 14 = .ok (.iconst 1, 1) := by decide +kernel
theorem dX8_reckons_15 : decode cX8_reckons 15 = .ok (.goto 4, 3) := by decide +kernel
theorem dX8_reckons_18 : decode cX8_reckons 18 = .ok (.iconst 0, 1) := by decide +kernel
theorem dX8_reckons_19 : decode cX8_reckons 19 = .ok (.istore 4, 2) := by decide +kernel
theorem dX8_reckons_21 : decode cX8_reckons 21 = .ok (.iload_n 1, 1) := by decide +kernel
theorem dX8_reckons_22 : decode cX8_reckons 22 = .ok (.tableswitch 169 7 10 #[30, 74, 115, 142], 30) := by decide +kernel
theorem dX8_reckons_52 : decode cX8_reckons 52 = .ok (.iload 4, 2) := by decide +kernel
theorem dX8_reckons_54 : decode cX8_reckons 54 = .ok (.ifCond .eq 40, 3) := by decide +kernel
theorem dX8_reckons_57 : decode cX8_reckons 57 = .ok (.aload_n 0, 1) := by decide +kernel
theorem dX8_reckons_58 : decode cX8_reckons 58 = .ok (.getfield 10, 3) := by decide +kernel
theorem dX8_reckons_61 : decode cX8_reckons 61 = .ok (.iconst 1, 1) := by decide +kernel
theorem dX8_reckons_62 : decode cX8_reckons 62 = .ok (.invokevirtual 115, 3) := by decide +kernel
theorem dX8_reckons_65 : decode cX8_reckons 65 = .ok (.ifCond .eq 29, 3) := by decide +kernel
theorem dX8_reckons_68 : decode cX8_reckons 68 = .ok (.aload_n 0, 1) := by decide +kernel
theorem dX8_reckons_69 : decode cX8_reckons 69 = .ok (.getfield 10, 3) := by decide +kernel
theorem dX8_reckons_72 : decode cX8_reckons 72 = .ok (.iconst 1, 1) := by decide +kernel
theorem dX8_reckons_73 : decode cX8_reckons 73 = .ok (.invokevirtual 115, 3) := by decide +kernel
theorem dX8_reckons_76 : decode cX8_reckons 76 = .ok (.ifCond .eq 18, 3) := by decide +kernel
theorem dX8_reckons_79 : decode cX8_reckons 79 = .ok (.aload_n 0, 1) := by decide +kernel
theorem dX8_reckons_80 : decode cX8_reckons 80 = .ok (.getfield 10, 3) := by decide +kernel
theorem dX8_reckons_83 : decode cX8_reckons 83 = .ok (.iconst 1, 1) := by decide +kernel
theorem dX8_reckons_84 : decode cX8_reckons 84 = .ok (.invokevirtual 74, 3) := by decide +kernel
theorem dX8_reckons_87 : decode cX8_reckons 87 = .ok (.ifCond .eq 7, 3) := by decide +kernel
theorem dX8_reckons_90 : decode cX8_reckons 90 = .ok (.iconst 1, 1) := by decide +kernel
theorem dX8_reckons_91 : decode cX8_reckons 91 = .ok (.goto 4, 3) := by decide +kernel
theorem dX8_reckons_94 : decode cX8_reckons 94 = .ok (.iconst 0, 1) := by decide +kernel
theorem dX8_reckons_95 : decode cX8_reckons 95 = .ok (.ireturn, 1) := by decide +kernel
theorem dX8_reckons_96 : decode cX8_reckons 96 = .ok (.iload 4, 2) := by decide +kernel
theorem dX8_reckons_98 : decode cX8_reckons 98 = .ok (.ifCond .eq 37, 3) := by decide +kernel
theorem dX8_reckons_101 : decode cX8_reckons 101 = .ok (.aload_n 0, 1) := by decide +kernel
theorem dX8_reckons_102 : decode cX8_reckons 102 = .ok (.getfield 10, 3) := by decide +kernel
theorem dX8_reckons_105 : decode cX8_reckons 105 = .ok (.invokevirtual 106, 3) := by decide +kernel
theorem dX8_reckons_108 : decode cX8_reckons 108 = .ok (.ifCond .eq 27, 3) := by decide +kernel
theorem dX8_reckons_111 : decode cX8_reckons 111 = .ok (.aload_n 0, 1) := by decide +kernel
theorem dX8_reckons_112 : decode cX8_reckons 112 = .ok (.getfield 10, 3) := by decide +kernel
theorem dX8_reckons_115 : decode cX8_reckons 115 = .ok (.invokevirtual 106, 3) := by decide +kernel
theorem dX8_reckons_118 : decode cX8_reckons 118 = .ok (.ifCond .eq 17, 3) := by decide +kernel
theorem dX8_reckons_121 : decode cX8_reckons 121 = .ok (.aload_n 0, 1) := by decide +kernel
theorem dX8_reckons_122 : decode cX8_reckons 122 = .ok (.getfield 10, 3) := by decide +kernel
theorem dX8_reckons_125 : decode cX8_reckons 125 = .ok (.invokevirtual 77, 3) := by decide +kernel
theorem dX8_reckons_128 : decode cX8_reckons 128 = .ok (.ifCond .eq 7, 3) := by decide +kernel
theorem dX8_reckons_131 : decode cX8_reckons 131 = .ok (.iconst 1, 1) := by decide +kernel
theorem dX8_reckons_132 : decode cX8_reckons 132 = .ok (.goto 4, 3) := by decide +kernel
theorem dX8_reckons_135 : decode cX8_reckons 135 = .ok (.iconst 0, 1) := by decide +kernel
theorem dX8_reckons_136 : decode cX8_reckons 136 = .ok (.ireturn, 1) := by decide +kernel
theorem dX8_reckons_137 : decode cX8_reckons 137 = .ok (.aload_n 0, 1) := by decide +kernel
theorem dX8_reckons_138 : decode cX8_reckons 138 = .ok (.getfield 10, 3) := by decide +kernel
theorem dX8_reckons_141 : decode cX8_reckons 141 = .ok (.iconst 1, 1) := by decide +kernel
theorem dX8_reckons_142 : decode cX8_reckons 142 = .ok (.invokevirtual 115, 3) := by decide +kernel
theorem dX8_reckons_145 : decode cX8_reckons 145 = .ok (.ifCond .eq 17, 3) := by decide +kernel
theorem dX8_reckons_148 : decode cX8_reckons 148 = .ok (.aload_n 0, 1) := by decide +kernel
theorem dX8_reckons_149 : decode cX8_reckons 149 = .ok (.getfield 10, 3) := by decide +kernel
theorem dX8_reckons_152 : decode cX8_reckons 152 = .ok (.invokevirtual 77, 3) := by decide +kernel
theorem dX8_reckons_155 : decode cX8_reckons 155 = .ok (.ifCond .eq 7, 3) := by decide +kernel
theorem dX8_reckons_158 : decode cX8_reckons 158 = .ok (.iconst 1, 1) := by decide +kernel
theorem dX8_reckons_159 : decode cX8_reckons 159 = .ok (.goto 4, 3) := by decide +kernel
theorem dX8_reckons_162 : decode cX8_reckons 162 = .ok (.iconst 0, 1) := by decide +kernel
theorem dX8_reckons_163 : decode cX8_reckons 163 = .ok (.ireturn, 1) := by decide +kernel
theorem dX8_reckons_164 : decode cX8_reckons 164 = .ok (.aload_n 0, 1) := by decide +kernel
theorem dX8_reckons_165 : decode cX8_reckons 165 = .ok (.getfield 10, 3) := by decide +kernel
theorem dX8_reckons_168 : decode cX8_reckons 168 = .ok (.invokevirtual 106, 3) := by decide +kernel
theorem dX8_reckons_171 : decode cX8_reckons 171 = .ok (.ifCond .eq 18, 3) := by decide +kernel
theorem dX8_reckons_174 : decode cX8_reckons 174 = .ok (.aload_n 0, 1) := by decide +kernel
theorem dX8_reckons_175 : decode cX8_reckons 175 = .ok (.getfield 10, 3) := by decide +kernel
theorem dX8_reckons_178 : decode cX8_reckons 178 = .ok (.iconst 1, 1) := by decide +kernel
theorem dX8_reckons_179 : decode cX8_reckons 179 = .ok (.invokevirtual 74, 3) := by decide +kernel
theorem dX8_reckons_182 : decode cX8_reckons 182 = .ok (.ifCond .eq 7, 3) := by decide +kernel
theorem dX8_reckons_185 : decode cX8_reckons 185 = .ok (.iconst 1, 1) := by decide +kernel
theorem dX8_reckons_186 : decode cX8_reckons 186 = .ok (.goto 4, 3) := by decide +kernel
theorem dX8_reckons_189 : decode cX8_reckons 189 = .ok (.iconst 0, 1) := by decide +kernel
theorem dX8_reckons_190 : decode cX8_reckons 190 = .ok (.ireturn, 1) := by decide +kernel
theorem dX8_reckons_191 : decode cX8_reckons 191 = .ok (.aload_n 0, 1) := by decide +kernel
theorem dX8_reckons_192 : decode cX8_reckons 192 = .ok (.getfield 10, 3) := by decide +kernel
theorem dX8_reckons_195 : decode cX8_reckons 195 = .ok (.invokevirtual 106, 3) := by decide +kernel
theorem dX8_reckons_198 : decode cX8_reckons 198 = .ok (.ifCond .eq 28, 3) := by decide +kernel
theorem dX8_reckons_201 : decode cX8_reckons 201 = .ok (.aload_n 0, 1) := by decide +kernel
theorem dX8_reckons_202 : decode cX8_reckons 202 = .ok (.getfield 10, 3) := by decide +kernel
theorem dX8_reckons_205 : decode cX8_reckons 205 = .ok (.invokevirtual 106, 3) := by decide +kernel
theorem dX8_reckons_208 : decode cX8_reckons 208 = .ok (.ifCond .eq 18, 3) := by decide +kernel
theorem dX8_reckons_211 : decode cX8_reckons 211 = .ok (.aload_n 0, 1) := by decide +kernel
theorem dX8_reckons_212 : decode cX8_reckons 212 = .ok (.getfield 10, 3) := by decide +kernel
theorem dX8_reckons_215 : decode cX8_reckons 215 = .ok (.iconst 1, 1) := by decide +kernel
theorem dX8_reckons_216 : decode cX8_reckons 216 = .ok (.invokevirtual 74, 3) := by decide +kernel
theorem dX8_reckons_219 : decode cX8_reckons 219 = .ok (.ifCond .eq 7, 3) := by decide +kernel
theorem dX8_reckons_222 : decode cX8_reckons 222 = .ok (.iconst 1, 1) := by decide +kernel
theorem dX8_reckons_223 : decode cX8_reckons 223 = .ok (.goto 4, 3) := by decide +kernel
theorem dX8_reckons_226 : decode cX8_reckons 226 = .ok (.iconst 0, 1) := by decide +kernel
theorem dX8_reckons_227 : decode cX8_reckons 227 = .ok (.ireturn, 1) := by decide +kernel
theorem dX8_begins_0 : decode cX8_begins 0 = .ok (.bipush 100, 2) := by decide +kernel
theorem dX8_begins_2 : decode cX8_begins 2 = .ok (.iload_n 1, 1) := by decide +kernel
theorem dX8_begins_3 : decode cX8_begins 3 = .ok (.iadd, 1) := by decide +kernel
theorem dX8_begins_4 : decode cX8_begins 4 = .ok (.istore 4, 2) := by decide +kernel
theorem dX8_begins_6 : decode cX8_begins 6 = .ok (.lload_n 2, 1) := by decide +kernel
theorem dX8_begins_7 : decode cX8_begins 7 = .ok (.invokestatic 118, 3) := by decide +kernel
theorem dX8_begins_10 : decode cX8_begins 10 = .ok (.ifCond .eq 15, 3) := by decide +kernel
theorem dX8_begins_13 : decode cX8_begins 13 = .ok (.aload_n 0, 1) := by decide +kernel
theorem dX8_begins_14 : decode cX8_begins 14 = .ok (.getfield 10, 3) := by decide +kernel
theorem dX8_begins_17 : decode cX8_begins 17 = .ok (.iload 4, 2) := by decide +kernel
theorem dX8_begins_19 : decode cX8_begins 19 = .ok (.invokevirtual 121, 3) := by decide +kernel
theorem dX8_begins_22 : decode cX8_begins 22 = .ok (.ifCond .eq 5, 3) := by decide +kernel
theorem dX8_begins_25 : decode cX8_begins 25 = .ok (.iconst 0, 1) := by decide +kernel
theorem dX8_begins_26 : decode cX8_begins 26 = .ok (.ireturn, 1) := by decide +kernel
theorem dX8_begins_27 : decode cX8_begins 27 = .ok (.aload_n 0, 1) := by decide +kernel
theorem dX8_begins_28 : decode cX8_begins 28 = .ok (.getfield 10, 3) := by decide +kernel
theorem dX8_begins_31 : decode cX8_begins 31 = .ok (.iload 4, 2) := by decide +kernel
theorem dX8_begins_33 : decode cX8_begins 33 = .ok (.iconst 0, 1) := by decide +kernel
theorem dX8_begins_34 : decode cX8_begins 34 = .ok (.invokevirtual 124, 3) := by decide +kernel
theorem dX8_begins_37 : decode cX8_begins 37 = .ok (.aload_n 0, 1) := by decide +kernel
theorem dX8_begins_38 : decode cX8_begins 38 = .ok (.getfield 10, 3) := by decide +kernel
theorem dX8_begins_41 : decode cX8_begins 41 = .ok (.iload 4, 2) := by decide +kernel
theorem dX8_begins_43 : decode cX8_begins 43 = .ok (.invokevirtual 74, 3) := by decide +kernel
theorem dX8_begins_46 : decode cX8_begins 46 = .ok (.ireturn, 1) := by decide +kernel
theorem dX8_finishes_0 : decode cX8_finishes 0 = .ok (.aload_n 0, 1) := by decide +kernel
theorem dX8_finishes_1 : decode cX8_finishes 1 = .ok (.getfield 10, 3) := by decide +kernel
theorem dX8_finishes_4 : decode cX8_finishes 4 = .ok (.invokevirtual 98, 3) := by decide +kernel
theorem dX8_finishes_7 : decode cX8_finishes 7 = .ok (.istore 4, 2) := by decide +kernel
theorem dX8_finishes_9 : decode cX8_finishes 9 = .ok (.lload_n 2, 1) := by decide +kernel
theorem dX8_finishes_10 : decode cX8_finishes 10 = .ok (.invokestatic 118, 3) := by decide +kernel
theorem dX8_finishes_13 : decode cX8_finishes 13 = .ok (.ifCond .eq 11, 3) := by decide +kernel
theorem dX8_finishes_16 : decode cX8_finishes 16 = .ok (.iload 4, 2) := by decide +kernel
theorem dX8_finishes_18 : decode cX8_finishes 18 = .ok (.invokestatic 127, 3) := by decide +kernel
theorem dX8_finishes_21 : decode cX8_finishes 21 = .ok (.ifCond .ne 5, 3) := by decide +kernel
theorem dX8_finishes_24 : decode cX8_finishes 24 = .ok (.iconst 0, 1) := by decide +kernel
theorem dX8_finishes_25 : decode cX8_finishes 25 = .ok (.ireturn, 1) := by decide +kernel
theorem dX8_finishes_26 : decode cX8_finishes 26 = .ok (.iload 4, 2) := by decide +kernel
theorem dX8_finishes_28 : decode cX8_finishes 28 = .ok (.bipush 100, 2) := by decide +kernel
theorem dX8_finishes_30 : decode cX8_finishes 30 = .ok (.isub, 1) := by decide +kernel
theorem dX8_finishes_31 : decode cX8_finishes 31 = .ok (.istore 5, 2) := by decide +kernel
theorem dX8_finishes_33 : decode cX8_finishes 33 = .ok (.aload_n 1, 1) := by decide +kernel
theorem dX8_finishes_34 : decode cX8_finishes 34 = .ok (.iload 5, 2) := by decide +kernel
theorem dX8_finishes_36 : decode cX8_finishes 36 = .ok (.i2l, 1) := by decide +kernel
theorem dX8_finishes_37 : decode cX8_finishes 37 = .ok (.invokevirtual 16, 3) := by decide +kernel
theorem dX8_finishes_40 : decode cX8_finishes 40 = .ok (.ifCond .eq 27, 3) := by decide +kernel
theorem dX8_finishes_43 : decode cX8_finishes 43 = .ok (.aload_n 1, 1) := by decide +kernel
theorem dX8_finishes_44 : decode cX8_finishes 44 = .ok (.getfield 22, 3) := by decide +kernel
theorem dX8_finishes_47 : decode cX8_finishes 47 = .ok (.iload 5, 2) := by decide +kernel
theorem dX8_finishes_49 : decode cX8_finishes 49 = .ok (.iaload, 1) := by decide +kernel
theorem dX8_finishes_50 : decode cX8_finishes 50 = .ok (.bipush 12, 2) := by decide +kernel
theorem dX8_finishes_52 : decode cX8_finishes 52 = .ok (.if_icmp .ne 15, 3) := by decide +kernel
theorem dX8_finishes_55 : decode cX8_finishes 55 = .ok (.aload_n 1, 1) := by decide +kernel
theorem dX8_finishes_56 : decode cX8_finishes 56 = .ok (.getfield 26, 3) := by decide +kernel
theorem dX8_finishes_59 : decode cX8_finishes 59 = .ok (.iload 5, 2) := by decide +kernel
theorem dX8_finishes_61 : decode cX8_finishes 61 = .ok (.laload, 1) := by decide +kernel
