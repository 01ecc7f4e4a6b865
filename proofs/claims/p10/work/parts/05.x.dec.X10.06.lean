theorem dX10_run_150 : decode cX10_run 150 = .ok (.putfield 251, 3) := by decide +kernel
theorem dX10_run_153 : decode cX10_run 153 = .ok (.aload_n 0, 1) := by decide +kernel
theorem dX10_run_154 : decode cX10_run 154 = .ok (.aload_n 0, 1) := by decide +kernel
theorem dX10_run_155 : decode cX10_run 155 = .ok (.invokevirtual 266, 3) := by decide +kernel
theorem dX10_run_158 : decode cX10_run 158 = .ok (.invokevirtual 270, 3) := by decide +kernel
theorem dX10_run_161 : decode cX10_run 161 = .ok (.istore 6, 2) := by decide +kernel
theorem dX10_run_163 : decode cX10_run 163 = .ok (.goto (-42), 3) := by decide +kernel
theorem dX10_run_166 : decode cX10_run 166 = .ok (.iload 6, 2) := by decide +kernel
theorem dX10_run_168 : decode cX10_run 168 = .ok (.ireturn, 1) := by decide +kernel
theorem dX10_after_0 : decode cX10_after 0 = .ok (.iload_n 1, 1) := by decide +kernel
theorem dX10_after_1 : decode cX10_after 1 = .ok (.ifCond .ne 5, 3) := by decide +kernel
theorem dX10_after_4 : decode cX10_after 4 = .ok (.iconst (-1), 1) := by decide +kernel
theorem dX10_after_5 : decode cX10_after 5 = .ok (.ireturn, 1) := by decide +kernel
theorem dX10_after_6 : decode cX10_after 6 = .ok (.iload_n 1, 1) := by decide +kernel
theorem dX10_after_7 : decode cX10_after 7 = .ok (.bipush 20, 2) := by decide +kernel
theorem dX10_after_9 : decode cX10_after 9 = .ok (.if_icmp .ne 5, 3) := by decide +kernel
theorem dX10_after_12 : decode cX10_after 12 = .ok (.iconst 0, 1) := by decide +kernel
theorem dX10_after_13 : decode cX10_after 13 = .ok (.ireturn, 1) := by decide +kernel
theorem dX10_after_14 : decode cX10_after 14 = .ok (.iload_n 1, 1) := by decide +kernel
theorem dX10_after_15 : decode cX10_after 15 = .ok (.bipush 9, 2) := by decide +kernel
theorem dX10_after_17 : decode cX10_after 17 = .ok (.if_icmp .ne 11, 3) := by decide +kernel
theorem dX10_after_20 : decode cX10_after 20 = .ok (.aload_n 0, 1) := by decide +kernel
theorem dX10_after_21 : decode cX10_after 21 = .ok (.iconst 0, 1) := by decide +kernel
theorem dX10_after_22 : decode cX10_after 22 = .ok (.putfield 263, 3) := by decide +kernel
theorem dX10_after_25 : decode cX10_after 25 = .ok (.bipush 9, 2) := by decide +kernel
theorem dX10_after_27 : decode cX10_after 27 = .ok (.ireturn, 1) := by decide +kernel
theorem dX10_after_28 : decode cX10_after 28 = .ok (.aload_n 0, 1) := by decide +kernel
theorem dX10_after_29 : decode cX10_after 29 = .ok (.dup, 1) := by decide +kernel
theorem dX10_after_30 : decode cX10_after 30 = .ok (.getfield 254, 3) := by decide +kernel
theorem dX10_after_33 : decode cX10_after 33 = .ok (.iconst 1, 1) := by decide +kernel
theorem dX10_after_34 : decode cX10_after 34 = .ok (.iadd, 1) := by decide +kernel
theorem dX10_after_35 : decode cX10_after 35 = .ok (.putfield 254, 3) := by decide +kernel
theorem dX10_after_38 : decode cX10_after 38 = .ok (.aload_n 0, 1) := by decide +kernel
theorem dX10_after_39 : decode cX10_after 39 = .ok (.aload_n 0, 1) := by decide +kernel
theorem dX10_after_40 : decode cX10_after 40 = .ok (.getfield 57, 3) := by decide +kernel
theorem dX10_after_43 : decode cX10_after 43 = .ok (.aload_n 0, 1) := by decide +kernel
theorem dX10_after_44 : decode cX10_after 44 = .ok (.getfield 235, 3) := by decide +kernel
theorem dX10_after_47 : decode cX10_after 47 = .ok (.iaload, 1) := by decide +kernel
theorem dX10_after_48 : decode cX10_after 48 = .ok (.putfield 257, 3) := by decide +kernel
theorem dX10_after_51 : decode cX10_after 51 = .ok (.aload_n 0, 1) := by decide +kernel
theorem dX10_after_52 : decode cX10_after 52 = .ok (.aload_n 0, 1) := by decide +kernel
theorem dX10_after_53 : decode cX10_after 53 = .ok (.getfield 60, 3) := by decide +kernel
theorem dX10_after_56 : decode cX10_after 56 = .ok (.aload_n 0, 1) := by decide +kernel
theorem dX10_after_57 : decode cX10_after 57 = .ok (.getfield 235, 3) := by decide +kernel
theorem dX10_after_60 : decode cX10_after 60 = .ok (.iaload, 1) := by decide +kernel
theorem dX10_after_61 : decode cX10_after 61 = .ok (.putfield 260, 3) := by decide +kernel
theorem dX10_after_64 : decode cX10_after 64 = .ok (.iload_n 1, 1) := by decide +kernel
theorem dX10_after_65 : decode cX10_after 65 = .ok (.bipush 7, 2) := by decide +kernel
theorem dX10_after_67 : decode cX10_after 67 = .ok (.if_icmp .ne 10, 3) := by decide +kernel
theorem dX10_after_70 : decode cX10_after 70 = .ok (.aload_n 0, 1) := by decide +kernel
theorem dX10_after_71 : decode cX10_after 71 = .ok (.getfield 273, 3) := by decide +kernel
theorem dX10_after_74 : decode cX10_after 74 = .ok (.goto 4, 3) := by decide +kernel
theorem dX10_after_77 : decode cX10_after 77 = .ok (.iload_n 1, 1) := by decide +kernel
theorem dX10_after_78 : decode cX10_after 78 = .ok (.istore_n 2, 1) := by decide +kernel
theorem dX10_after_79 : decode cX10_after 79 = .ok (.aload_n 0, 1) := by decide +kernel
theorem dX10_after_80 : decode cX10_after 80 = .ok (.getfield 254, 3) := by decide +kernel
theorem dX10_after_83 : decode cX10_after 83 = .ok (.bipush 13, 2) := by decide +kernel
theorem dX10_after_85 : decode cX10_after 85 = .ok (.if_icmp .ne 11, 3) := by decide +kernel
theorem dX10_after_88 : decode cX10_after 88 = .ok (.aload_n 0, 1) := by decide +kernel
theorem dX10_after_89 : decode cX10_after 89 = .ok (.iload_n 2, 1) := by decide +kernel
theorem dX10_after_90 : decode cX10_after 90 = .ok (.putfield 263, 3) := by decide +kernel
theorem dX10_after_93 : decode cX10_after 93 = .ok (.bipush 10, 2) := by decide +kernel
theorem dX10_after_95 : decode cX10_after 95 = .ok (.ireturn, 1) := by decide +kernel
theorem dX10_after_96 : decode cX10_after 96 = .ok (.aload_n 0, 1) := by decide +kernel
theorem dX10_after_97 : decode cX10_after 97 = .ok (.getfield 235, 3) := by decide +kernel
theorem dX10_after_100 : decode cX10_after 100 = .ok (.ifCond .lt 166, 3) := by decide +kernel
theorem dX10_after_103 : decode cX10_after 103 = .ok (.aload_n 0, 1) := by decide +kernel
theorem dX10_after_104 : decode cX10_after 104 = .ok (.getfield 57, 3) := by decide +kernel
theorem dX10_after_107 : decode cX10_after 107 = .ok (.aload_n 0, 1) := by decide +kernel
theorem dX10_after_108 : decode cX10_after 108 = .ok (.getfield 235, 3) := by decide +kernel
theorem dX10_after_111 : decode cX10_after 111 = .ok (.iaload, 1) := by decide +kernel
theorem dX10_after_112 : decode cX10_after 112 = .ok (.istore_n 3, 1) := by decide +kernel
theorem dX10_after_113 : decode cX10_after 113 = .ok (.iconst 0, 1) := by decide +kernel
theorem dX10_after_114 : decode cX10_after 114 = .ok (.istore 4, 2) := by decide +kernel
theorem dX10_after_116 : decode cX10_after 116 = .ok (.iload 4, 2) := by decide +kernel
theorem dX10_after_118 : decode cX10_after 118 = .ok (.aload_n 0, 1) := by decide +kernel
theorem dX10_after_119 : decode cX10_after 119 = .ok (.getfield 23, 3) := by decide +kernel
theorem dX10_after_122 : decode cX10_after 122 = .ok (.iload_n 3, 1) := by decide +kernel
theorem dX10_after_123 : decode cX10_after 123 = .ok (.iaload, 1) := by decide +kernel
theorem dX10_after_124 : decode cX10_after 124 = .ok (.if_icmp .ge 129, 3) := by decide +kernel
theorem dX10_after_127 : decode cX10_after 127 = .ok (.iconst 4, 1) := by decide +kernel
theorem dX10_after_128 : decode cX10_after 128 = .ok (.bipush 6, 2) := by decide +kernel
theorem dX10_after_130 : decode cX10_after 130 = .ok (.iload_n 3, 1) := by decide +kernel
theorem dX10_after_131 : decode cX10_after 131 = .ok (.imul, 1) := by decide +kernel
theorem dX10_after_132 : decode cX10_after 132 = .ok (.iload 4, 2) := by decide +kernel
theorem dX10_after_134 : decode cX10_after 134 = .ok (.iadd, 1) := by decide +kernel
theorem dX10_after_135 : decode cX10_after 135 = .ok (.imul, 1) := by decide +kernel
theorem dX10_after_136 : decode cX10_after 136 = .ok (.istore 5, 2) := by decide +kernel
theorem dX10_after_138 : decode cX10_after 138 = .ok (.aload_n 0, 1) := by decide +kernel
theorem dX10_after_139 : decode cX10_after 139 = .ok (.getfield 26, 3) := by decide +kernel
theorem dX10_after_142 : decode cX10_after 142 = .ok (.iload 5, 2) := by decide +kernel
theorem dX10_after_144 : decode cX10_after 144 = .ok (.iconst 3, 1) := by decide +kernel
theorem dX10_after_145 : decode cX10_after 145 = .ok (.iadd, 1) := by decide +kernel
theorem dX10_after_146 : decode cX10_after 146 = .ok (.iaload, 1) := by decide +kernel
theorem dX10_after_147 : decode cX10_after 147 = .ok (.ifCond .eq 16, 3) := by decide +kernel
theorem dX10_after_150 : decode cX10_after 150 = .ok (.aload_n 0, 1) := by decide +kernel
theorem dX10_after_151 : decode cX10_after 151 = .ok (.getfield 26, 3) := by decide +kernel
theorem dX10_after_154 : decode cX10_after 154 = .ok (.iload 5, 2) := by decide +kernel
theorem dX10_after_156 : decode cX10_after 156 = .ok (.iconst 3, 1) := by decide +kernel
theorem dX10_after_157 : decode cX10_after 157 = .ok (.iadd, 1) := by decide +kernel
theorem dX10_after_158 : decode cX10_after 158 = .ok (.iaload, 1) := by decide +kernel
theorem dX10_after_159 : decode cX10_after 159 = .ok (.iload_n 1, 1) := by decide +kernel
theorem dX10_after_160 : decode cX10_after 160 = .ok (.if_icmp .ne 7, 3) := by decide +kernel
theorem dX10_after_163 : decode cX10_after 163 = .ok (.iconst 1, 1) := by decide +kernel
theorem dX10_after_164 : decode cX10_after 164 = .ok (.goto 4, 3) := by decide +kernel
theorem dX10_after_167 : decode cX10_after 167 = .ok (.iconst 0, 1) := by decide +kernel
theorem dX10_after_168 : decode cX10_after 168 = .ok (.istore 6, 2) := by decide +kernel
theorem dX10_after_170 : decode cX10_after 170 = .ok (.iload 6, 2) := by decide +kernel
theorem dX10_after_172 : decode cX10_after 172 = .ok (.ifCond .eq 75, 3) := by decide +kernel
theorem dX10_after_175 : decode cX10_after 175 = .ok (.aload_n 0, 1) := by decide +kernel
theorem dX10_after_176 : decode cX10_after 176 = .ok (.getfield 60, 3) := by decide +kernel
theorem dX10_after_179 : decode cX10_after 179 = .ok (.aload_n 0, 1) := by decide +kernel
theorem dX10_after_180 : decode cX10_after 180 = .ok (.getfield 235, 3) := by decide +kernel
theorem dX10_after_183 : decode cX10_after 183 = .ok (.iaload, 1) := by decide +kernel
theorem dX10_after_184 : decode cX10_after 184 = .ok (.i2l, 1) := by decide +kernel
theorem dX10_after_185 : decode cX10_after 185 = .ok (.aload_n 0, 1) := by decide +kernel
theorem dX10_after_186 : decode cX10_after 186 = .ok (.getfield 26, 3) := by decide +kernel
theorem dX10_after_189 : decode cX10_after 189 = .ok (.iload 5, 2) := by decide +kernel
theorem dX10_after_191 : decode cX10_after 191 = .ok (.iaload, 1) := by decide +kernel
theorem dX10_after_192 : decode cX10_after 192 = .ok (.i2l, 1) := by decide +kernel
theorem dX10_after_193 : decode cX10_after 193 = .ok (.aload_n 0, 1) := by decide +kernel
theorem dX10_after_194 : decode cX10_after 194 = .ok (.getfield 26, 3) := by decide +kernel
theorem dX10_after_197 : decode cX10_after 197 = .ok (.iload 5, 2) := by decide +kernel
theorem dX10_after_199 : decode cX10_after 199 = .ok (.iconst 1, 1) := by decide +kernel
theorem dX10_after_200 : decode cX10_after 200 = .ok (.iadd, 1) := by decide +kernel
theorem dX10_after_201 : decode cX10_after 201 = .ok (.iaload, 1) := by decide +kernel
theorem dX10_after_202 : decode cX10_after 202 = .ok (.iconst 1, 1) := by decide +kernel
theorem dX10_after_203 : decode cX10_after 203 = .ok (.isub, 1) := by decide +kernel
theorem dX10_after_204 : decode cX10_after 204 = .ok (.i2l, 1) := by decide +kernel
theorem dX10_after_205 : decode cX10_after 205 = .ok (.invokestatic 79, 3) := by decide +kernel
theorem dX10_after_208 : decode cX10_after 208 = .ok (.ifCond .eq 39, 3) := by decide +kernel
theorem dX10_after_211 : decode cX10_after 211 = .ok (.aload_n 0, 1) := by decide +kernel
theorem dX10_after_212 : decode cX10_after 212 = .ok (.getfield 54, 3) := by decide +kernel
theorem dX10_after_215 : decode cX10_after 215 = .ok (.aload_n 0, 1) := by decide +kernel
theorem dX10_after_216 : decode cX10_after 216 = .ok (.getfield 235, 3) := by decide +kernel
theorem dX10_after_219 : decode cX10_after 219 = .ok (.iconst 0, 1) := by decide +kernel
theorem dX10_after_220 : decode cX10_after 220 = .ok (.iastore, 1) := by decide +kernel
theorem dX10_after_221 : decode cX10_after 221 = .ok (.aload_n 0, 1) := by decide +kernel
theorem dX10_after_222 : decode cX10_after 222 = .ok (.iload_n 2, 1) := by decide +kernel
theorem dX10_after_223 : decode cX10_after 223 = .ok (.i2l, 1) := by decide +kernel
theorem dX10_after_224 : decode cX10_after 224 = .ok (.invokevirtual 238, 3) := by decide +kernel
theorem dX10_after_227 : decode cX10_after 227 = .ok (.aload_n 0, 1) := by decide +kernel
theorem dX10_after_228 : decode cX10_after 228 = .ok (.getfield 60, 3) := by decide +kernel
theorem dX10_after_231 : decode cX10_after 231 = .ok (.aload_n 0, 1) := by decide +kernel
theorem dX10_after_232 : decode cX10_after 232 = .ok (.getfield 235, 3) := by decide +kernel
theorem dX10_after_235 : decode cX10_after 235 = .ok (.aload_n 0, 1) := by decide +kernel
theorem dX10_after_236 : decode cX10_after 236 = .ok (.getfield 26, 3) := by decide +kernel
theorem dX10_after_239 : decode cX10_after 239 = .ok (.iload 5, 2) := by decide +kernel
theorem dX10_after_241 : decode cX10_after 241 = .ok (.iconst 2, 1) := by decide +kernel
theorem dX10_after_242 : decode cX10_after 242 = .ok (.iadd, 1) := by decide +kernel
theorem dX10_after_243 : decode cX10_after 243 = .ok (.iaload, 1) := by decide +kernel
theorem dX10_after_244 : decode cX10_after 244 = .ok (.iastore, 1) := by decide +kernel
theorem dX10_after_245 : decode cX10_after 245 = .ok (.iconst (-1), 1) := by decide +kernel
theorem dX10_after_246 : decode cX10_after 246 = .ok (.ireturn, 1) := by decide +kernel
theorem dX10_after_247 : decode cX10_after 247 = .ok (.iinc 4 1, 3) := by decide +kernel
theorem dX10_after_250 : decode cX10_after 250 = .ok (.goto (-134), 3) := by decide +kernel
theorem dX10_after_253 : decode cX10_after 253 = .ok (.aload_n 0, 1) := by decide +kernel
theorem dX10_after_254 : decode cX10_after 254 = .ok (.dup, 1) := by decide +kernel
theorem dX10_after_255 : decode cX10_after 255 = .ok (.getfield 235, 3) := by decide +kernel
theorem dX10_after_258 : decode cX10_after 258 = .ok (.iconst 1, 1) := by decide +kernel
theorem dX10_after_259 : decode cX10_after 259 = .ok (.isub, 1) := by decide +kernel
theorem dX10_after_260 : decode cX10_after 260 = .ok (.putfield 235, 3) := by decide +kernel
theorem dX10_after_263 : decode cX10_after 263 = .ok (.goto (-167), 3) := by decide +kernel
theorem dX10_after_266 : decode cX10_after 266 = .ok (.aload_n 0, 1) := by decide +kernel
theorem dX10_after_267 : decode cX10_after 267 = .ok (.iload_n 2, 1) := by decide +kernel
theorem dX10_after_268 : decode cX10_after 268 = .ok (.putfield 263, 3) := by decide +kernel
theorem dX10_after_271 : decode cX10_after 271 = .ok (.iload_n 1, 1) := by decide +kernel
theorem dX10_after_272 : decode cX10_after 272 = .ok (.ireturn, 1) := by decide +kernel
theorem dX10_arith_0 : decode cX10_arith 0 = .ok (.lload_n 0, 1) := by decide +kernel
theorem dX10_arith_1 : decode cX10_arith 1 = .ok (.lconst 0, 1) := by decide +kernel
theorem dX10_arith_2 : decode cX10_arith 2 = .ok (.lcmp, 1) := by decide +kernel
theorem dX10_arith_3 : decode cX10_arith 3 = .ok (.ifCond .ne 9, 3) := by decide +kernel
theorem dX10_arith_6 : decode cX10_arith 6 = .ok (.iload_n 2, 1) := by decide +kernel
theorem dX10_arith_7 : decode cX10_arith 7 = .ok (.iload_n 3, 1) := by decide +kernel
theorem dX10_arith_8 : decode cX10_arith 8 = .ok (.iadd, 1) := by decide +kernel
theorem dX10_arith_9 : decode cX10_arith 9 = .ok (.goto 46, 3) := by decide +kernel
theorem dX10_arith_12 : decode cX10_arith 12 = .ok (.lload_n 0, 1) := by decide +kernel
theorem dX10_arith_13 : decode cX10_arith 13 = .ok (.lconst 1, 1) := by decide +kernel
theorem dX10_arith_14 : decode cX10_arith 14 = .ok (.lcmp, 1) := by decide +kernel
theorem dX10_arith_15 : decode cX10_arith 15 = .ok (.ifCond .ne 9, 3) := by decide +kernel
theorem dX10_arith_18 : decode cX10_arith 18 = .ok (.iload_n 2, 1) := by decide +kernel
theorem dX10_arith_19 : decode cX10_arith 19 = .ok (.iload_n 3, 1) := by decide +kernel
theorem dX10_arith_20 : decode cX10_arith 20 = .ok (.isub, 1) := by decide +kernel
theorem dX10_arith_21 : decode cX10_arith 21 = .ok (.goto 34, 3) := by decide +kernel
theorem dX10_arith_24 : decode cX10_arith 24 = .ok (.lload_n 0, 1) := by decide +kernel
theorem dX10_arith_25 : decode cX10_arith 25 = .ok (.ldc2_w 276, 3) := by decide +kernel
theorem dX10_arith_28 : decode cX10_arith 28 = .ok (.lcmp, 1) := by decide +kernel
theorem dX10_arith_29 : decode cX10_arith 29 = .ok (.ifCond .ne 9, 3) := by decide +kernel
theorem dX10_arith_32 : decode cX10_arith 32 = .ok (.iload_n 2, 1) := by decide +kernel
theorem dX10_arith_33 : decode cX10_arith 33 = .ok (.iload_n 3, 1) := by decide +kernel
theorem dX10_arith_34 : decode cX10_arith 34 = .ok (.imul, 1) := by decide +kernel
theorem dX10_arith_35 : decode cX10_arith 35 = .ok (.goto 20, 3) := by decide +kernel
theorem dX10_arith_38 : decode cX10_arith 38 = .ok (.lload_n 0, 1) := by decide +kernel
theorem dX10_arith_39 : decode cX10_arith 39 = .ok (.ldc2_w 278, 3) := by decide +kernel
theorem dX10_arith_42 : decode cX10_arith 42 = .ok (.lcmp, 1) := by decide +kernel
theorem dX10_arith_43 : decode cX10_arith 43 = .ok (.ifCond .ne 9, 3) := by decide +kernel
theorem dX10_arith_46 : decode cX10_arith 46 = .ok (.iload_n 2, 1) := by decide +kernel
theorem dX10_arith_47 : decode cX10_arith 47 = .ok (.iload_n 3, 1) := by decide +kernel
theorem dX10_arith_48 : decode cX10_arith 48 = .ok (.idiv, 1) := by decide +kernel
theorem dX10_arith_49 : decode cX10_arith 49 = .ok (.goto 6, 3) := by decide +kernel
theorem dX10_arith_52 : decode cX10_arith 52 = .ok (.iload_n 2, 1) := by decide +kernel
theorem dX10_arith_53 : decode cX10_arith 53 = .ok (.iload_n 3, 1) := by decide +kernel
theorem dX10_arith_54 : decode cX10_arith 54 = .ok (.irem, 1) := by decide +kernel
theorem dX10_arith_55 : decode cX10_arith 55 = .ok (.ireturn, 1) := by decide +kernel
theorem dX10_arithLong_0 : decode cX10_arithLong 0 = .ok (.lload_n 0, 1) := by decide +kernel
theorem dX10_arithLong_1 : decode cX10_arithLong 1 = .ok (.lconst 0, 1) := by decide +kernel
theorem dX10_arithLong_2 : decode cX10_arithLong 2 = .ok (.lcmp, 1) := by decide +kernel
theorem dX10_arithLong_3 : decode cX10_arithLong 3 = .ok (.ifCond .ne 10, 3) := by decide +kernel
theorem dX10_arithLong_6 : decode cX10_arithLong 6 = .ok (.lload_n 2, 1) := by decide +kernel
theorem dX10_arithLong_7 : decode cX10_arithLong 7 = .ok (.lload 4, 2) := by decide +kernel
theorem dX10_arithLong_9 : decode cX10_arithLong 9 = .ok (.ladd, 1) := by decide +kernel
theorem dX10_arithLong_10 : decode cX10_arithLong 10 = .ok (.goto 50, 3) := by decide +kernel
theorem dX10_arithLong_13 : decode cX10_arithLong 13 = .ok (.lload_n 0, 1) := by decide +kernel
theorem dX10_arithLong_14 : decode cX10_arithLong 14 = .ok (.lconst 1, 1) := by decide +kernel
theorem dX10_arithLong_15 : decode cX10_arithLong 15 = .ok (.lcmp, 1) := by decide +kernel
theorem dX10_arithLong_16 : decode cX10_arithLong 16 = .ok (.ifCond .ne 10, 3) := by decide +kernel
theorem dX10_arithLong_19 : decode cX10_arithLong 19 = .ok (.lload_n 2, 1) := by decide +kernel
theorem dX10_arithLong_20 : decode cX10_arithLong 20 = .ok (.lload 4, 2) := by decide +kernel
theorem dX10_arithLong_22 : decode cX10_arithLong 22 = .ok (.lsub, 1) := by decide +kernel
theorem dX10_arithLong_23 : decode cX10_arithLong 23 = .ok (.goto 37, 3) := by decide +kernel
theorem dX10_arithLong_26 : decode cX10_arithLong 26 = .ok (.lload_n 0, 1) := by decide +kernel
theorem dX10_arithLong_27 : decode cX10_arithLong 27 = .ok (.ldc2_w 276, 3) := by decide +kernel
theorem dX10_arithLong_30 : decode cX10_arithLong 30 = .ok (.lcmp, 1) := by decide +kernel
theorem dX10_arithLong_31 : decode cX10_arithLong 31 = .ok (.ifCond .ne 10, 3) := by decide +kernel
theorem dX10_arithLong_34 : decode cX10_arithLong 34 = .ok (.lload_n 2, 1) := by decide +kernel
theorem dX10_arithLong_35 : decode cX10_arithLong 35 = .ok (.lload 4, 2) := by decide +kernel
theorem dX10_arithLong_37 : decode cX10_arithLong 37 = .ok (.lmul, 1) := by decide +kernel
theorem dX10_arithLong_38 : decode cX10_arithLong 38 = .ok (.goto 22, 3) := by decide +kernel
theorem dX10_arithLong_41 : decode cX10_arithLong 41 = .ok (.lload_n 0, 1) := by decide +kernel
theorem dX10_arithLong_42 : decode cX10_arithLong 42 = .ok (.ldc2_w 278, 3) := by decide +kernel
theorem dX10_arithLong_45 : decode cX10_arithLong 45 = .ok (.lcmp, 1) := by decide +kernel
theorem dX10_arithLong_46 : decode cX10_arithLong 46 = .ok (.ifCond .ne 10, 3) := by decide +kernel
theorem dX10_arithLong_49 : decode cX10_arithLong 49 = .ok (.lload_n 2, 1) := by decide +kernel
theorem dX10_arithLong_50 : decode cX10_arithLong 50 = .ok (.lload 4, 2) := by decide +kernel
theorem dX10_arithLong_52 : decode cX10_arithLong 52 = .ok (.ldiv, 1) := by decide +kernel
theorem dX10_arithLong_53 : decode cX10_arithLong 53 = .ok (.goto 7, 3) := by decide +kernel
theorem dX10_arithLong_56 : decode cX10_arithLong 56 = .ok (.lload_n 2, 1) := by decide +kernel
theorem dX10_arithLong_57 : decode cX10_arithLong 57 = .ok (.lload 4, 2) := by decide +kernel
theorem dX10_arithLong_59 : decode cX10_arithLong 59 = .ok (.lrem, 1) := by decide +kernel
theorem dX10_arithLong_60 : decode cX10_arithLong 60 = .ok (.lreturn, 1) := by decide +kernel
theorem dX10_works_0 : decode cX10_works 0 = .ok (.aload_n 0, 1) := by decide +kernel
theorem dX10_works_1 : decode cX10_works 1 = .ok (.getfield 57, 3) := by decide +kernel
theorem dX10_works_4 : decode cX10_works 4 = .ok (.aload_n 0, 1) := by decide +kernel
theorem dX10_works_5 : decode cX10_works 5 = .ok (.getfield 235, 3) := by decide +kernel
theorem dX10_works_8 : decode cX10_works 8 = .ok (.iaload, 1) := by decide +kernel
theorem dX10_works_9 : decode cX10_works 9 = .ok (.istore_n 1, 1) := by decide +kernel
theorem dX10_works_10 : decode cX10_works 10 = .ok (.aload_n 0, 1) := by decide +kernel
theorem dX10_works_11 : decode cX10_works 11 = .ok (.getfield 60, 3) := by decide +kernel
theorem dX10_works_14 : decode cX10_works 14 = .ok (.aload_n 0, 1) := by decide +kernel
theorem dX10_works_15 : decode cX10_works 15 = .ok (.getfield 235, 3) := by decide +kernel
theorem dX10_works_18 : decode cX10_works 18 = .ok (.iaload, 1) := by decide +kernel
theorem dX10_works_19 : decode cX10_works 19 = .ok (.istore_n 2, 1) := by decide +kernel
theorem dX10_works_20 : decode cX10_works 20 = .ok (.aload_n 0, 1) := by decide +kernel
theorem dX10_works_21 : decode cX10_works 21 = .ok (.getfield 16, 3) := by decide +kernel
theorem dX10_works_24 : decode cX10_works 24 = .ok (.bipush 40, 2) := by decide +kernel
theorem dX10_works_26 : decode cX10_works 26 = .ok (.iload_n 1, 1) := by decide +kernel
theorem dX10_works_27 : decode cX10_works 27 = .ok (.imul, 1) := by decide +kernel
theorem dX10_works_28 : decode cX10_works 28 = .ok (.iload_n 2, 1) := by decide +kernel
theorem dX10_works_29 : decode cX10_works 29 = .ok (.iadd, 1) := by decide +kernel
theorem dX10_works_30 : decode cX10_works 30 = .ok (.iaload, 1) := by decide +kernel
theorem dX10_works_31 : decode cX10_works 31 = .ok (.istore_n 3, 1) := by decide +kernel
theorem dX10_works_32 : decode cX10_works 32 = .ok (.aload_n 0, 1) := by decide +kernel
theorem dX10_works_33 : decode cX10_works 33 = .ok (.getfield 19, 3) := by decide +kernel
theorem dX10_works_36 : decode cX10_works 36 = .ok (.bipush 40, 2) := by decide +kernel
theorem dX10_works_38 : decode cX10_works 38 = .ok (.iload_n 1, 1) := by decide +kernel
theorem dX10_works_39 : decode cX10_works 39 = .ok (.imul, 1) := by decide +kernel
theorem dX10_works_40 : decode cX10_works 40 = .ok (.iload_n 2, 1) := by decide +kernel
theorem dX10_works_41 : decode cX10_works 41 = .ok (.iadd, 1) := by decide +kernel
theorem dX10_works_42 : decode cX10_works 42 = .ok (.laload, 1) := by decide +kernel
theorem dX10_works_43 : decode cX10_works 43 = .ok (.lstore 4, 2) := by decide +kernel
theorem dX10_works_45 : decode cX10_works 45 = .ok (.iload_n 3, 1) := by decide +kernel
theorem dX10_works_46 : decode cX10_works 46 = .ok (.bipush 14, 2) := by decide +kernel
theorem dX10_works_48 : decode cX10_works 48 = .ok (.if_icmp .ge 13, 3) := by decide +kernel
theorem dX10_works_51 : decode cX10_works 51 = .ok (.aload_n 0, 1) := by decide +kernel
theorem dX10_works_52 : decode cX10_works 52 = .ok (.iload_n 3, 1) := by decide +kernel
theorem dX10_works_53 : decode cX10_works 53 = .ok (.lload 4, 2) := by decide +kernel
theorem dX10_works_55 : decode cX10_works 55 = .ok (.invokevirtual 280, 3) := by decide +kernel
theorem dX10_works_58 : decode cX10_works 58 = .ok (.goto 26, 3) := by decide +kernel
theorem dX10_works_61 : decode cX10_works 61 = .ok (.iload_n 3, 1) := by decide +kernel
theorem dX10_works_62 : decode cX10_works 62 = .ok (.bipush 26, 2) := by decide +kernel
theorem dX10_works_64 : decode cX10_works 64 = .ok (.if_icmp .ge 13, 3) := by decide +kernel
theorem dX10_works_67 : decode cX10_works 67 = .ok (.aload_n 0, 1) := by decide +kernel
theorem dX10_works_68 : decode cX10_works 68 = .ok (.iload_n 3, 1) := by decide +kernel
theorem dX10_works_69 : decode cX10_works 69 = .ok (.lload 4, 2) := by decide +kernel
theorem dX10_works_71 : decode cX10_works 71 = .ok (.invokevirtual 284, 3) := by decide +kernel
theorem dX10_works_74 : decode cX10_works 74 = .ok (.goto 10, 3) := by decide +kernel
theorem dX10_works_77 : decode cX10_works 77 = .ok (.aload_n 0, 1) := by decide +kernel
theorem dX10_works_78 : decode cX10_works 78 = .ok (.iload_n 3, 1) := by decide +kernel
theorem dX10_works_79 : decode cX10_works 79 = .ok (.lload 4, 2) := by decide +kernel
theorem dX10_works_81 : decode cX10_works 81 = .ok (.invokevirtual 287, 3) := by decide +kernel
theorem dX10_works_84 : decode cX10_works 84 = .ok (.istore 6, 2) := by decide +kernel
theorem dX10_works_86 : decode cX10_works 86 = .ok (.iload 6, 2) := by decide +kernel
theorem dX10_works_88 : decode cX10_works 88 = .ok (.ifCond .ne 16, 3) := by decide +kernel
theorem dX10_works_91 : decode cX10_works 91 = .ok (.aload_n 0, 1) := by decide +kernel
theorem dX10_works_92 : decode cX10_works 92 = .ok (.getfield 60, 3) := by decide +kernel
theorem dX10_works_95 : decode cX10_works 95 = .ok (.aload_n 0, 1) := by decide +kernel
theorem dX10_works_96 : decode cX10_works 96 = .ok (.getfield 235, 3) := by decide +kernel
theorem dX10_works_99 : decode cX10_works 99 = .ok (.dup2, 1) := by decide +kernel
theorem dX10_works_100 : decode cX10_works 100 = .ok (.iaload, 1) := by decide +kernel
theorem dX10_works_101 : decode cX10_works 101 = .ok (.iconst 1, 1) := by decide +kernel
theorem dX10_works_102 : decode cX10_works 102 = .ok (.iadd, 1) := by decide +kernel
theorem dX10_works_103 : decode cX10_works 103 = .ok (.iastore, 1) := by decide +kernel
theorem dX10_works_104 : decode cX10_works 104 = .ok (.iload 6, 2) := by decide +kernel
theorem dX10_works_106 : decode cX10_works 106 = .ok (.bipush 21, 2) := by decide +kernel
theorem dX10_works_108 : decode cX10_works 108 = .ok (.if_icmp .ne 7, 3) := by decide +kernel
theorem dX10_works_111 : decode cX10_works 111 = .ok (.iconst 0, 1) := by decide +kernel
theorem dX10_works_112 : decode cX10_works 112 = .ok (.goto 5, 3) := by decide +kernel
theorem dX10_works_115 : decode cX10_works 115 = .ok (.iload 6, 2) := by decide +kernel
theorem dX10_works_117 : decode cX10_works 117 = .ok (.ireturn, 1) := by decide +kernel
theorem dX10_simple_0 : decode cX10_simple 0 = .ok (.bipush 16, 2) := by decide +kernel
theorem dX10_simple_2 : decode cX10_simple 2 = .ok (.aload_n 0, 1) := by decide +kernel
theorem dX10_simple_3 : decode cX10_simple 3 = .ok (.getfield 235, 3) := by decide +kernel
theorem dX10_simple_6 : decode cX10_simple 6 = .ok (.imul, 1) := by decide +kernel
theorem dX10_simple_7 : decode cX10_simple 7 = .ok (.istore 4, 2) := by decide +kernel
theorem dX10_simple_9 : decode cX10_simple 9 = .ok (.iload_n 1, 1) := by decide +kernel
theorem dX10_simple_10 : decode cX10_simple 10 = .ok (.tableswitch 319 0 12 #[66, 75, 82, 91, 107, 135, 107, 151, 196, 240, 250, 262, 293], 66) := by decide +kernel
theorem dX10_simple_76 : decode cX10_simple 76 = .ok (.aload_n 0, 1) := by decide +kernel
theorem dX10_simple_77 : decode cX10_simple 77 = .ok (.lload_n 2, 1) := by decide +kernel
theorem dX10_simple_78 : decode cX10_simple 78 = .ok (.l2i, 1) := by decide +kernel
theorem dX10_simple_79 : decode cX10_simple 79 = .ok (.i2l, 1) := by decide +kernel
theorem dX10_simple_80 : decode cX10_simple 80 = .ok (.invokevirtual 238, 3) := by decide +kernel
theorem dX10_simple_83 : decode cX10_simple 83 = .ok (.iconst 0, 1) := by decide +kernel
theorem dX10_simple_84 : decode cX10_simple 84 = .ok (.ireturn, 1) := by decide +kernel
theorem dX10_simple_85 : decode cX10_simple 85 = .ok (.aload_n 0, 1) := by decide +kernel
theorem dX10_simple_86 : decode cX10_simple 86 = .ok (.lload_n 2, 1) := by decide +kernel
theorem dX10_simple_87 : decode cX10_simple 87 = .ok (.invokevirtual 290, 3) := by decide +kernel
theorem dX10_simple_90 : decode cX10_simple 90 = .ok (.iconst 0, 1) := by decide +kernel
theorem dX10_simple_91 : decode cX10_simple 91 = .ok (.ireturn, 1) := by decide +kernel
theorem dX10_simple_92 : decode cX10_simple 92 = .ok (.aload_n 0, 1) := by decide +kernel
theorem dX10_simple_93 : decode cX10_simple 93 = .ok (.ldc2_w 141, 3) := by decide +kernel
theorem dX10_simple_96 : decode cX10_simple 96 = .ok (.invokevirtual 238, 3) := by decide +kernel
theorem dX10_simple_99 : decode cX10_simple 99 = .ok (.iconst 0, 1) := by decide +kernel
theorem dX10_simple_100 : decode cX10_simple 100 = .ok (.ireturn, 1) := by decide +kernel
theorem dX10_simple_101 : decode cX10_simple 101 = .ok (.aload_n 0, 1) := by decide +kernel
theorem dX10_simple_102 : decode cX10_simple 102 = .ok (.aload_n 0, 1) := by decide +kernel
theorem dX10_simple_103 : decode cX10_simple 103 = .ok (.getfield 51, 3) := by decide +kernel
theorem dX10_simple_106 : decode cX10_simple 106 = .ok (.iload 4, 2) := by decide +kernel
theorem dX10_simple_108 : decode cX10_simple 108 = .ok (.lload_n 2, 1) := by decide +kernel
theorem dX10_simple_109 : decode cX10_simple 109 = .ok (.l2i, 1) := by decide +kernel
theorem dX10_simple_110 : decode cX10_simple 110 = .ok (.iadd, 1) := by decide +kernel
theorem dX10_simple_111 : decode cX10_simple 111 = .ok (.laload, 1) := by decide +kernel
theorem dX10_simple_112 : decode cX10_simple 112 = .ok (.invokevirtual 238, 3) := by decide +kernel
theorem dX10_simple_115 : decode cX10_simple 115 = .ok (.iconst 0, 1) := by decide +kernel
theorem dX10_simple_116 : decode cX10_simple 116 = .ok (.ireturn, 1) := by decide +kernel
theorem dX10_simple_117 : decode cX10_simple 117 = .ok (.aload_n 0, 1) := by decide +kernel
theorem dX10_simple_118 : decode cX10_simple 118 = .ok (.getfield 51, 3) := by decide +kernel
theorem dX10_simple_121 : decode cX10_simple 121 = .ok (.iload 4, 2) := by decide +kernel
theorem dX10_simple_123 : decode cX10_simple 123 = .ok (.lload_n 2, 1) := by decide +kernel
theorem dX10_simple_124 : decode cX10_simple 124 = .ok (.l2i, 1) := by decide +kernel
theorem dX10_simple_125 : decode cX10_simple 125 = .ok (.iadd, 1) := by decide +kernel
theorem dX10_simple_126 : decode cX10_simple 126 = .ok (.iload_n 1, 1) := by decide +kernel
theorem dX10_simple_127 : decode cX10_simple 127 = .ok (.iconst 4, 1) := by decide +kernel
theorem dX10_simple_128 : decode cX10_simple 128 = .ok (.if_icmp .ne 10, 3) := by decide +kernel
theorem dX10_simple_131 : decode cX10_simple 131 = .ok (.aload_n 0, 1) := by decide +kernel
theorem dX10_simple_132 : decode cX10_simple 132 = .ok (.invokevirtual 293, 3) := by decide +kernel
theorem dX10_simple_135 : decode cX10_simple 135 = .ok (.goto 7, 3) := by decide +kernel
theorem dX10_simple_138 : decode cX10_simple 138 = .ok (.aload_n 0, 1) := by decide +kernel
theorem dX10_simple_139 : decode cX10_simple 139 = .ok (.invokevirtual 297, 3) := by decide +kernel
theorem dX10_simple_142 : decode cX10_simple 142 = .ok (.lastore, 1) := by decide +kernel
theorem dX10_simple_143 : decode cX10_simple 143 = .ok (.iconst 0, 1) := by decide +kernel
theorem dX10_simple_144 : decode cX10_simple 144 = .ok (.ireturn, 1) := by decide +kernel
theorem dX10_simple_145 : decode cX10_simple 145 = .ok (.aload_n 0, 1) := by decide +kernel
theorem dX10_simple_146 : decode cX10_simple 146 = .ok (.aload_n 0, 1) := by decide +kernel
theorem dX10_simple_147 : decode cX10_simple 147 = .ok (.getfield 51, 3) := by decide +kernel
theorem dX10_simple_150 : decode cX10_simple 150 = .ok (.iload 4, 2) := by decide +kernel
theorem dX10_simple_152 : decode cX10_simple 152 = .ok (.lload_n 2, 1) := by decide +kernel
theorem dX10_simple_153 : decode cX10_simple 153 = .ok (.l2i, 1) := by decide +kernel
theorem dX10_simple_154 : decode cX10_simple 154 = .ok (.iadd, 1) := by decide +kernel
theorem dX10_simple_155 : decode cX10_simple 155 = .ok (.laload, 1) := by decide +kernel
theorem dX10_simple_156 : decode cX10_simple 156 = .ok (.invokevirtual 290, 3) := by decide +kernel
theorem dX10_simple_159 : decode cX10_simple 159 = .ok (.iconst 0, 1) := by decide +kernel
theorem dX10_simple_160 : decode cX10_simple 160 = .ok (.ireturn, 1) := by decide +kernel
theorem dX10_simple_161 : decode cX10_simple 161 = .ok (.aload_n 0, 1) := by decide +kernel
theorem dX10_simple_162 : decode cX10_simple 162 = .ok (.invokevirtual 293, 3) := by decide +kernel
theorem dX10_simple_165 : decode cX10_simple 165 = .ok (.l2i, 1) := by decide +kernel
theorem dX10_simple_166 : decode cX10_simple 166 = .ok (.istore 5, 2) := by decide +kernel
theorem dX10_simple_168 : decode cX10_simple 168 = .ok (.aload_n 0, 1) := by decide +kernel
theorem dX10_simple_169 : decode cX10_simple 169 = .ok (.invokevirtual 293, 3) := by decide +kernel
theorem dX10_simple_172 : decode cX10_simple 172 = .ok (.l2i, 1) := by decide +kernel
theorem dX10_simple_173 : decode cX10_simple 173 = .ok (.istore 6, 2) := by decide +kernel
theorem dX10_simple_175 : decode cX10_simple 175 = .ok (.lload_n 2, 1) := by decide +kernel
theorem dX10_simple_176 : decode cX10_simple 176 = .ok (.ldc2_w 276, 3) := by decide +kernel
theorem dX10_simple_179 : decode cX10_simple 179 = .ok (.lcmp, 1) := by decide +kernel
theorem dX10_simple_180 : decode cX10_simple 180 = .ok (.ifCond .le 11, 3) := by decide +kernel
theorem dX10_simple_183 : decode cX10_simple 183 = .ok (.iload 5, 2) := by decide +kernel
theorem dX10_simple_185 : decode cX10_simple 185 = .ok (.ifCond .ne 6, 3) := by decide +kernel
theorem dX10_simple_188 : decode cX10_simple 188 = .ok (.bipush 6, 2) := by decide +kernel
theorem dX10_simple_190 : decode cX10_simple 190 = .ok (.ireturn, 1) := by decide +kernel
theorem dX10_simple_191 : decode cX10_simple 191 = .ok (.aload_n 0, 1) := by decide +kernel
theorem dX10_simple_192 : decode cX10_simple 192 = .ok (.lload_n 2, 1) := by decide +kernel
theorem dX10_simple_193 : decode cX10_simple 193 = .ok (.iload 6, 2) := by decide +kernel
theorem dX10_simple_195 : decode cX10_simple 195 = .ok (.iload 5, 2) := by decide +kernel
theorem dX10_simple_197 : decode cX10_simple 197 = .ok (.invokestatic 300, 3) := by decide +kernel
theorem dX10_simple_200 : decode cX10_simple 200 = .ok (.i2l, 1) := by decide +kernel
theorem dX10_simple_201 : decode cX10_simple 201 = .ok (.invokevirtual 238, 3) := by decide +kernel
theorem dX10_simple_204 : decode cX10_simple 204 = .ok (.iconst 0, 1) := by decide +kernel
theorem dX10_simple_205 : decode cX10_simple 205 = .ok (.ireturn, 1) := by decide +kernel
theorem dX10_simple_206 : decode cX10_simple 206 = .ok (.aload_n 0, 1) := by decide +kernel
theorem dX10_simple_207 : decode cX10_simple 207 = .ok (.invokevirtual 297, 3) := by decide +kernel
theorem dX10_simple_210 : decode cX10_simple 210 = .ok (.lstore 7, 2) := by decide +kernel
theorem dX10_simple_212 : decode cX10_simple 212 = .ok (.aload_n 0, 1) := by decide +kernel
theorem dX10_simple_213 : decode cX10_simple 213 = .ok (.invokevirtual 297, 3) := by decide +kernel
theorem dX10_simple_216 : decode cX10_simple 216 = .ok (.lstore 9, 2) := by decide +kernel
theorem dX10_simple_218 : decode cX10_simple 218 = .ok (.lload_n 2, 1) := by decide +kernel
theorem dX10_simple_219 : decode cX10_simple 219 = .ok (.ldc2_w 276, 3) := by decide +kernel
theorem dX10_simple_222 : decode cX10_simple 222 = .ok (.lcmp, 1) := by decide +kernel
theorem dX10_simple_223 : decode cX10_simple 223 = .ok (.ifCond .le 13, 3) := by decide +kernel
theorem dX10_simple_226 : decode cX10_simple 226 = .ok (.lload 7, 2) := by decide +kernel
theorem dX10_simple_228 : decode cX10_simple 228 = .ok (.lconst 0, 1) := by decide +kernel
theorem dX10_simple_229 : decode cX10_simple 229 = .ok (.lcmp, 1) := by decide +kernel
theorem dX10_simple_230 : decode cX10_simple 230 = .ok (.ifCond .ne 6, 3) := by decide +kernel
theorem dX10_simple_233 : decode cX10_simple 233 = .ok (.bipush 6, 2) := by decide +kernel
theorem dX10_simple_235 : decode cX10_simple 235 = .ok (.ireturn, 1) := by decide +kernel
theorem dX10_simple_236 : decode cX10_simple 236 = .ok (.aload_n 0, 1) := by decide +kernel
theorem dX10_simple_237 : decode cX10_simple 237 = .ok (.lload_n 2, 1) := by decide +kernel
theorem dX10_simple_238 : decode cX10_simple 238 = .ok (.lload 9, 2) := by decide +kernel
theorem dX10_simple_240 : decode cX10_simple 240 = .ok (.lload 7, 2) := by decide +kernel
theorem dX10_simple_242 : decode cX10_simple 242 = .ok (.invokestatic 304, 3) := by decide +kernel
theorem dX10_simple_245 : decode cX10_simple 245 = .ok (.invokevirtual 290, 3) := by decide +kernel
theorem dX10_simple_248 : decode cX10_simple 248 = .ok (.iconst 0, 1) := by decide +kernel
theorem dX10_simple_249 : decode cX10_simple 249 = .ok (.ireturn, 1) := by decide +kernel
theorem dX10_simple_250 : decode cX10_simple 250 = .ok (.aload_n 0, 1) := by decide +kernel
theorem dX10_simple_251 : decode cX10_simple 251 = .ok (.aload_n 0, 1) := by decide +kernel
theorem dX10_simple_252 : decode cX10_simple 252 = .ok (.invokevirtual 293, 3) := by decide +kernel
theorem dX10_simple_255 : decode cX10_simple 255 = .ok (.invokevirtual 290, 3) := by decide +kernel
theorem dX10_simple_258 : decode cX10_simple 258 = .ok (.iconst 0, 1) := by decide +kernel
theorem dX10_simple_259 : decode cX10_simple 259 = .ok (.ireturn, 1) := by decide +kernel
theorem dX10_simple_260 : decode cX10_simple 260 = .ok (.aload_n 0, 1) := by decide +kernel
theorem dX10_simple_261 : decode cX10_simple 261 = .ok (.aload_n 0, 1) := by decide +kernel
theorem dX10_simple_262 : decode cX10_simple 262 = .ok (.invokevirtual 297, 3) := by decide +kernel
theorem dX10_simple_265 : decode cX10_simple 265 = .ok (.l2i, 1) := by decide +kernel
theorem dX10_simple_266 : decode cX10_simple 266 = .ok (.i2l, 1) := by decide +kernel
theorem dX10_simple_267 : decode cX10_simple 267 = .ok (.invokevirtual 238, 3) := by decide +kernel
theorem dX10_simple_270 : decode cX10_simple 270 = .ok (.iconst 0, 1) := by decide +kernel
theorem dX10_simple_271 : decode cX10_simple 271 = .ok (.ireturn, 1) := by decide +kernel
theorem dX10_simple_272 : decode cX10_simple 272 = .ok (.aload_n 0, 1) := by decide +kernel
theorem dX10_simple_273 : decode cX10_simple 273 = .ok (.invokevirtual 297, 3) := by decide +kernel
theorem dX10_simple_276 : decode cX10_simple 276 = .ok (.lstore 11, 2) := by decide +kernel
theorem dX10_simple_278 : decode cX10_simple 278 = .ok (.aload_n 0, 1) := by decide +kernel
theorem dX10_simple_279 : decode cX10_simple 279 = .ok (.invokevirtual 297, 3) := by decide +kernel
theorem dX10_simple_282 : decode cX10_simple 282 = .ok (.lstore 13, 2) := by decide +kernel
theorem dX10_simple_284 : decode cX10_simple 284 = .ok (.aload_n 0, 1) := by decide +kernel
theorem dX10_simple_285 : decode cX10_simple 285 = .ok (.lload 13, 2) := by decide +kernel
theorem dX10_simple_287 : decode cX10_simple 287 = .ok (.lload 11, 2) := by decide +kernel
theorem dX10_simple_289 : decode cX10_simple 289 = .ok (.lcmp, 1) := by decide +kernel
theorem dX10_simple_290 : decode cX10_simple 290 = .ok (.ifCond .ge 7, 3) := by decide +kernel
theorem dX10_simple_293 : decode cX10_simple 293 = .ok (.lconst 1, 1) := by decide +kernel
theorem dX10_simple_294 : decode cX10_simple 294 = .ok (.goto 4, 3) := by decide +kernel
theorem dX10_simple_297 : decode cX10_simple 297 = .ok (.lconst 0, 1) := by decide +kernel
theorem dX10_simple_298 : decode cX10_simple 298 = .ok (.invokevirtual 238, 3) := by decide +kernel
