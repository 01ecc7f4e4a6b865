theorem dX10_others_129 : decode cX10_others 129 = .ok (.iload 4, 2) := by decide +kernel
theorem dX10_others_131 : decode cX10_others 131 = .ok (.iconst 1, 1) := by decide +kernel
theorem dX10_others_132 : decode cX10_others 132 = .ok (.isub, 1) := by decide +kernel
theorem dX10_others_133 : decode cX10_others 133 = .ok (.laload, 1) := by decide +kernel
theorem dX10_others_134 : decode cX10_others 134 = .ok (.lastore, 1) := by decide +kernel
theorem dX10_others_135 : decode cX10_others 135 = .ok (.aload_n 0, 1) := by decide +kernel
theorem dX10_others_136 : decode cX10_others 136 = .ok (.getfield 51, 3) := by decide +kernel
theorem dX10_others_139 : decode cX10_others 139 = .ok (.iload 4, 2) := by decide +kernel
theorem dX10_others_141 : decode cX10_others 141 = .ok (.iconst 1, 1) := by decide +kernel
theorem dX10_others_142 : decode cX10_others 142 = .ok (.isub, 1) := by decide +kernel
theorem dX10_others_143 : decode cX10_others 143 = .ok (.lload 5, 2) := by decide +kernel
theorem dX10_others_145 : decode cX10_others 145 = .ok (.lastore, 1) := by decide +kernel
theorem dX10_others_146 : decode cX10_others 146 = .ok (.iconst 0, 1) := by decide +kernel
theorem dX10_others_147 : decode cX10_others 147 = .ok (.ireturn, 1) := by decide +kernel
theorem dX10_others_148 : decode cX10_others 148 = .ok (.aload_n 0, 1) := by decide +kernel
theorem dX10_others_149 : decode cX10_others 149 = .ok (.getfield 60, 3) := by decide +kernel
theorem dX10_others_152 : decode cX10_others 152 = .ok (.aload_n 0, 1) := by decide +kernel
theorem dX10_others_153 : decode cX10_others 153 = .ok (.getfield 235, 3) := by decide +kernel
theorem dX10_others_156 : decode cX10_others 156 = .ok (.lload_n 2, 1) := by decide +kernel
theorem dX10_others_157 : decode cX10_others 157 = .ok (.l2i, 1) := by decide +kernel
theorem dX10_others_158 : decode cX10_others 158 = .ok (.iastore, 1) := by decide +kernel
theorem dX10_others_159 : decode cX10_others 159 = .ok (.bipush 21, 2) := by decide +kernel
theorem dX10_others_161 : decode cX10_others 161 = .ok (.ireturn, 1) := by decide +kernel
theorem dX10_others_162 : decode cX10_others 162 = .ok (.aload_n 0, 1) := by decide +kernel
theorem dX10_others_163 : decode cX10_others 163 = .ok (.getfield 54, 3) := by decide +kernel
theorem dX10_others_166 : decode cX10_others 166 = .ok (.aload_n 0, 1) := by decide +kernel
theorem dX10_others_167 : decode cX10_others 167 = .ok (.getfield 235, 3) := by decide +kernel
theorem dX10_others_170 : decode cX10_others 170 = .ok (.dup2, 1) := by decide +kernel
theorem dX10_others_171 : decode cX10_others 171 = .ok (.iaload, 1) := by decide +kernel
theorem dX10_others_172 : decode cX10_others 172 = .ok (.iconst 1, 1) := by decide +kernel
theorem dX10_others_173 : decode cX10_others 173 = .ok (.isub, 1) := by decide +kernel
theorem dX10_others_174 : decode cX10_others 174 = .ok (.iastore, 1) := by decide +kernel
theorem dX10_others_175 : decode cX10_others 175 = .ok (.lload 5, 2) := by decide +kernel
theorem dX10_others_177 : decode cX10_others 177 = .ok (.iload_n 1, 1) := by decide +kernel
theorem dX10_others_178 : decode cX10_others 178 = .ok (.bipush 30, 2) := by decide +kernel
theorem dX10_others_180 : decode cX10_others 180 = .ok (.if_icmp .ne 7, 3) := by decide +kernel
theorem dX10_others_183 : decode cX10_others 183 = .ok (.lconst 0, 1) := by decide +kernel
theorem dX10_others_184 : decode cX10_others 184 = .ok (.goto 6, 3) := by decide +kernel
theorem dX10_others_187 : decode cX10_others 187 = .ok (.ldc2_w 141, 3) := by decide +kernel
theorem dX10_others_190 : decode cX10_others 190 = .ok (.lcmp, 1) := by decide +kernel
theorem dX10_others_191 : decode cX10_others 191 = .ok (.ifCond .ne 17, 3) := by decide +kernel
theorem dX10_others_194 : decode cX10_others 194 = .ok (.aload_n 0, 1) := by decide +kernel
theorem dX10_others_195 : decode cX10_others 195 = .ok (.getfield 60, 3) := by decide +kernel
theorem dX10_others_198 : decode cX10_others 198 = .ok (.aload_n 0, 1) := by decide +kernel
theorem dX10_others_199 : decode cX10_others 199 = .ok (.getfield 235, 3) := by decide +kernel
theorem dX10_others_202 : decode cX10_others 202 = .ok (.lload_n 2, 1) := by decide +kernel
theorem dX10_others_203 : decode cX10_others 203 = .ok (.l2i, 1) := by decide +kernel
theorem dX10_others_204 : decode cX10_others 204 = .ok (.iastore, 1) := by decide +kernel
theorem dX10_others_205 : decode cX10_others 205 = .ok (.bipush 21, 2) := by decide +kernel
theorem dX10_others_207 : decode cX10_others 207 = .ok (.ireturn, 1) := by decide +kernel
theorem dX10_others_208 : decode cX10_others 208 = .ok (.iconst 0, 1) := by decide +kernel
theorem dX10_others_209 : decode cX10_others 209 = .ok (.ireturn, 1) := by decide +kernel
theorem dX10_others_210 : decode cX10_others 210 = .ok (.aload_n 0, 1) := by decide +kernel
theorem dX10_others_211 : decode cX10_others 211 = .ok (.dup, 1) := by decide +kernel
theorem dX10_others_212 : decode cX10_others 212 = .ok (.getfield 235, 3) := by decide +kernel
theorem dX10_others_215 : decode cX10_others 215 = .ok (.iconst 1, 1) := by decide +kernel
theorem dX10_others_216 : decode cX10_others 216 = .ok (.isub, 1) := by decide +kernel
theorem dX10_others_217 : decode cX10_others 217 = .ok (.putfield 235, 3) := by decide +kernel
theorem dX10_others_220 : decode cX10_others 220 = .ok (.aload_n 0, 1) := by decide +kernel
theorem dX10_others_221 : decode cX10_others 221 = .ok (.getfield 235, 3) := by decide +kernel
theorem dX10_others_224 : decode cX10_others 224 = .ok (.ifCond .ge 13, 3) := by decide +kernel
theorem dX10_others_227 : decode cX10_others 227 = .ok (.aload_n 0, 1) := by decide +kernel
theorem dX10_others_228 : decode cX10_others 228 = .ok (.lload 5, 2) := by decide +kernel
theorem dX10_others_230 : decode cX10_others 230 = .ok (.l2i, 1) := by decide +kernel
theorem dX10_others_231 : decode cX10_others 231 = .ok (.putfield 263, 3) := by decide +kernel
theorem dX10_others_234 : decode cX10_others 234 = .ok (.bipush 20, 2) := by decide +kernel
theorem dX10_others_236 : decode cX10_others 236 = .ok (.ireturn, 1) := by decide +kernel
theorem dX10_others_237 : decode cX10_others 237 = .ok (.aload_n 0, 1) := by decide +kernel
theorem dX10_others_238 : decode cX10_others 238 = .ok (.lload 5, 2) := by decide +kernel
theorem dX10_others_240 : decode cX10_others 240 = .ok (.invokevirtual 238, 3) := by decide +kernel
theorem dX10_others_243 : decode cX10_others 243 = .ok (.aload_n 0, 1) := by decide +kernel
theorem dX10_others_244 : decode cX10_others 244 = .ok (.getfield 60, 3) := by decide +kernel
theorem dX10_others_247 : decode cX10_others 247 = .ok (.aload_n 0, 1) := by decide +kernel
theorem dX10_others_248 : decode cX10_others 248 = .ok (.getfield 235, 3) := by decide +kernel
theorem dX10_others_251 : decode cX10_others 251 = .ok (.dup2, 1) := by decide +kernel
theorem dX10_others_252 : decode cX10_others 252 = .ok (.iaload, 1) := by decide +kernel
theorem dX10_others_253 : decode cX10_others 253 = .ok (.iconst 1, 1) := by decide +kernel
theorem dX10_others_254 : decode cX10_others 254 = .ok (.iadd, 1) := by decide +kernel
theorem dX10_others_255 : decode cX10_others 255 = .ok (.iastore, 1) := by decide +kernel
theorem dX10_others_256 : decode cX10_others 256 = .ok (.bipush 21, 2) := by decide +kernel
theorem dX10_others_258 : decode cX10_others 258 = .ok (.ireturn, 1) := by decide +kernel
theorem dX10_others_259 : decode cX10_others 259 = .ok (.aload_n 0, 1) := by decide +kernel
theorem dX10_others_260 : decode cX10_others 260 = .ok (.lload_n 2, 1) := by decide +kernel
theorem dX10_others_261 : decode cX10_others 261 = .ok (.l2i, 1) := by decide +kernel
theorem dX10_others_262 : decode cX10_others 262 = .ok (.invokevirtual 317, 3) := by decide +kernel
theorem dX10_others_265 : decode cX10_others 265 = .ok (.bipush 21, 2) := by decide +kernel
theorem dX10_others_267 : decode cX10_others 267 = .ok (.ireturn, 1) := by decide +kernel
theorem dX10_others_268 : decode cX10_others 268 = .ok (.aload_n 0, 1) := by decide +kernel
theorem dX10_others_269 : decode cX10_others 269 = .ok (.lload 5, 2) := by decide +kernel
theorem dX10_others_271 : decode cX10_others 271 = .ok (.l2i, 1) := by decide +kernel
theorem dX10_others_272 : decode cX10_others 272 = .ok (.putfield 273, 3) := by decide +kernel
theorem dX10_others_275 : decode cX10_others 275 = .ok (.bipush 7, 2) := by decide +kernel
theorem dX10_others_277 : decode cX10_others 277 = .ok (.ireturn, 1) := by decide +kernel
theorem dX10_calls_0 : decode cX10_calls 0 = .ok (.aload_n 0, 1) := by decide +kernel
theorem dX10_calls_1 : decode cX10_calls 1 = .ok (.getfield 54, 3) := by decide +kernel
theorem dX10_calls_4 : decode cX10_calls 4 = .ok (.aload_n 0, 1) := by decide +kernel
theorem dX10_calls_5 : decode cX10_calls 5 = .ok (.getfield 235, 3) := by decide +kernel
theorem dX10_calls_8 : decode cX10_calls 8 = .ok (.dup2, 1) := by decide +kernel
theorem dX10_calls_9 : decode cX10_calls 9 = .ok (.iaload, 1) := by decide +kernel
theorem dX10_calls_10 : decode cX10_calls 10 = .ok (.aload_n 0, 1) := by decide +kernel
theorem dX10_calls_11 : decode cX10_calls 11 = .ok (.getfield 7, 3) := by decide +kernel
theorem dX10_calls_14 : decode cX10_calls 14 = .ok (.iload_n 1, 1) := by decide +kernel
theorem dX10_calls_15 : decode cX10_calls 15 = .ok (.iaload, 1) := by decide +kernel
theorem dX10_calls_16 : decode cX10_calls 16 = .ok (.isub, 1) := by decide +kernel
theorem dX10_calls_17 : decode cX10_calls 17 = .ok (.iastore, 1) := by decide +kernel
theorem dX10_calls_18 : decode cX10_calls 18 = .ok (.iconst 0, 1) := by decide +kernel
theorem dX10_calls_19 : decode cX10_calls 19 = .ok (.istore_n 2, 1) := by decide +kernel
theorem dX10_calls_20 : decode cX10_calls 20 = .ok (.iload_n 2, 1) := by decide +kernel
theorem dX10_calls_21 : decode cX10_calls 21 = .ok (.aload_n 0, 1) := by decide +kernel
theorem dX10_calls_22 : decode cX10_calls 22 = .ok (.getfield 7, 3) := by decide +kernel
theorem dX10_calls_25 : decode cX10_calls 25 = .ok (.iload_n 1, 1) := by decide +kernel
theorem dX10_calls_26 : decode cX10_calls 26 = .ok (.iaload, 1) := by decide +kernel
theorem dX10_calls_27 : decode cX10_calls 27 = .ok (.if_icmp .ge 52, 3) := by decide +kernel
theorem dX10_calls_30 : decode cX10_calls 30 = .ok (.aload_n 0, 1) := by decide +kernel
theorem dX10_calls_31 : decode cX10_calls 31 = .ok (.getfield 51, 3) := by decide +kernel
theorem dX10_calls_34 : decode cX10_calls 34 = .ok (.bipush 16, 2) := by decide +kernel
theorem dX10_calls_36 : decode cX10_calls 36 = .ok (.aload_n 0, 1) := by decide +kernel
theorem dX10_calls_37 : decode cX10_calls 37 = .ok (.getfield 235, 3) := by decide +kernel
theorem dX10_calls_40 : decode cX10_calls 40 = .ok (.iconst 1, 1) := by decide +kernel
theorem dX10_calls_41 : decode cX10_calls 41 = .ok (.iadd, 1) := by decide +kernel
theorem dX10_calls_42 : decode cX10_calls 42 = .ok (.imul, 1) := by decide +kernel
theorem dX10_calls_43 : decode cX10_calls 43 = .ok (.iload_n 2, 1) := by decide +kernel
theorem dX10_calls_44 : decode cX10_calls 44 = .ok (.iadd, 1) := by decide +kernel
theorem dX10_calls_45 : decode cX10_calls 45 = .ok (.aload_n 0, 1) := by decide +kernel
theorem dX10_calls_46 : decode cX10_calls 46 = .ok (.getfield 51, 3) := by decide +kernel
theorem dX10_calls_49 : decode cX10_calls 49 = .ok (.bipush 16, 2) := by decide +kernel
theorem dX10_calls_51 : decode cX10_calls 51 = .ok (.aload_n 0, 1) := by decide +kernel
theorem dX10_calls_52 : decode cX10_calls 52 = .ok (.getfield 235, 3) := by decide +kernel
theorem dX10_calls_55 : decode cX10_calls 55 = .ok (.imul, 1) := by decide +kernel
theorem dX10_calls_56 : decode cX10_calls 56 = .ok (.bipush 8, 2) := by decide +kernel
theorem dX10_calls_58 : decode cX10_calls 58 = .ok (.iadd, 1) := by decide +kernel
theorem dX10_calls_59 : decode cX10_calls 59 = .ok (.aload_n 0, 1) := by decide +kernel
theorem dX10_calls_60 : decode cX10_calls 60 = .ok (.getfield 54, 3) := by decide +kernel
theorem dX10_calls_63 : decode cX10_calls 63 = .ok (.aload_n 0, 1) := by decide +kernel
theorem dX10_calls_64 : decode cX10_calls 64 = .ok (.getfield 235, 3) := by decide +kernel
theorem dX10_calls_67 : decode cX10_calls 67 = .ok (.iaload, 1) := by decide +kernel
theorem dX10_calls_68 : decode cX10_calls 68 = .ok (.iadd, 1) := by decide +kernel
theorem dX10_calls_69 : decode cX10_calls 69 = .ok (.iload_n 2, 1) := by decide +kernel
theorem dX10_calls_70 : decode cX10_calls 70 = .ok (.iadd, 1) := by decide +kernel
theorem dX10_calls_71 : decode cX10_calls 71 = .ok (.laload, 1) := by decide +kernel
theorem dX10_calls_72 : decode cX10_calls 72 = .ok (.lastore, 1) := by decide +kernel
theorem dX10_calls_73 : decode cX10_calls 73 = .ok (.iinc 2 1, 3) := by decide +kernel
theorem dX10_calls_76 : decode cX10_calls 76 = .ok (.goto (-56), 3) := by decide +kernel
theorem dX10_calls_79 : decode cX10_calls 79 = .ok (.aload_n 0, 1) := by decide +kernel
theorem dX10_calls_80 : decode cX10_calls 80 = .ok (.dup, 1) := by decide +kernel
theorem dX10_calls_81 : decode cX10_calls 81 = .ok (.getfield 235, 3) := by decide +kernel
theorem dX10_calls_84 : decode cX10_calls 84 = .ok (.iconst 1, 1) := by decide +kernel
theorem dX10_calls_85 : decode cX10_calls 85 = .ok (.iadd, 1) := by decide +kernel
theorem dX10_calls_86 : decode cX10_calls 86 = .ok (.putfield 235, 3) := by decide +kernel
theorem dX10_calls_89 : decode cX10_calls 89 = .ok (.aload_n 0, 1) := by decide +kernel
theorem dX10_calls_90 : decode cX10_calls 90 = .ok (.getfield 57, 3) := by decide +kernel
theorem dX10_calls_93 : decode cX10_calls 93 = .ok (.aload_n 0, 1) := by decide +kernel
theorem dX10_calls_94 : decode cX10_calls 94 = .ok (.getfield 235, 3) := by decide +kernel
theorem dX10_calls_97 : decode cX10_calls 97 = .ok (.iload_n 1, 1) := by decide +kernel
theorem dX10_calls_98 : decode cX10_calls 98 = .ok (.iastore, 1) := by decide +kernel
theorem dX10_calls_99 : decode cX10_calls 99 = .ok (.aload_n 0, 1) := by decide +kernel
theorem dX10_calls_100 : decode cX10_calls 100 = .ok (.getfield 60, 3) := by decide +kernel
theorem dX10_calls_103 : decode cX10_calls 103 = .ok (.aload_n 0, 1) := by decide +kernel
theorem dX10_calls_104 : decode cX10_calls 104 = .ok (.getfield 235, 3) := by decide +kernel
theorem dX10_calls_107 : decode cX10_calls 107 = .ok (.iconst 0, 1) := by decide +kernel
theorem dX10_calls_108 : decode cX10_calls 108 = .ok (.iastore, 1) := by decide +kernel
theorem dX10_calls_109 : decode cX10_calls 109 = .ok (.aload_n 0, 1) := by decide +kernel
theorem dX10_calls_110 : decode cX10_calls 110 = .ok (.getfield 54, 3) := by decide +kernel
theorem dX10_calls_113 : decode cX10_calls 113 = .ok (.aload_n 0, 1) := by decide +kernel
theorem dX10_calls_114 : decode cX10_calls 114 = .ok (.getfield 235, 3) := by decide +kernel
theorem dX10_calls_117 : decode cX10_calls 117 = .ok (.iconst 0, 1) := by decide +kernel
theorem dX10_calls_118 : decode cX10_calls 118 = .ok (.iastore, 1) := by decide +kernel
theorem dX10_calls_119 : decode cX10_calls 119 = .ok (.return_, 1) := by decide +kernel
theorem dX10_answer_0 : decode cX10_answer 0 = .ok (.aload_n 0, 1) := by decide +kernel
theorem dX10_answer_1 : decode cX10_answer 1 = .ok (.getfield 263, 3) := by decide +kernel
theorem dX10_answer_4 : decode cX10_answer 4 = .ok (.ireturn, 1) := by decide +kernel
theorem dX10_told_0 : decode cX10_told 0 = .ok (.iload_n 1, 1) := by decide +kernel
theorem dX10_told_1 : decode cX10_told 1 = .ok (.tableswitch 84 0 4 #[35, 40, 45, 50, 67], 35) := by decide +kernel
theorem dX10_told_36 : decode cX10_told 36 = .ok (.aload_n 0, 1) := by decide +kernel
theorem dX10_told_37 : decode cX10_told 37 = .ok (.getfield 251, 3) := by decide +kernel
theorem dX10_told_40 : decode cX10_told 40 = .ok (.ireturn, 1) := by decide +kernel
theorem dX10_told_41 : decode cX10_told 41 = .ok (.aload_n 0, 1) := by decide +kernel
theorem dX10_told_42 : decode cX10_told 42 = .ok (.getfield 254, 3) := by decide +kernel
theorem dX10_told_45 : decode cX10_told 45 = .ok (.ireturn, 1) := by decide +kernel
theorem dX10_told_46 : decode cX10_told 46 = .ok (.aload_n 0, 1) := by decide +kernel
theorem dX10_told_47 : decode cX10_told 47 = .ok (.getfield 248, 3) := by decide +kernel
theorem dX10_told_50 : decode cX10_told 50 = .ok (.ireturn, 1) := by decide +kernel
theorem dX10_told_51 : decode cX10_told 51 = .ok (.aload_n 0, 1) := by decide +kernel
theorem dX10_told_52 : decode cX10_told 52 = .ok (.getfield 245, 3) := by decide +kernel
theorem dX10_told_55 : decode cX10_told 55 = .ok (.ifCond .eq 10, 3) := by decide +kernel
theorem dX10_told_58 : decode cX10_told 58 = .ok (.aload_n 0, 1) := by decide +kernel
theorem dX10_told_59 : decode cX10_told 59 = .ok (.getfield 257, 3) := by decide +kernel
theorem dX10_told_62 : decode cX10_told 62 = .ok (.goto 5, 3) := by decide +kernel
theorem dX10_told_65 : decode cX10_told 65 = .ok (.ldc 234, 2) := by decide +kernel
theorem dX10_told_67 : decode cX10_told 67 = .ok (.ireturn, 1) := by decide +kernel
theorem dX10_told_68 : decode cX10_told 68 = .ok (.aload_n 0, 1) := by decide +kernel
theorem dX10_told_69 : decode cX10_told 69 = .ok (.getfield 245, 3) := by decide +kernel
theorem dX10_told_72 : decode cX10_told 72 = .ok (.ifCond .eq 10, 3) := by decide +kernel
theorem dX10_told_75 : decode cX10_told 75 = .ok (.aload_n 0, 1) := by decide +kernel
theorem dX10_told_76 : decode cX10_told 76 = .ok (.getfield 260, 3) := by decide +kernel
theorem dX10_told_79 : decode cX10_told 79 = .ok (.goto 5, 3) := by decide +kernel
theorem dX10_told_82 : decode cX10_told 82 = .ok (.ldc 234, 2) := by decide +kernel
theorem dX10_told_84 : decode cX10_told 84 = .ok (.ireturn, 1) := by decide +kernel
theorem dX10_told_85 : decode cX10_told 85 = .ok (.iconst (-1), 1) := by decide +kernel
theorem dX10_told_86 : decode cX10_told 86 = .ok (.ireturn, 1) := by decide +kernel
theorem dX10_count_0 : decode cX10_count 0 = .ok (.iload_n 1, 1) := by decide +kernel
theorem dX10_count_1 : decode cX10_count 1 = .ok (.ifCond .ne 8, 3) := by decide +kernel
theorem dX10_count_4 : decode cX10_count 4 = .ok (.aload_n 0, 1) := by decide +kernel
theorem dX10_count_5 : decode cX10_count 5 = .ok (.getfield 75, 3) := by decide +kernel
theorem dX10_count_8 : decode cX10_count 8 = .ok (.ireturn, 1) := by decide +kernel
theorem dX10_count_9 : decode cX10_count 9 = .ok (.iload_n 1, 1) := by decide +kernel
theorem dX10_count_10 : decode cX10_count 10 = .ok (.i2l, 1) := by decide +kernel
theorem dX10_count_11 : decode cX10_count 11 = .ok (.lconst 1, 1) := by decide +kernel
theorem dX10_count_12 : decode cX10_count 12 = .ok (.ldc2_w 278, 3) := by decide +kernel
theorem dX10_count_15 : decode cX10_count 15 = .ok (.invokestatic 79, 3) := by decide +kernel
theorem dX10_count_18 : decode cX10_count 18 = .ok (.ifCond .eq 11, 3) := by decide +kernel
theorem dX10_count_21 : decode cX10_count 21 = .ok (.aload_n 0, 1) := by decide +kernel
theorem dX10_count_22 : decode cX10_count 22 = .ok (.iload_n 2, 1) := by decide +kernel
theorem dX10_count_23 : decode cX10_count 23 = .ok (.invokevirtual 130, 3) := by decide +kernel
theorem dX10_count_26 : decode cX10_count 26 = .ok (.ifCond .ne 5, 3) := by decide +kernel
theorem dX10_count_29 : decode cX10_count 29 = .ok (.iconst (-1), 1) := by decide +kernel
theorem dX10_count_30 : decode cX10_count 30 = .ok (.ireturn, 1) := by decide +kernel
theorem dX10_count_31 : decode cX10_count 31 = .ok (.iload_n 1, 1) := by decide +kernel
theorem dX10_count_32 : decode cX10_count 32 = .ok (.iconst 1, 1) := by decide +kernel
theorem dX10_count_33 : decode cX10_count 33 = .ok (.if_icmp .ne 12, 3) := by decide +kernel
theorem dX10_count_36 : decode cX10_count 36 = .ok (.aload_n 0, 1) := by decide +kernel
theorem dX10_count_37 : decode cX10_count 37 = .ok (.getfield 13, 3) := by decide +kernel
theorem dX10_count_40 : decode cX10_count 40 = .ok (.iload_n 2, 1) := by decide +kernel
theorem dX10_count_41 : decode cX10_count 41 = .ok (.iaload, 1) := by decide +kernel
theorem dX10_count_42 : decode cX10_count 42 = .ok (.goto 31, 3) := by decide +kernel
theorem dX10_count_45 : decode cX10_count 45 = .ok (.iload_n 1, 1) := by decide +kernel
theorem dX10_count_46 : decode cX10_count 46 = .ok (.iconst 2, 1) := by decide +kernel
theorem dX10_count_47 : decode cX10_count 47 = .ok (.if_icmp .ne 12, 3) := by decide +kernel
theorem dX10_count_50 : decode cX10_count 50 = .ok (.aload_n 0, 1) := by decide +kernel
theorem dX10_count_51 : decode cX10_count 51 = .ok (.getfield 23, 3) := by decide +kernel
theorem dX10_count_54 : decode cX10_count 54 = .ok (.iload_n 2, 1) := by decide +kernel
theorem dX10_count_55 : decode cX10_count 55 = .ok (.iaload, 1) := by decide +kernel
theorem dX10_count_56 : decode cX10_count 56 = .ok (.goto 17, 3) := by decide +kernel
theorem dX10_count_59 : decode cX10_count 59 = .ok (.aload_n 0, 1) := by decide +kernel
theorem dX10_count_60 : decode cX10_count 60 = .ok (.getfield 35, 3) := by decide +kernel
theorem dX10_count_63 : decode cX10_count 63 = .ok (.iload_n 2, 1) := by decide +kernel
theorem dX10_count_64 : decode cX10_count 64 = .ok (.baload, 1) := by decide +kernel
theorem dX10_count_65 : decode cX10_count 65 = .ok (.ifCond .eq 7, 3) := by decide +kernel
theorem dX10_count_68 : decode cX10_count 68 = .ok (.iconst 1, 1) := by decide +kernel
theorem dX10_count_69 : decode cX10_count 69 = .ok (.goto 4, 3) := by decide +kernel
theorem dX10_count_72 : decode cX10_count 72 = .ok (.iconst 0, 1) := by decide +kernel
theorem dX10_count_73 : decode cX10_count 73 = .ok (.ireturn, 1) := by decide +kernel
