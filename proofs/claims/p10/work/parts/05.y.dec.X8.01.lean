theorem dX8_finishes_62 : decode cX8_finishes 62 = .ok (.lload_n 2, 1) := by decide +kernel
theorem dX8_finishes_63 : decode cX8_finishes 63 = .ok (.lcmp, 1) := by decide +kernel
theorem dX8_finishes_64 : decode cX8_finishes 64 = .ok (.ifCond .eq 5, 3) := by decide +kernel
theorem dX8_finishes_67 : decode cX8_finishes 67 = .ok (.iconst 0, 1) := by decide +kernel
theorem dX8_finishes_68 : decode cX8_finishes 68 = .ok (.ireturn, 1) := by decide +kernel
theorem dX8_finishes_69 : decode cX8_finishes 69 = .ok (.aload_n 0, 1) := by decide +kernel
theorem dX8_finishes_70 : decode cX8_finishes 70 = .ok (.getfield 10, 3) := by decide +kernel
theorem dX8_finishes_73 : decode cX8_finishes 73 = .ok (.iload 4, 2) := by decide +kernel
theorem dX8_finishes_75 : decode cX8_finishes 75 = .ok (.bipush 10, 2) := by decide +kernel
theorem dX8_finishes_77 : decode cX8_finishes 77 = .ok (.lload_n 2, 1) := by decide +kernel
theorem dX8_finishes_78 : decode cX8_finishes 78 = .ok (.l2i, 1) := by decide +kernel
theorem dX8_finishes_79 : decode cX8_finishes 79 = .ok (.iadd, 1) := by decide +kernel
theorem dX8_finishes_80 : decode cX8_finishes 80 = .ok (.invokevirtual 124, 3) := by decide +kernel
theorem dX8_finishes_83 : decode cX8_finishes 83 = .ok (.iconst 1, 1) := by decide +kernel
theorem dX8_finishes_84 : decode cX8_finishes 84 = .ok (.ireturn, 1) := by decide +kernel
theorem dX8_usesArray_0 : decode cX8_usesArray 0 = .ok (.iload_n 1, 1) := by decide +kernel
theorem dX8_usesArray_1 : decode cX8_usesArray 1 = .ok (.tableswitch 253 14 19 #[39, 67, 106, 144, 183, 222], 39) := by decide +kernel
theorem dX8_usesArray_40 : decode cX8_usesArray 40 = .ok (.aload_n 0, 1) := by decide +kernel
theorem dX8_usesArray_41 : decode cX8_usesArray 41 = .ok (.getfield 10, 3) := by decide +kernel
theorem dX8_usesArray_44 : decode cX8_usesArray 44 = .ok (.iconst 1, 1) := by decide +kernel
theorem dX8_usesArray_45 : decode cX8_usesArray 45 = .ok (.invokevirtual 115, 3) := by decide +kernel
theorem dX8_usesArray_48 : decode cX8_usesArray 48 = .ok (.ifCond .eq 18, 3) := by decide +kernel
theorem dX8_usesArray_51 : decode cX8_usesArray 51 = .ok (.aload_n 0, 1) := by decide +kernel
theorem dX8_usesArray_52 : decode cX8_usesArray 52 = .ok (.getfield 10, 3) := by decide +kernel
theorem dX8_usesArray_55 : decode cX8_usesArray 55 = .ok (.iconst 5, 1) := by decide +kernel
theorem dX8_usesArray_56 : decode cX8_usesArray 56 = .ok (.invokevirtual 74, 3) := by decide +kernel
theorem dX8_usesArray_59 : decode cX8_usesArray 59 = .ok (.ifCond .eq 7, 3) := by decide +kernel
theorem dX8_usesArray_62 : decode cX8_usesArray 62 = .ok (.iconst 1, 1) := by decide +kernel
theorem dX8_usesArray_63 : decode cX8_usesArray 63 = .ok (.goto 4, 3) := by decide +kernel
theorem dX8_usesArray_66 : decode cX8_usesArray 66 = .ok (.iconst 0, 1) := by decide +kernel
theorem dX8_usesArray_67 : decode cX8_usesArray 67 = .ok (.ireturn, 1) := by decide +kernel
theorem dX8_usesArray_68 : decode cX8_usesArray 68 = .ok (.lload_n 2, 1) := by decide +kernel
theorem dX8_usesArray_69 : decode cX8_usesArray 69 = .ok (.invokestatic 118, 3) := by decide +kernel
theorem dX8_usesArray_72 : decode cX8_usesArray 72 = .ok (.ifCond .eq 33, 3) := by decide +kernel
theorem dX8_usesArray_75 : decode cX8_usesArray 75 = .ok (.aload_n 0, 1) := by decide +kernel
theorem dX8_usesArray_76 : decode cX8_usesArray 76 = .ok (.getfield 10, 3) := by decide +kernel
theorem dX8_usesArray_79 : decode cX8_usesArray 79 = .ok (.iconst 1, 1) := by decide +kernel
theorem dX8_usesArray_80 : decode cX8_usesArray 80 = .ok (.invokevirtual 115, 3) := by decide +kernel
theorem dX8_usesArray_83 : decode cX8_usesArray 83 = .ok (.ifCond .eq 22, 3) := by decide +kernel
theorem dX8_usesArray_86 : decode cX8_usesArray 86 = .ok (.aload_n 0, 1) := by decide +kernel
theorem dX8_usesArray_87 : decode cX8_usesArray 87 = .ok (.getfield 10, 3) := by decide +kernel
theorem dX8_usesArray_90 : decode cX8_usesArray 90 = .ok (.bipush 20, 2) := by decide +kernel
theorem dX8_usesArray_92 : decode cX8_usesArray 92 = .ok (.lload_n 2, 1) := by decide +kernel
theorem dX8_usesArray_93 : decode cX8_usesArray 93 = .ok (.l2i, 1) := by decide +kernel
theorem dX8_usesArray_94 : decode cX8_usesArray 94 = .ok (.iadd, 1) := by decide +kernel
theorem dX8_usesArray_95 : decode cX8_usesArray 95 = .ok (.invokevirtual 74, 3) := by decide +kernel
theorem dX8_usesArray_98 : decode cX8_usesArray 98 = .ok (.ifCond .eq 7, 3) := by decide +kernel
theorem dX8_usesArray_101 : decode cX8_usesArray 101 = .ok (.iconst 1, 1) := by decide +kernel
theorem dX8_usesArray_102 : decode cX8_usesArray 102 = .ok (.goto 4, 3) := by decide +kernel
theorem dX8_usesArray_105 : decode cX8_usesArray 105 = .ok (.iconst 0, 1) := by decide +kernel
theorem dX8_usesArray_106 : decode cX8_usesArray 106 = .ok (.ireturn, 1) := by decide +kernel
theorem dX8_usesArray_107 : decode cX8_usesArray 107 = .ok (.aload_n 0, 1) := by decide +kernel
theorem dX8_usesArray_108 : decode cX8_usesArray 108 = .ok (.getfield 10, 3) := by decide +kernel
theorem dX8_usesArray_111 : decode cX8_usesArray 111 = .ok (.iconst 5, 1) := by decide +kernel
theorem dX8_usesArray_112 : decode cX8_usesArray 112 = .ok (.invokevirtual 115, 3) := by decide +kernel
theorem dX8_usesArray_115 : decode cX8_usesArray 115 = .ok (.ifCond .ne 13, 3) := by decide +kernel
theorem dX8_usesArray_118 : decode cX8_usesArray 118 = .ok (.aload_n 0, 1) := by decide +kernel
theorem dX8_usesArray_119 : decode cX8_usesArray 119 = .ok (.getfield 10, 3) := by decide +kernel
theorem dX8_usesArray_122 : decode cX8_usesArray 122 = .ok (.invokevirtual 130, 3) := by decide +kernel
theorem dX8_usesArray_125 : decode cX8_usesArray 125 = .ok (.ifCond .eq 18, 3) := by decide +kernel
theorem dX8_usesArray_128 : decode cX8_usesArray 128 = .ok (.aload_n 0, 1) := by decide +kernel
theorem dX8_usesArray_129 : decode cX8_usesArray 129 = .ok (.getfield 10, 3) := by decide +kernel
theorem dX8_usesArray_132 : decode cX8_usesArray 132 = .ok (.iconst 1, 1) := by decide +kernel
theorem dX8_usesArray_133 : decode cX8_usesArray 133 = .ok (.invokevirtual 74, 3) := by decide +kernel
theorem dX8_usesArray_136 : decode cX8_usesArray 136 = .ok (.ifCond .eq 7, 3) := by decide +kernel
theorem dX8_usesArray_139 : decode cX8_usesArray 139 = .ok (.iconst 1, 1) := by decide +kernel
theorem dX8_usesArray_140 : decode cX8_usesArray 140 = .ok (.goto 4, 3) := by decide +kernel
theorem dX8_usesArray_143 : decode cX8_usesArray 143 = .ok (.iconst 0, 1) := by decide +kernel
theorem dX8_usesArray_144 : decode cX8_usesArray 144 = .ok (.ireturn, 1) := by decide +kernel
theorem dX8_usesArray_145 : decode cX8_usesArray 145 = .ok (.aload_n 0, 1) := by decide +kernel
theorem dX8_usesArray_146 : decode cX8_usesArray 146 = .ok (.getfield 10, 3) := by decide +kernel
theorem dX8_usesArray_149 : decode cX8_usesArray 149 = .ok (.iconst 1, 1) := by decide +kernel
theorem dX8_usesArray_150 : decode cX8_usesArray 150 = .ok (.invokevirtual 115, 3) := by decide +kernel
theorem dX8_usesArray_153 : decode cX8_usesArray 153 = .ok (.ifCond .eq 29, 3) := by decide +kernel
theorem dX8_usesArray_156 : decode cX8_usesArray 156 = .ok (.aload_n 0, 1) := by decide +kernel
theorem dX8_usesArray_157 : decode cX8_usesArray 157 = .ok (.getfield 10, 3) := by decide +kernel
theorem dX8_usesArray_160 : decode cX8_usesArray 160 = .ok (.iconst 5, 1) := by decide +kernel
theorem dX8_usesArray_161 : decode cX8_usesArray 161 = .ok (.invokevirtual 115, 3) := by decide +kernel
theorem dX8_usesArray_164 : decode cX8_usesArray 164 = .ok (.ifCond .eq 18, 3) := by decide +kernel
theorem dX8_usesArray_167 : decode cX8_usesArray 167 = .ok (.aload_n 0, 1) := by decide +kernel
theorem dX8_usesArray_168 : decode cX8_usesArray 168 = .ok (.getfield 10, 3) := by decide +kernel
theorem dX8_usesArray_171 : decode cX8_usesArray 171 = .ok (.iconst 1, 1) := by decide +kernel
theorem dX8_usesArray_172 : decode cX8_usesArray 172 = .ok (.invokevirtual 74, 3) := by decide +kernel
theorem dX8_usesArray_175 : decode cX8_usesArray 175 = .ok (.ifCond .eq 7, 3) := by decide +kernel
theorem dX8_usesArray_178 : decode cX8_usesArray 178 = .ok (.iconst 1, 1) := by decide +kernel
theorem dX8_usesArray_179 : decode cX8_usesArray 179 = .ok (.goto 4, 3) := by decide +kernel
theorem dX8_usesArray_182 : decode cX8_usesArray 182 = .ok (.iconst 0, 1) := by decide +kernel
theorem dX8_usesArray_183 : decode cX8_usesArray 183 = .ok (.ireturn, 1) := by decide +kernel
theorem dX8_usesArray_184 : decode cX8_usesArray 184 = .ok (.aload_n 0, 1) := by decide +kernel
theorem dX8_usesArray_185 : decode cX8_usesArray 185 = .ok (.getfield 10, 3) := by decide +kernel
theorem dX8_usesArray_188 : decode cX8_usesArray 188 = .ok (.iconst 1, 1) := by decide +kernel
theorem dX8_usesArray_189 : decode cX8_usesArray 189 = .ok (.invokevirtual 115, 3) := by decide +kernel
theorem dX8_usesArray_192 : decode cX8_usesArray 192 = .ok (.ifCond .eq 29, 3) := by decide +kernel
theorem dX8_usesArray_195 : decode cX8_usesArray 195 = .ok (.aload_n 0, 1) := by decide +kernel
theorem dX8_usesArray_196 : decode cX8_usesArray 196 = .ok (.getfield 10, 3) := by decide +kernel
theorem dX8_usesArray_199 : decode cX8_usesArray 199 = .ok (.iconst 1, 1) := by decide +kernel
theorem dX8_usesArray_200 : decode cX8_usesArray 200 = .ok (.invokevirtual 115, 3) := by decide +kernel
theorem dX8_usesArray_203 : decode cX8_usesArray 203 = .ok (.ifCond .eq 18, 3) := by decide +kernel
theorem dX8_usesArray_206 : decode cX8_usesArray 206 = .ok (.aload_n 0, 1) := by decide +kernel
theorem dX8_usesArray_207 : decode cX8_usesArray 207 = .ok (.getfield 10, 3) := by decide +kernel
theorem dX8_usesArray_210 : decode cX8_usesArray 210 = .ok (.iconst 5, 1) := by decide +kernel
theorem dX8_usesArray_211 : decode cX8_usesArray 211 = .ok (.invokevirtual 115, 3) := by decide +kernel
theorem dX8_usesArray_214 : decode cX8_usesArray 214 = .ok (.ifCond .eq 7, 3) := by decide +kernel
theorem dX8_usesArray_217 : decode cX8_usesArray 217 = .ok (.iconst 1, 1) := by decide +kernel
theorem dX8_usesArray_218 : decode cX8_usesArray 218 = .ok (.goto 4, 3) := by decide +kernel
theorem dX8_usesArray_221 : decode cX8_usesArray 221 = .ok (.iconst 0, 1) := by decide +kernel
theorem dX8_usesArray_222 : decode cX8_usesArray 222 = .ok (.ireturn, 1) := by decide +kernel
theorem dX8_usesArray_223 : decode cX8_usesArray 223 = .ok (.aload_n 0, 1) := by decide +kernel
theorem dX8_usesArray_224 : decode cX8_usesArray 224 = .ok (.getfield 10, 3) := by decide +kernel
theorem dX8_usesArray_227 : decode cX8_usesArray 227 = .ok (.iconst 1, 1) := by decide +kernel
theorem dX8_usesArray_228 : decode cX8_usesArray 228 = .ok (.invokevirtual 115, 3) := by decide +kernel
theorem dX8_usesArray_231 : decode cX8_usesArray 231 = .ok (.ifCond .eq 21, 3) := by decide +kernel
theorem dX8_usesArray_234 : decode cX8_usesArray 234 = .ok (.aload_n 0, 1) := by decide +kernel
theorem dX8_usesArray_235 : decode cX8_usesArray 235 = .ok (.aload_n 0, 1) := by decide +kernel
theorem dX8_usesArray_236 : decode cX8_usesArray 236 = .ok (.getfield 10, 3) := by decide +kernel
theorem dX8_usesArray_239 : decode cX8_usesArray 239 = .ok (.invokevirtual 130, 3) := by decide +kernel
theorem dX8_usesArray_242 : decode cX8_usesArray 242 = .ok (.invokevirtual 133, 3) := by decide +kernel
theorem dX8_usesArray_245 : decode cX8_usesArray 245 = .ok (.ifCond .eq 7, 3) := by decide +kernel
theorem dX8_usesArray_248 : decode cX8_usesArray 248 = .ok (.iconst 1, 1) := by decide +kernel
theorem dX8_usesArray_249 : decode cX8_usesArray 249 = .ok (.goto 4, 3) := by decide +kernel
theorem dX8_usesArray_252 : decode cX8_usesArray 252 = .ok (.iconst 0, 1) := by decide +kernel
theorem dX8_usesArray_253 : decode cX8_usesArray 253 = .ok (.ireturn, 1) := by decide +kernel
theorem dX8_usesArray_254 : decode cX8_usesArray 254 = .ok (.aload_n 0, 1) := by decide +kernel
theorem dX8_usesArray_255 : decode cX8_usesArray 255 = .ok (.getfield 10, 3) := by decide +kernel
theorem dX8_usesArray_258 : decode cX8_usesArray 258 = .ok (.bipush 10, 2) := by decide +kernel
theorem dX8_usesArray_260 : decode cX8_usesArray 260 = .ok (.invokevirtual 115, 3) := by decide +kernel
theorem dX8_usesArray_263 : decode cX8_usesArray 263 = .ok (.ifCond .eq 28, 3) := by decide +kernel
theorem dX8_usesArray_266 : decode cX8_usesArray 266 = .ok (.aload_n 0, 1) := by decide +kernel
theorem dX8_usesArray_267 : decode cX8_usesArray 267 = .ok (.getfield 10, 3) := by decide +kernel
theorem dX8_usesArray_270 : decode cX8_usesArray 270 = .ok (.iconst 1, 1) := by decide +kernel
theorem dX8_usesArray_271 : decode cX8_usesArray 271 = .ok (.invokevirtual 115, 3) := by decide +kernel
theorem dX8_usesArray_274 : decode cX8_usesArray 274 = .ok (.ifCond .eq 17, 3) := by decide +kernel
theorem dX8_usesArray_277 : decode cX8_usesArray 277 = .ok (.aload_n 0, 1) := by decide +kernel
theorem dX8_usesArray_278 : decode cX8_usesArray 278 = .ok (.getfield 10, 3) := by decide +kernel
theorem dX8_usesArray_281 : decode cX8_usesArray 281 = .ok (.invokevirtual 130, 3) := by decide +kernel
theorem dX8_usesArray_284 : decode cX8_usesArray 284 = .ok (.ifCond .eq 7, 3) := by decide +kernel
theorem dX8_usesArray_287 : decode cX8_usesArray 287 = .ok (.iconst 1, 1) := by decide +kernel
theorem dX8_usesArray_288 : decode cX8_usesArray 288 = .ok (.goto 4, 3) := by decide +kernel
theorem dX8_usesArray_291 : decode cX8_usesArray 291 = .ok (.iconst 0, 1) := by decide +kernel
theorem dX8_usesArray_292 : decode cX8_usesArray 292 = .ok (.ireturn, 1) := by decide +kernel
theorem dX8_takes_0 : decode cX8_takes 0 = .ok (.iload_n 1, 1) := by decide +kernel
theorem dX8_takes_1 : decode cX8_takes 1 = .ok (.iconst 4, 1) := by decide +kernel
theorem dX8_takes_2 : decode cX8_takes 2 = .ok (.if_icmp .ne 12, 3) := by decide +kernel
theorem dX8_takes_5 : decode cX8_takes 5 = .ok (.aload_n 0, 1) := by decide +kernel
theorem dX8_takes_6 : decode cX8_takes 6 = .ok (.getfield 10, 3) := by decide +kernel
theorem dX8_takes_9 : decode cX8_takes 9 = .ok (.iconst 4, 1) := by decide +kernel
theorem dX8_takes_10 : decode cX8_takes 10 = .ok (.invokevirtual 74, 3) := by decide +kernel
theorem dX8_takes_13 : decode cX8_takes 13 = .ok (.ireturn, 1) := by decide +kernel
theorem dX8_takes_14 : decode cX8_takes 14 = .ok (.iload_n 1, 1) := by decide +kernel
theorem dX8_takes_15 : decode cX8_takes 15 = .ok (.invokestatic 136, 3) := by decide +kernel
theorem dX8_takes_18 : decode cX8_takes 18 = .ok (.ifCond .eq 24, 3) := by decide +kernel
theorem dX8_takes_21 : decode cX8_takes 21 = .ok (.aload_n 0, 1) := by decide +kernel
theorem dX8_takes_22 : decode cX8_takes 22 = .ok (.getfield 10, 3) := by decide +kernel
theorem dX8_takes_25 : decode cX8_takes 25 = .ok (.iload_n 1, 1) := by decide +kernel
theorem dX8_takes_26 : decode cX8_takes 26 = .ok (.bipush 20, 2) := by decide +kernel
theorem dX8_takes_28 : decode cX8_takes 28 = .ok (.isub, 1) := by decide +kernel
theorem dX8_takes_29 : decode cX8_takes 29 = .ok (.bipush 10, 2) := by decide +kernel
theorem dX8_takes_31 : decode cX8_takes 31 = .ok (.iadd, 1) := by decide +kernel
theorem dX8_takes_32 : decode cX8_takes 32 = .ok (.invokevirtual 74, 3) := by decide +kernel
theorem dX8_takes_35 : decode cX8_takes 35 = .ok (.ifCond .eq 7, 3) := by decide +kernel
theorem dX8_takes_38 : decode cX8_takes 38 = .ok (.iconst 1, 1) := by decide +kernel
theorem dX8_takes_39 : decode cX8_takes 39 = .ok (.goto 4, 3) := by decide +kernel
theorem dX8_takes_42 : decode cX8_takes 42 = .ok (.iconst 0, 1) := by decide +kernel
theorem dX8_takes_43 : decode cX8_takes 43 = .ok (.ireturn, 1) := by decide +kernel
theorem dX8_usesObject_0 : decode cX8_usesObject 0 = .ok (.iload_n 1, 1) := by decide +kernel
theorem dX8_usesObject_1 : decode cX8_usesObject 1 = .ok (.tableswitch 136 21 24 #[31, 71, 136, 107], 31) := by decide +kernel
theorem dX8_usesObject_32 : decode cX8_usesObject 32 = .ok (.lload_n 2, 1) := by decide +kernel
theorem dX8_usesObject_33 : decode cX8_usesObject 33 = .ok (.invokestatic 139, 3) := by decide +kernel
theorem dX8_usesObject_36 : decode cX8_usesObject 36 = .ok (.ifCond .eq 34, 3) := by decide +kernel
theorem dX8_usesObject_39 : decode cX8_usesObject 39 = .ok (.aload_n 0, 1) := by decide +kernel
theorem dX8_usesObject_40 : decode cX8_usesObject 40 = .ok (.getfield 10, 3) := by decide +kernel
theorem dX8_usesObject_43 : decode cX8_usesObject 43 = .ok (.bipush 10, 2) := by decide +kernel
theorem dX8_usesObject_45 : decode cX8_usesObject 45 = .ok (.invokevirtual 115, 3) := by decide +kernel
theorem dX8_usesObject_48 : decode cX8_usesObject 48 = .ok (.ifCond .eq 22, 3) := by decide +kernel
theorem dX8_usesObject_51 : decode cX8_usesObject 51 = .ok (.aload_n 0, 1) := by decide +kernel
theorem dX8_usesObject_52 : decode cX8_usesObject 52 = .ok (.getfield 10, 3) := by decide +kernel
theorem dX8_usesObject_55 : decode cX8_usesObject 55 = .ok (.bipush 10, 2) := by decide +kernel
theorem dX8_usesObject_57 : decode cX8_usesObject 57 = .ok (.lload_n 2, 1) := by decide +kernel
theorem dX8_usesObject_58 : decode cX8_usesObject 58 = .ok (.l2i, 1) := by decide +kernel
theorem dX8_usesObject_59 : decode cX8_usesObject 59 = .ok (.iadd, 1) := by decide +kernel
theorem dX8_usesObject_60 : decode cX8_usesObject 60 = .ok (.invokevirtual 74, 3) := by decide +kernel
theorem dX8_usesObject_63 : decode cX8_usesObject 63 = .ok (.ifCond .eq 7, 3) := by decide +kernel
theorem dX8_usesObject_66 : decode cX8_usesObject 66 = .ok (.iconst 1, 1) := by decide +kernel
theorem dX8_usesObject_67 : decode cX8_usesObject 67 = .ok (.goto 4, 3) := by decide +kernel
theorem dX8_usesObject_70 : decode cX8_usesObject 70 = .ok (.iconst 0, 1) := by decide +kernel
theorem dX8_usesObject_71 : decode cX8_usesObject 71 = .ok (.ireturn, 1) := by decide +kernel
theorem dX8_usesObject_72 : decode cX8_usesObject 72 = .ok (.lload_n 2, 1) := by decide +kernel
theorem dX8_usesObject_73 : decode cX8_usesObject 73 = .ok (.invokestatic 139, 3) := by decide +kernel
theorem dX8_usesObject_76 : decode cX8_usesObject 76 = .ok (.ifCond .eq 30, 3) := by decide +kernel
theorem dX8_usesObject_79 : decode cX8_usesObject 79 = .ok (.aload_n 0, 1) := by decide +kernel
theorem dX8_usesObject_80 : decode cX8_usesObject 80 = .ok (.getfield 10, 3) := by decide +kernel
theorem dX8_usesObject_83 : decode cX8_usesObject 83 = .ok (.bipush 10, 2) := by decide +kernel
theorem dX8_usesObject_85 : decode cX8_usesObject 85 = .ok (.invokevirtual 115, 3) := by decide +kernel
theorem dX8_usesObject_88 : decode cX8_usesObject 88 = .ok (.ifCond .eq 18, 3) := by decide +kernel
theorem dX8_usesObject_91 : decode cX8_usesObject 91 = .ok (.aload_n 0, 1) := by decide +kernel
theorem dX8_usesObject_92 : decode cX8_usesObject 92 = .ok (.getfield 10, 3) := by decide +kernel
theorem dX8_usesObject_95 : decode cX8_usesObject 95 = .ok (.iconst 1, 1) := by decide +kernel
theorem dX8_usesObject_96 : decode cX8_usesObject 96 = .ok (.invokevirtual 74, 3) := by decide +kernel
theorem dX8_usesObject_99 : decode cX8_usesObject 99 = .ok (.ifCond .eq 7, 3) := by decide +kernel
theorem dX8_usesObject_102 : decode cX8_usesObject 102 = .ok (.iconst 1, 1) := by decide +kernel
theorem dX8_usesObject_103 : decode cX8_usesObject 103 = .ok (.goto 4, 3) := by decide +kernel
theorem dX8_usesObject_106 : decode cX8_usesObject 106 = .ok (.iconst 0, 1) := by decide +kernel
theorem dX8_usesObject_107 : decode cX8_usesObject 107 = .ok (.ireturn, 1) := by decide +kernel
theorem dX8_usesObject_108 : decode cX8_usesObject 108 = .ok (.aload_n 0, 1) := by decide +kernel
theorem dX8_usesObject_109 : decode cX8_usesObject 109 = .ok (.getfield 10, 3) := by decide +kernel
theorem dX8_usesObject_112 : decode cX8_usesObject 112 = .ok (.iconst 1, 1) := by decide +kernel
theorem dX8_usesObject_113 : decode cX8_usesObject 113 = .ok (.invokevirtual 115, 3) := by decide +kernel
theorem dX8_usesObject_116 : decode cX8_usesObject 116 = .ok (.ifCond .eq 19, 3) := by decide +kernel
theorem dX8_usesObject_119 : decode cX8_usesObject 119 = .ok (.aload_n 0, 1) := by decide +kernel
theorem dX8_usesObject_120 : decode cX8_usesObject 120 = .ok (.getfield 10, 3) := by decide +kernel
theorem dX8_usesObject_123 : decode cX8_usesObject 123 = .ok (.bipush 11, 2) := by decide +kernel
theorem dX8_usesObject_125 : decode cX8_usesObject 125 = .ok (.invokevirtual 115, 3) := by decide +kernel
theorem dX8_usesObject_128 : decode cX8_usesObject 128 = .ok (.ifCond .eq 7, 3) := by decide +kernel
theorem dX8_usesObject_131 : decode cX8_usesObject 131 = .ok (.iconst 1, 1) := by decide +kernel
theorem dX8_usesObject_132 : decode cX8_usesObject 132 = .ok (.goto 4, 3) := by decide +kernel
theorem dX8_usesObject_135 : decode cX8_usesObject 135 = .ok (.iconst 0, 1) := by decide +kernel
theorem dX8_usesObject_136 : decode cX8_usesObject 136 = .ok (.ireturn, 1) := by decide +kernel
theorem dX8_usesObject_137 : decode cX8_usesObject 137 = .ok (.aload_n 0, 1) := by decide +kernel
theorem dX8_usesObject_138 : decode cX8_usesObject 138 = .ok (.getfield 10, 3) := by decide +kernel
theorem dX8_usesObject_141 : decode cX8_usesObject 141 = .ok (.bipush 11, 2) := by decide +kernel
theorem dX8_usesObject_143 : decode cX8_usesObject 143 = .ok (.invokevirtual 115, 3) := by decide +kernel
theorem dX8_usesObject_146 : decode cX8_usesObject 146 = .ok (.ifCond .eq 18, 3) := by decide +kernel
theorem dX8_usesObject_149 : decode cX8_usesObject 149 = .ok (.aload_n 0, 1) := by decide +kernel
theorem dX8_usesObject_150 : decode cX8_usesObject 150 = .ok (.getfield 10, 3) := by decide +kernel
theorem dX8_usesObject_153 : decode cX8_usesObject 153 = .ok (.iconst 1, 1) := by decide +kernel
theorem dX8_usesObject_154 : decode cX8_usesObject 154 = .ok (.invokevirtual 74, 3) := by decide +kernel
theorem dX8_usesObject_157 : decode cX8_usesObject 157 = .ok (.ifCond .eq 7, 3) := by decide +kernel
theorem dX8_usesObject_160 : decode cX8_usesObject 160 = .ok (.iconst 1, 1) := by decide +kernel
theorem dX8_usesObject_161 : decode cX8_usesObject 161 = .ok (.goto 4, 3) := by decide +kernel
theorem dX8_usesObject_164 : decode cX8_usesObject 164 = .ok (.iconst 0, 1) := by decide +kernel
theorem dX8_usesObject_165 : decode cX8_usesObject 165 = .ok (.ireturn, 1) := by decide +kernel
theorem dX8_turns_0 : decode cX8_turns 0 = .ok (.aload_n 0, 1) := by decide +kernel
theorem dX8_turns_1 : decode cX8_turns 1 = .ok (.getfield 10, 3) := by decide +kernel
theorem dX8_turns_4 : decode cX8_turns 4 = .ok (.invokevirtual 98, 3) := by decide +kernel
theorem dX8_turns_7 : decode cX8_turns 7 = .ok (.istore_n 2, 1) := by decide +kernel
theorem dX8_turns_8 : decode cX8_turns 8 = .ok (.iload_n 2, 1) := by decide +kernel
theorem dX8_turns_9 : decode cX8_turns 9 = .ok (.ifCond .eq 9, 3) := by decide +kernel
theorem dX8_turns_12 : decode cX8_turns 12 = .ok (.iload_n 1, 1) := by decide +kernel
theorem dX8_turns_13 : decode cX8_turns 13 = .ok (.bipush 27, 2) := by decide +kernel
theorem dX8_turns_15 : decode cX8_turns 15 = .ok (.if_icmp .ne 13, 3) := by decide +kernel
theorem dX8_turns_18 : decode cX8_turns 18 = .ok (.iload_n 2, 1) := by decide +kernel
theorem dX8_turns_19 : decode cX8_turns 19 = .ok (.ifCond .eq 7, 3) := by decide +kernel
theorem dX8_turns_22 : decode cX8_turns 22 = .ok (.iconst 1, 1) := by decide +kernel
theorem dX8_turns_23 : decode cX8_turns 23 = .ok (.goto 4, 3) := by decide +kernel
theorem dX8_turns_26 : decode cX8_turns 26 = .ok (.iconst 0, 1) := by decide +kernel
theorem dX8_turns_27 : decode cX8_turns 27 = .ok (.ireturn, 1) := by decide +kernel
theorem dX8_turns_28 : decode cX8_turns 28 = .ok (.iload_n 1, 1) := by decide +kernel
theorem dX8_turns_29 : decode cX8_turns 29 = .ok (.bipush 26, 2) := by decide +kernel
theorem dX8_turns_31 : decode cX8_turns 31 = .ok (.if_icmp .ne 31, 3) := by decide +kernel
theorem dX8_turns_34 : decode cX8_turns 34 = .ok (.aload_n 0, 1) := by decide +kernel
theorem dX8_turns_35 : decode cX8_turns 35 = .ok (.getfield 10, 3) := by decide +kernel
theorem dX8_turns_38 : decode cX8_turns 38 = .ok (.iload_n 2, 1) := by decide +kernel
theorem dX8_turns_39 : decode cX8_turns 39 = .ok (.invokevirtual 74, 3) := by decide +kernel
theorem dX8_turns_42 : decode cX8_turns 42 = .ok (.ifCond .eq 18, 3) := by decide +kernel
theorem dX8_turns_45 : decode cX8_turns 45 = .ok (.aload_n 0, 1) := by decide +kernel
theorem dX8_turns_46 : decode cX8_turns 46 = .ok (.getfield 10, 3) := by decide +kernel
theorem dX8_turns_49 : decode cX8_turns 49 = .ok (.iload_n 2, 1) := by decide +kernel
theorem dX8_turns_50 : decode cX8_turns 50 = .ok (.invokevirtual 74, 3) := by decide +kernel
theorem dX8_turns_53 : decode cX8_turns 53 = .ok (.ifCond .eq 7, 3) := by decide +kernel
theorem dX8_turns_56 : decode cX8_turns 56 = .ok (.iconst 1, 1) := by decide +kernel
theorem dX8_turns_57 : decode cX8_turns 57 = .ok (.goto 4, 3) := by decide +kernel
theorem dX8_turns_60 : decode cX8_turns 60 = .ok (.iconst 0, 1) := by decide +kernel
theorem dX8_turns_61 : decode cX8_turns 61 = .ok (.ireturn, 1) := by decide +kernel
theorem dX8_turns_62 : decode cX8_turns 62 = .ok (.aload_n 0, 1) := by decide +kernel
theorem dX8_turns_63 : decode cX8_turns 63 = .ok (.getfield 10, 3) := by decide +kernel
theorem dX8_turns_66 : decode cX8_turns 66 = .ok (.invokevirtual 98, 3) := by decide +kernel
theorem dX8_turns_69 : decode cX8_turns 69 = .ok (.istore_n 3, 1) := by decide +kernel
theorem dX8_turns_70 : decode cX8_turns 70 = .ok (.iload_n 3, 1) := by decide +kernel
theorem dX8_turns_71 : decode cX8_turns 71 = .ok (.ifCond .eq 29, 3) := by decide +kernel
theorem dX8_turns_74 : decode cX8_turns 74 = .ok (.aload_n 0, 1) := by decide +kernel
theorem dX8_turns_75 : decode cX8_turns 75 = .ok (.getfield 10, 3) := by decide +kernel
theorem dX8_turns_78 : decode cX8_turns 78 = .ok (.iload_n 2, 1) := by decide +kernel
theorem dX8_turns_79 : decode cX8_turns 79 = .ok (.invokevirtual 74, 3) := by decide +kernel
theorem dX8_turns_82 : decode cX8_turns 82 = .ok (.ifCond .eq 18, 3) := by decide +kernel
theorem dX8_turns_85 : decode cX8_turns 85 = .ok (.aload_n 0, 1) := by decide +kernel
theorem dX8_turns_86 : decode cX8_turns 86 = .ok (.getfield 10, 3) := by decide +kernel
theorem dX8_turns_89 : decode cX8_turns 89 = .ok (.iload_n 3, 1) := by decide +kernel
theorem dX8_turns_90 : decode cX8_turns 90 = .ok (.invokevirtual 74, 3) := by decide +kernel
theorem dX8_turns_93 : decode cX8_turns 93 = .ok (.ifCond .eq 7, 3) := by decide +kernel
theorem dX8_turns_96 : decode cX8_turns 96 = .ok (.iconst 1, 1) := by decide +kernel
theorem dX8_turns_97 : decode cX8_turns 97 = .ok (.goto 4, 3) := by decide +kernel
theorem dX8_turns_100 : decode cX8_turns 100 = .ok (.iconst 0, 1) := by decide +kernel
theorem dX8_turns_101 : decode cX8_turns 101 = .ok (.ireturn, 1) := by decide +kernel
theorem dX8_calls_0 : decode cX8_calls 0 = .ok (.lload_n 3, 1) := by decide +kernel
theorem dX8_calls_1 : decode cX8_calls 1 = .ok (.aload_n 2, 1) := by decide +kernel
theorem dX8_calls_2 : decode cX8_calls 2 = .ok (.getfield 142, 3) := by decide +kernel
theorem dX8_calls_5 : decode cX8_calls 5 = .ok (.i2l, 1) := by decide +kernel
theorem dX8_calls_6 : decode cX8_calls 6 = .ok (.lcmp, 1) := by decide +kernel
theorem dX8_calls_7 : decode cX8_calls 7 = .ok (.ifCond .ge 11, 3) := by decide +kernel
theorem dX8_calls_10 : decode cX8_calls 10 = .ok (.aload_n 1, 1) := by decide +kernel
theorem dX8_calls_11 : decode cX8_calls 11 = .ok (.lload_n 3, 1) := by decide +kernel
theorem dX8_calls_12 : decode cX8_calls 12 = .ok (.invokevirtual 145, 3) := by decide +kernel
theorem dX8_calls_15 : decode cX8_calls 15 = .ok (.goto 4, 3) := by decide +kernel
theorem dX8_calls_18 : decode cX8_calls 18 = .ok (.aconst_null, 1) := by decide +kernel
theorem dX8_calls_19 : decode cX8_calls 19 = .ok (.astore 5, 2) := by decide +kernel
theorem dX8_calls_21 : decode cX8_calls 21 = .ok (.aload 5, 2) := by decide +kernel
theorem dX8_calls_23 : decode cX8_calls 23 = .ok (.ifnonnull 5, 3) := by decide +kernel
theorem dX8_calls_26 : decode cX8_calls 26 = .ok (.iconst 0, 1) := by decide +kernel
theorem dX8_calls_27 : decode cX8_calls 27 = .ok (.ireturn, 1) := by decide +kernel
theorem dX8_calls_28 : decode cX8_calls 28 = .ok (.iconst 0, 1) := by decide +kernel
theorem dX8_calls_29 : decode cX8_calls 29 = .ok (.istore 6, 2) := by decide +kernel
theorem dX8_calls_31 : decode cX8_calls 31 = .ok (.iload 6, 2) := by decide +kernel
theorem dX8_calls_33 : decode cX8_calls 33 = .ok (.aload 5, 2) := by decide +kernel
theorem dX8_calls_35 : decode cX8_calls 35 = .ok (.getfield 151, 3) := by decide +kernel
theorem dX8_calls_38 : decode cX8_calls 38 = .ok (.if_icmp .ge 22, 3) := by decide +kernel
theorem dX8_calls_41 : decode cX8_calls 41 = .ok (.aload_n 0, 1) := by decide +kernel
theorem dX8_calls_42 : decode cX8_calls 42 = .ok (.getfield 10, 3) := by decide +kernel
theorem dX8_calls_45 : decode cX8_calls 45 = .ok (.iconst 1, 1) := by decide +kernel
theorem dX8_calls_46 : decode cX8_calls 46 = .ok (.invokevirtual 115, 3) := by decide +kernel
theorem dX8_calls_49 : decode cX8_calls 49 = .ok (.ifCond .ne 5, 3) := by decide +kernel
theorem dX8_calls_52 : decode cX8_calls 52 = .ok (.iconst 0, 1) := by decide +kernel
theorem dX8_calls_53 : decode cX8_calls 53 = .ok (.ireturn, 1) := by decide +kernel
theorem dX8_calls_54 : decode cX8_calls 54 = .ok (.iinc 6 1, 3) := by decide +kernel
theorem dX8_calls_57 : decode cX8_calls 57 = .ok (.goto (-26), 3) := by decide +kernel
theorem dX8_calls_60 : decode cX8_calls 60 = .ok (.aload_n 0, 1) := by decide +kernel
theorem dX8_calls_61 : decode cX8_calls 61 = .ok (.getfield 10, 3) := by decide +kernel
theorem dX8_calls_64 : decode cX8_calls 64 = .ok (.iconst 1, 1) := by decide +kernel
theorem dX8_calls_65 : decode cX8_calls 65 = .ok (.invokevirtual 74, 3) := by decide +kernel
theorem dX8_calls_68 : decode cX8_calls 68 = .ok (.ireturn, 1) := by decide +kernel
theorem dX8_goesElsewhere_0 : decode cX8_goesElsewhere 0 = .ok (.iload_n 2, 1) := by decide +kernel
theorem dX8_goesElsewhere_1 : decode cX8_goesElsewhere 1 = .ok (.bipush 32, 2) := by decide +kernel
theorem dX8_goesElsewhere_3 : decode cX8_goesElsewhere 3 = .ok (.if_icmp .eq 9, 3) := by decide +kernel
theorem dX8_goesElsewhere_6 : decode cX8_goesElsewhere 6 = .ok (.iload_n 2, 1) := by decide +kernel
theorem dX8_goesElsewhere_7 : decode cX8_goesElsewhere 7 = .ok (.bipush 34, 2) := by decide +kernel
theorem dX8_goesElsewhere_9 : decode cX8_goesElsewhere 9 = .ok (.if_icmp .ne 12, 3) := by decide +kernel
theorem dX8_goesElsewhere_12 : decode cX8_goesElsewhere 12 = .ok (.aload_n 0, 1) := by decide +kernel
theorem dX8_goesElsewhere_13 : decode cX8_goesElsewhere 13 = .ok (.getfield 10, 3) := by decide +kernel
theorem dX8_goesElsewhere_16 : decode cX8_goesElsewhere 16 = .ok (.iconst 1, 1) := by decide +kernel
theorem dX8_goesElsewhere_17 : decode cX8_goesElsewhere 17 = .ok (.invokevirtual 115, 3) := by decide +kernel
theorem dX8_goesElsewhere_20 : decode cX8_goesElsewhere 20 = .ok (.ireturn, 1) := by decide +kernel
theorem dX8_goesElsewhere_21 : decode cX8_goesElsewhere 21 = .ok (.aload_n 1, 1) := by decide +kernel
theorem dX8_goesElsewhere_22 : decode cX8_goesElsewhere 22 = .ok (.lload_n 3, 1) := by decide +kernel
theorem dX8_goesElsewhere_23 : decode cX8_goesElsewhere 23 = .ok (.invokevirtual 16, 3) := by decide +kernel
theorem dX8_goesElsewhere_26 : decode cX8_goesElsewhere 26 = .ok (.ifCond .ne 5, 3) := by decide +kernel
theorem dX8_goesElsewhere_29 : decode cX8_goesElsewhere 29 = .ok (.iconst 0, 1) := by decide +kernel
theorem dX8_goesElsewhere_30 : decode cX8_goesElsewhere 30 = .ok (.ireturn, 1) := by decide +kernel
theorem dX8_goesElsewhere_31 : decode cX8_goesElsewhere 31 = .ok (.aload_n 0, 1) := by decide +kernel
theorem dX8_goesElsewhere_32 : decode cX8_goesElsewhere 32 = .ok (.lload_n 3, 1) := by decide +kernel
theorem dX8_goesElsewhere_33 : decode cX8_goesElsewhere 33 = .ok (.l2i, 1) := by decide +kernel
theorem dX8_goesElsewhere_34 : decode cX8_goesElsewhere 34 = .ok (.putfield 30, 3) := by decide +kernel
theorem dX8_goesElsewhere_37 : decode cX8_goesElsewhere 37 = .ok (.iload_n 2, 1) := by decide +kernel
theorem dX8_goesElsewhere_38 : decode cX8_goesElsewhere 38 = .ok (.bipush 30, 2) := by decide +kernel
theorem dX8_goesElsewhere_40 : decode cX8_goesElsewhere 40 = .ok (.if_icmp .ne 12, 3) := by decide +kernel
theorem dX8_goesElsewhere_43 : decode cX8_goesElsewhere 43 = .ok (.aload_n 0, 1) := by decide +kernel
theorem dX8_goesElsewhere_44 : decode cX8_goesElsewhere 44 = .ok (.getfield 10, 3) := by decide +kernel
theorem dX8_goesElsewhere_47 : decode cX8_goesElsewhere 47 = .ok (.iconst 1, 1) := by decide +kernel
theorem dX8_goesElsewhere_48 : decode cX8_goesElsewhere 48 = .ok (.invokevirtual 115, 3) := by decide +kernel
theorem dX8_goesElsewhere_51 : decode cX8_goesElsewhere 51 = .ok (.ireturn, 1) := by decide +kernel
theorem dX8_goesElsewhere_52 : decode cX8_goesElsewhere 52 = .ok (.iload_n 2, 1) := by decide +kernel
theorem dX8_goesElsewhere_53 : decode cX8_goesElsewhere 53 = .ok (.bipush 29, 2) := by decide +kernel
theorem dX8_goesElsewhere_55 : decode cX8_goesElsewhere 55 = .ok (.if_icmp .eq 15, 3) := by decide +kernel
theorem dX8_goesElsewhere_58 : decode cX8_goesElsewhere 58 = .ok (.aload_n 0, 1) := by decide +kernel
theorem dX8_goesElsewhere_59 : decode cX8_goesElsewhere 59 = .ok (.getfield 10, 3) := by decide +kernel
theorem dX8_goesElsewhere_62 : decode cX8_goesElsewhere 62 = .ok (.bipush 10, 2) := by decide +kernel
theorem dX8_goesElsewhere_64 : decode cX8_goesElsewhere 64 = .ok (.invokevirtual 115, 3) := by decide +kernel
theorem dX8_goesElsewhere_67 : decode cX8_goesElsewhere 67 = .ok (.ifCond .eq 7, 3) := by decide +kernel
theorem dX8_goesElsewhere_70 : decode cX8_goesElsewhere 70 = .ok (.iconst 1, 1) := by decide +kernel
theorem dX8_goesElsewhere_71 : decode cX8_goesElsewhere 71 = .ok (.goto 4, 3) := by decide +kernel
theorem dX8_goesElsewhere_74 : decode cX8_goesElsewhere 74 = .ok (.iconst 0, 1) := by decide +kernel
theorem dX8_goesElsewhere_75 : decode cX8_goesElsewhere 75 = .ok (.ireturn, 1) := by decide +kernel
