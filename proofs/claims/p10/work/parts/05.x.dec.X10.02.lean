theorem dX10_does_6 : decode cX10_does 6 = .ok (.iload_n 1, 1) := by decide +kernel
theorem dX10_does_7 : decode cX10_does 7 = .ok (.imul, 1) := by decide +kernel
theorem dX10_does_8 : decode cX10_does 8 = .ok (.iload_n 2, 1) := by decide +kernel
theorem dX10_does_9 : decode cX10_does 9 = .ok (.iadd, 1) := by decide +kernel
theorem dX10_does_10 : decode cX10_does 10 = .ok (.iaload, 1) := by decide +kernel
theorem dX10_does_11 : decode cX10_does 11 = .ok (.istore_n 3, 1) := by decide +kernel
theorem dX10_does_12 : decode cX10_does 12 = .ok (.aload_n 0, 1) := by decide +kernel
theorem dX10_does_13 : decode cX10_does 13 = .ok (.getfield 19, 3) := by decide +kernel
theorem dX10_does_16 : decode cX10_does 16 = .ok (.bipush 40, 2) := by decide +kernel
theorem dX10_does_18 : decode cX10_does 18 = .ok (.iload_n 1, 1) := by decide +kernel
theorem dX10_does_19 : decode cX10_does 19 = .ok (.imul, 1) := by decide +kernel
theorem dX10_does_20 : decode cX10_does 20 = .ok (.iload_n 2, 1) := by decide +kernel
theorem dX10_does_21 : decode cX10_does 21 = .ok (.iadd, 1) := by decide +kernel
theorem dX10_does_22 : decode cX10_does 22 = .ok (.laload, 1) := by decide +kernel
theorem dX10_does_23 : decode cX10_does 23 = .ok (.lstore 4, 2) := by decide +kernel
theorem dX10_does_25 : decode cX10_does 25 = .ok (.iload_n 3, 1) := by decide +kernel
theorem dX10_does_26 : decode cX10_does 26 = .ok (.tableswitch 524 0 15 #[78, 84, 89, 95, 142, 195, 246, 296, 338, 377, 398, 419, 447, 455, 463, 485], 78) := by decide +kernel
theorem dX10_does_104 : decode cX10_does 104 = .ok (.aload_n 0, 1) := by decide +kernel
theorem dX10_does_105 : decode cX10_does 105 = .ok (.iconst 1, 1) := by decide +kernel
theorem dX10_does_106 : decode cX10_does 106 = .ok (.invokevirtual 148, 3) := by decide +kernel
theorem dX10_does_109 : decode cX10_does 109 = .ok (.ireturn, 1) := by decide +kernel
theorem dX10_does_110 : decode cX10_does 110 = .ok (.aload_n 0, 1) := by decide +kernel
theorem dX10_does_111 : decode cX10_does 111 = .ok (.invokevirtual 154, 3) := by decide +kernel
theorem dX10_does_114 : decode cX10_does 114 = .ok (.ireturn, 1) := by decide +kernel
theorem dX10_does_115 : decode cX10_does 115 = .ok (.aload_n 0, 1) := by decide +kernel
theorem dX10_does_116 : decode cX10_does 116 = .ok (.iconst 4, 1) := by decide +kernel
theorem dX10_does_117 : decode cX10_does 117 = .ok (.invokevirtual 148, 3) := by decide +kernel
theorem dX10_does_120 : decode cX10_does 120 = .ok (.ireturn, 1) := by decide +kernel
theorem dX10_does_121 : decode cX10_does 121 = .ok (.lload 4, 2) := by decide +kernel
theorem dX10_does_123 : decode cX10_does 123 = .ok (.lconst 0, 1) := by decide +kernel
theorem dX10_does_124 : decode cX10_does 124 = .ok (.ldc2_w 139, 3) := by decide +kernel
theorem dX10_does_127 : decode cX10_does 127 = .ok (.invokestatic 79, 3) := by decide +kernel
theorem dX10_does_130 : decode cX10_does 130 = .ok (.ifCond .eq 36, 3) := by decide +kernel
theorem dX10_does_133 : decode cX10_does 133 = .ok (.aload_n 0, 1) := by decide +kernel
theorem dX10_does_134 : decode cX10_does 134 = .ok (.getfield 45, 3) := by decide +kernel
theorem dX10_does_137 : decode cX10_does 137 = .ok (.lload 4, 2) := by decide +kernel
theorem dX10_does_139 : decode cX10_does 139 = .ok (.l2i, 1) := by decide +kernel
theorem dX10_does_140 : decode cX10_does 140 = .ok (.iaload, 1) := by decide +kernel
theorem dX10_does_141 : decode cX10_does 141 = .ok (.invokestatic 151, 3) := by decide +kernel
theorem dX10_does_144 : decode cX10_does 144 = .ok (.ifCond .eq 22, 3) := by decide +kernel
theorem dX10_does_147 : decode cX10_does 147 = .ok (.aload_n 0, 1) := by decide +kernel
theorem dX10_does_148 : decode cX10_does 148 = .ok (.aload_n 0, 1) := by decide +kernel
theorem dX10_does_149 : decode cX10_does 149 = .ok (.getfield 45, 3) := by decide +kernel
theorem dX10_does_152 : decode cX10_does 152 = .ok (.lload 4, 2) := by decide +kernel
theorem dX10_does_154 : decode cX10_does 154 = .ok (.l2i, 1) := by decide +kernel
theorem dX10_does_155 : decode cX10_does 155 = .ok (.iaload, 1) := by decide +kernel
theorem dX10_does_156 : decode cX10_does 156 = .ok (.invokevirtual 148, 3) := by decide +kernel
theorem dX10_does_159 : decode cX10_does 159 = .ok (.ifCond .eq 7, 3) := by decide +kernel
theorem dX10_does_162 : decode cX10_does 162 = .ok (.iconst 1, 1) := by decide +kernel
theorem dX10_does_163 : decode cX10_does 163 = .ok (.goto 4, 3) := by decide +kernel
theorem dX10_does_166 : decode cX10_does 166 = .ok (.iconst 0, 1) := by decide +kernel
theorem dX10_does_167 : decode cX10_does 167 = .ok (.ireturn, 1) := by decide +kernel
theorem dX10_does_168 : decode cX10_does 168 = .ok (.lload 4, 2) := by decide +kernel
theorem dX10_does_170 : decode cX10_does 170 = .ok (.lconst 0, 1) := by decide +kernel
theorem dX10_does_171 : decode cX10_does 171 = .ok (.ldc2_w 139, 3) := by decide +kernel
theorem dX10_does_174 : decode cX10_does 174 = .ok (.invokestatic 79, 3) := by decide +kernel
theorem dX10_does_177 : decode cX10_does 177 = .ok (.ifCond .eq 11, 3) := by decide +kernel
theorem dX10_does_180 : decode cX10_does 180 = .ok (.aload_n 0, 1) := by decide +kernel
theorem dX10_does_181 : decode cX10_does 181 = .ok (.iconst 0, 1) := by decide +kernel
theorem dX10_does_182 : decode cX10_does 182 = .ok (.invokevirtual 158, 3) := by decide +kernel
theorem dX10_does_185 : decode cX10_does 185 = .ok (.ifCond .ne 5, 3) := by decide +kernel
theorem dX10_does_188 : decode cX10_does 188 = .ok (.iconst 0, 1) := by decide +kernel
theorem dX10_does_189 : decode cX10_does 189 = .ok (.ireturn, 1) := by decide +kernel
theorem dX10_does_190 : decode cX10_does 190 = .ok (.aload_n 0, 1) := by decide +kernel
theorem dX10_does_191 : decode cX10_does 191 = .ok (.dup, 1) := by decide +kernel
theorem dX10_does_192 : decode cX10_does 192 = .ok (.getfield 145, 3) := by decide +kernel
theorem dX10_does_195 : decode cX10_does 195 = .ok (.iconst 1, 1) := by decide +kernel
theorem dX10_does_196 : decode cX10_does 196 = .ok (.isub, 1) := by decide +kernel
theorem dX10_does_197 : decode cX10_does 197 = .ok (.putfield 145, 3) := by decide +kernel
theorem dX10_does_200 : decode cX10_does 200 = .ok (.aload_n 0, 1) := by decide +kernel
theorem dX10_does_201 : decode cX10_does 201 = .ok (.lload 4, 2) := by decide +kernel
theorem dX10_does_203 : decode cX10_does 203 = .ok (.l2i, 1) := by decide +kernel
theorem dX10_does_204 : decode cX10_does 204 = .ok (.aload_n 0, 1) := by decide +kernel
theorem dX10_does_205 : decode cX10_does 205 = .ok (.getfield 45, 3) := by decide +kernel
theorem dX10_does_208 : decode cX10_does 208 = .ok (.bipush 8, 2) := by decide +kernel
theorem dX10_does_210 : decode cX10_does 210 = .ok (.aload_n 0, 1) := by decide +kernel
theorem dX10_does_211 : decode cX10_does 211 = .ok (.getfield 145, 3) := by decide +kernel
theorem dX10_does_214 : decode cX10_does 214 = .ok (.iadd, 1) := by decide +kernel
theorem dX10_does_215 : decode cX10_does 215 = .ok (.iaload, 1) := by decide +kernel
theorem dX10_does_216 : decode cX10_does 216 = .ok (.invokevirtual 161, 3) := by decide +kernel
theorem dX10_does_219 : decode cX10_does 219 = .ok (.iconst 1, 1) := by decide +kernel
theorem dX10_does_220 : decode cX10_does 220 = .ok (.ireturn, 1) := by decide +kernel
theorem dX10_does_221 : decode cX10_does 221 = .ok (.lload 4, 2) := by decide +kernel
theorem dX10_does_223 : decode cX10_does 223 = .ok (.lconst 0, 1) := by decide +kernel
theorem dX10_does_224 : decode cX10_does 224 = .ok (.ldc2_w 165, 3) := by decide +kernel
theorem dX10_does_227 : decode cX10_does 227 = .ok (.invokestatic 79, 3) := by decide +kernel
theorem dX10_does_230 : decode cX10_does 230 = .ok (.ifCond .eq 40, 3) := by decide +kernel
theorem dX10_does_233 : decode cX10_does 233 = .ok (.aload_n 0, 1) := by decide +kernel
theorem dX10_does_234 : decode cX10_does 234 = .ok (.getfield 45, 3) := by decide +kernel
theorem dX10_does_237 : decode cX10_does 237 = .ok (.lload 4, 2) := by decide +kernel
theorem dX10_does_239 : decode cX10_does 239 = .ok (.l2i, 1) := by decide +kernel
theorem dX10_does_240 : decode cX10_does 240 = .ok (.iaload, 1) := by decide +kernel
theorem dX10_does_241 : decode cX10_does 241 = .ok (.iconst 2, 1) := by decide +kernel
theorem dX10_does_242 : decode cX10_does 242 = .ok (.if_icmp .ne 28, 3) := by decide +kernel
theorem dX10_does_245 : decode cX10_does 245 = .ok (.aload_n 0, 1) := by decide +kernel
theorem dX10_does_246 : decode cX10_does 246 = .ok (.getfield 45, 3) := by decide +kernel
theorem dX10_does_249 : decode cX10_does 249 = .ok (.lload 4, 2) := by decide +kernel
theorem dX10_does_251 : decode cX10_does 251 = .ok (.l2i, 1) := by decide +kernel
theorem dX10_does_252 : decode cX10_does 252 = .ok (.iconst 1, 1) := by decide +kernel
theorem dX10_does_253 : decode cX10_does 253 = .ok (.iadd, 1) := by decide +kernel
theorem dX10_does_254 : decode cX10_does 254 = .ok (.iaload, 1) := by decide +kernel
theorem dX10_does_255 : decode cX10_does 255 = .ok (.iconst 3, 1) := by decide +kernel
theorem dX10_does_256 : decode cX10_does 256 = .ok (.if_icmp .ne 14, 3) := by decide +kernel
theorem dX10_does_259 : decode cX10_does 259 = .ok (.aload_n 0, 1) := by decide +kernel
theorem dX10_does_260 : decode cX10_does 260 = .ok (.invokevirtual 154, 3) := by decide +kernel
theorem dX10_does_263 : decode cX10_does 263 = .ok (.ifCond .eq 7, 3) := by decide +kernel
theorem dX10_does_266 : decode cX10_does 266 = .ok (.iconst 1, 1) := by decide +kernel
theorem dX10_does_267 : decode cX10_does 267 = .ok (.goto 4, 3) := by decide +kernel
theorem dX10_does_270 : decode cX10_does 270 = .ok (.iconst 0, 1) := by decide +kernel
theorem dX10_does_271 : decode cX10_does 271 = .ok (.ireturn, 1) := by decide +kernel
theorem dX10_does_272 : decode cX10_does 272 = .ok (.lload 4, 2) := by decide +kernel
theorem dX10_does_274 : decode cX10_does 274 = .ok (.lconst 0, 1) := by decide +kernel
theorem dX10_does_275 : decode cX10_does 275 = .ok (.ldc2_w 165, 3) := by decide +kernel
theorem dX10_does_278 : decode cX10_does 278 = .ok (.invokestatic 79, 3) := by decide +kernel
theorem dX10_does_281 : decode cX10_does 281 = .ok (.ifCond .eq 10, 3) := by decide +kernel
theorem dX10_does_284 : decode cX10_does 284 = .ok (.aload_n 0, 1) := by decide +kernel
theorem dX10_does_285 : decode cX10_does 285 = .ok (.invokevirtual 167, 3) := by decide +kernel
theorem dX10_does_288 : decode cX10_does 288 = .ok (.ifCond .ne 5, 3) := by decide +kernel
theorem dX10_does_291 : decode cX10_does 291 = .ok (.iconst 0, 1) := by decide +kernel
theorem dX10_does_292 : decode cX10_does 292 = .ok (.ireturn, 1) := by decide +kernel
theorem dX10_does_293 : decode cX10_does 293 = .ok (.aload_n 0, 1) := by decide +kernel
theorem dX10_does_294 : decode cX10_does 294 = .ok (.lload 4, 2) := by decide +kernel
theorem dX10_does_296 : decode cX10_does 296 = .ok (.l2i, 1) := by decide +kernel
theorem dX10_does_297 : decode cX10_does 297 = .ok (.iconst 0, 1) := by decide +kernel
theorem dX10_does_298 : decode cX10_does 298 = .ok (.invokevirtual 161, 3) := by decide +kernel
theorem dX10_does_301 : decode cX10_does 301 = .ok (.aload_n 0, 1) := by decide +kernel
theorem dX10_does_302 : decode cX10_does 302 = .ok (.lload 4, 2) := by decide +kernel
theorem dX10_does_304 : decode cX10_does 304 = .ok (.l2i, 1) := by decide +kernel
theorem dX10_does_305 : decode cX10_does 305 = .ok (.iconst 1, 1) := by decide +kernel
theorem dX10_does_306 : decode cX10_does 306 = .ok (.iadd, 1) := by decide +kernel
theorem dX10_does_307 : decode cX10_does 307 = .ok (.iconst 3, 1) := by decide +kernel
theorem dX10_does_308 : decode cX10_does 308 = .ok (.invokevirtual 161, 3) := by decide +kernel
theorem dX10_does_311 : decode cX10_does 311 = .ok (.aload_n 0, 1) := by decide +kernel
theorem dX10_does_312 : decode cX10_does 312 = .ok (.getfield 45, 3) := by decide +kernel
theorem dX10_does_315 : decode cX10_does 315 = .ok (.lload 4, 2) := by decide +kernel
theorem dX10_does_317 : decode cX10_does 317 = .ok (.l2i, 1) := by decide +kernel
theorem dX10_does_318 : decode cX10_does 318 = .ok (.iconst 2, 1) := by decide +kernel
theorem dX10_does_319 : decode cX10_does 319 = .ok (.iastore, 1) := by decide +kernel
theorem dX10_does_320 : decode cX10_does 320 = .ok (.iconst 1, 1) := by decide +kernel
theorem dX10_does_321 : decode cX10_does 321 = .ok (.ireturn, 1) := by decide +kernel
theorem dX10_does_322 : decode cX10_does 322 = .ok (.lload 4, 2) := by decide +kernel
theorem dX10_does_324 : decode cX10_does 324 = .ok (.lconst 0, 1) := by decide +kernel
theorem dX10_does_325 : decode cX10_does 325 = .ok (.ldc2_w 128, 3) := by decide +kernel
theorem dX10_does_328 : decode cX10_does 328 = .ok (.invokestatic 79, 3) := by decide +kernel
theorem dX10_does_331 : decode cX10_does 331 = .ok (.ifCond .eq 31, 3) := by decide +kernel
theorem dX10_does_334 : decode cX10_does 334 = .ok (.aload_n 0, 1) := by decide +kernel
theorem dX10_does_335 : decode cX10_does 335 = .ok (.iconst 1, 1) := by decide +kernel
theorem dX10_does_336 : decode cX10_does 336 = .ok (.invokevirtual 170, 3) := by decide +kernel
theorem dX10_does_339 : decode cX10_does 339 = .ok (.ifCond .eq 23, 3) := by decide +kernel
theorem dX10_does_342 : decode cX10_does 342 = .ok (.aload_n 0, 1) := by decide +kernel
theorem dX10_does_343 : decode cX10_does 343 = .ok (.iconst 1, 1) := by decide +kernel
theorem dX10_does_344 : decode cX10_does 344 = .ok (.invokevirtual 170, 3) := by decide +kernel
theorem dX10_does_347 : decode cX10_does 347 = .ok (.ifCond .eq 15, 3) := by decide +kernel
theorem dX10_does_350 : decode cX10_does 350 = .ok (.aload_n 0, 1) := by decide +kernel
theorem dX10_does_351 : decode cX10_does 351 = .ok (.iconst 1, 1) := by decide +kernel
theorem dX10_does_352 : decode cX10_does 352 = .ok (.invokevirtual 148, 3) := by decide +kernel
theorem dX10_does_355 : decode cX10_does 355 = .ok (.ifCond .eq 7, 3) := by decide +kernel
theorem dX10_does_358 : decode cX10_does 358 = .ok (.iconst 1, 1) := by decide +kernel
theorem dX10_does_359 : decode cX10_does 359 = .ok (.goto 4, 3) := by decide +kernel
theorem dX10_does_362 : decode cX10_does 362 = .ok (.iconst 0, 1) := by decide +kernel
theorem dX10_does_363 : decode cX10_does 363 = .ok (.ireturn, 1) := by decide +kernel
theorem dX10_does_364 : decode cX10_does 364 = .ok (.lload 4, 2) := by decide +kernel
theorem dX10_does_366 : decode cX10_does 366 = .ok (.lconst 0, 1) := by decide +kernel
theorem dX10_does_367 : decode cX10_does 367 = .ok (.ldc2_w 128, 3) := by decide +kernel
theorem dX10_does_370 : decode cX10_does 370 = .ok (.invokestatic 79, 3) := by decide +kernel
theorem dX10_does_373 : decode cX10_does 373 = .ok (.ifCond .eq 28, 3) := by decide +kernel
theorem dX10_does_376 : decode cX10_does 376 = .ok (.aload_n 0, 1) := by decide +kernel
theorem dX10_does_377 : decode cX10_does 377 = .ok (.invokevirtual 167, 3) := by decide +kernel
theorem dX10_does_380 : decode cX10_does 380 = .ok (.ifCond .eq 21, 3) := by decide +kernel
theorem dX10_does_383 : decode cX10_does 383 = .ok (.aload_n 0, 1) := by decide +kernel
theorem dX10_does_384 : decode cX10_does 384 = .ok (.invokevirtual 167, 3) := by decide +kernel
theorem dX10_does_387 : decode cX10_does 387 = .ok (.ifCond .eq 14, 3) := by decide +kernel
theorem dX10_does_390 : decode cX10_does 390 = .ok (.aload_n 0, 1) := by decide +kernel
theorem dX10_does_391 : decode cX10_does 391 = .ok (.invokevirtual 154, 3) := by decide +kernel
theorem dX10_does_394 : decode cX10_does 394 = .ok (.ifCond .eq 7, 3) := by decide +kernel
theorem dX10_does_397 : decode cX10_does 397 = .ok (.iconst 1, 1) := by decide +kernel
theorem dX10_does_398 : decode cX10_does 398 = .ok (.goto 4, 3) := by decide +kernel
theorem dX10_does_401 : decode cX10_does 401 = .ok (.iconst 0, 1) := by decide +kernel
theorem dX10_does_402 : decode cX10_does 402 = .ok (.ireturn, 1) := by decide +kernel
theorem dX10_does_403 : decode cX10_does 403 = .ok (.aload_n 0, 1) := by decide +kernel
theorem dX10_does_404 : decode cX10_does 404 = .ok (.iconst 1, 1) := by decide +kernel
theorem dX10_does_405 : decode cX10_does 405 = .ok (.invokevirtual 170, 3) := by decide +kernel
theorem dX10_does_408 : decode cX10_does 408 = .ok (.ifCond .eq 14, 3) := by decide +kernel
theorem dX10_does_411 : decode cX10_does 411 = .ok (.aload_n 0, 1) := by decide +kernel
theorem dX10_does_412 : decode cX10_does 412 = .ok (.invokevirtual 154, 3) := by decide +kernel
theorem dX10_does_415 : decode cX10_does 415 = .ok (.ifCond .eq 7, 3) := by decide +kernel
theorem dX10_does_418 : decode cX10_does 418 = .ok (.iconst 1, 1) := by decide +kernel
theorem dX10_does_419 : decode cX10_does 419 = .ok (.goto 4, 3) := by decide +kernel
theorem dX10_does_422 : decode cX10_does 422 = .ok (.iconst 0, 1) := by decide +kernel
theorem dX10_does_423 : decode cX10_does 423 = .ok (.ireturn, 1) := by decide +kernel
theorem dX10_does_424 : decode cX10_does 424 = .ok (.aload_n 0, 1) := by decide +kernel
theorem dX10_does_425 : decode cX10_does 425 = .ok (.invokevirtual 167, 3) := by decide +kernel
theorem dX10_does_428 : decode cX10_does 428 = .ok (.ifCond .eq 15, 3) := by decide +kernel
theorem dX10_does_431 : decode cX10_does 431 = .ok (.aload_n 0, 1) := by decide +kernel
theorem dX10_does_432 : decode cX10_does 432 = .ok (.iconst 1, 1) := by decide +kernel
theorem dX10_does_433 : decode cX10_does 433 = .ok (.invokevirtual 148, 3) := by decide +kernel
theorem dX10_does_436 : decode cX10_does 436 = .ok (.ifCond .eq 7, 3) := by decide +kernel
theorem dX10_does_439 : decode cX10_does 439 = .ok (.iconst 1, 1) := by decide +kernel
theorem dX10_does_440 : decode cX10_does 440 = .ok (.goto 4, 3) := by decide +kernel
theorem dX10_does_443 : decode cX10_does 443 = .ok (.iconst 0, 1) := by decide +kernel
theorem dX10_does_444 : decode cX10_does 444 = .ok (.ireturn, 1) := by decide +kernel
theorem dX10_does_445 : decode cX10_does 445 = .ok (.aload_n 0, 1) := by decide +kernel
theorem dX10_does_446 : decode cX10_does 446 = .ok (.invokevirtual 167, 3) := by decide +kernel
theorem dX10_does_449 : decode cX10_does 449 = .ok (.ifCond .eq 22, 3) := by decide +kernel
theorem dX10_does_452 : decode cX10_does 452 = .ok (.aload_n 0, 1) := by decide +kernel
theorem dX10_does_453 : decode cX10_does 453 = .ok (.invokevirtual 167, 3) := by decide +kernel
theorem dX10_does_456 : decode cX10_does 456 = .ok (.ifCond .eq 15, 3) := by decide +kernel
theorem dX10_does_459 : decode cX10_does 459 = .ok (.aload_n 0, 1) := by decide +kernel
theorem dX10_does_460 : decode cX10_does 460 = .ok (.iconst 1, 1) := by decide +kernel
theorem dX10_does_461 : decode cX10_does 461 = .ok (.invokevirtual 148, 3) := by decide +kernel
theorem dX10_does_464 : decode cX10_does 464 = .ok (.ifCond .eq 7, 3) := by decide +kernel
theorem dX10_does_467 : decode cX10_does 467 = .ok (.iconst 1, 1) := by decide +kernel
theorem dX10_does_468 : decode cX10_does 468 = .ok (.goto 4, 3) := by decide +kernel
theorem dX10_does_471 : decode cX10_does 471 = .ok (.iconst 0, 1) := by decide +kernel
theorem dX10_does_472 : decode cX10_does 472 = .ok (.ireturn, 1) := by decide +kernel
theorem dX10_does_473 : decode cX10_does 473 = .ok (.aload_n 0, 1) := by decide +kernel
theorem dX10_does_474 : decode cX10_does 474 = .ok (.iload_n 2, 1) := by decide +kernel
theorem dX10_does_475 : decode cX10_does 475 = .ok (.lload 4, 2) := by decide +kernel
theorem dX10_does_477 : decode cX10_does 477 = .ok (.invokevirtual 173, 3) := by decide +kernel
theorem dX10_does_480 : decode cX10_does 480 = .ok (.ireturn, 1) := by decide +kernel
theorem dX10_does_481 : decode cX10_does 481 = .ok (.aload_n 0, 1) := by decide +kernel
theorem dX10_does_482 : decode cX10_does 482 = .ok (.iload_n 1, 1) := by decide +kernel
theorem dX10_does_483 : decode cX10_does 483 = .ok (.lload 4, 2) := by decide +kernel
theorem dX10_does_485 : decode cX10_does 485 = .ok (.invokevirtual 177, 3) := by decide +kernel
theorem dX10_does_488 : decode cX10_does 488 = .ok (.ireturn, 1) := by decide +kernel
theorem dX10_does_489 : decode cX10_does 489 = .ok (.aload_n 0, 1) := by decide +kernel
theorem dX10_does_490 : decode cX10_does 490 = .ok (.iconst 1, 1) := by decide +kernel
theorem dX10_does_491 : decode cX10_does 491 = .ok (.invokevirtual 170, 3) := by decide +kernel
theorem dX10_does_494 : decode cX10_does 494 = .ok (.ifCond .eq 15, 3) := by decide +kernel
theorem dX10_does_497 : decode cX10_does 497 = .ok (.aload_n 0, 1) := by decide +kernel
theorem dX10_does_498 : decode cX10_does 498 = .ok (.iconst 5, 1) := by decide +kernel
theorem dX10_does_499 : decode cX10_does 499 = .ok (.invokevirtual 148, 3) := by decide +kernel
theorem dX10_does_502 : decode cX10_does 502 = .ok (.ifCond .eq 7, 3) := by decide +kernel
theorem dX10_does_505 : decode cX10_does 505 = .ok (.iconst 1, 1) := by decide +kernel
theorem dX10_does_506 : decode cX10_does 506 = .ok (.goto 4, 3) := by decide +kernel
theorem dX10_does_509 : decode cX10_does 509 = .ok (.iconst 0, 1) := by decide +kernel
theorem dX10_does_510 : decode cX10_does 510 = .ok (.ireturn, 1) := by decide +kernel
theorem dX10_does_511 : decode cX10_does 511 = .ok (.lload 4, 2) := by decide +kernel
theorem dX10_does_513 : decode cX10_does 513 = .ok (.lconst 1, 1) := by decide +kernel
theorem dX10_does_514 : decode cX10_does 514 = .ok (.ldc2_w 102, 3) := by decide +kernel
theorem dX10_does_517 : decode cX10_does 517 = .ok (.invokestatic 79, 3) := by decide +kernel
theorem dX10_does_520 : decode cX10_does 520 = .ok (.ifCond .eq 28, 3) := by decide +kernel
theorem dX10_does_523 : decode cX10_does 523 = .ok (.aload_n 0, 1) := by decide +kernel
theorem dX10_does_524 : decode cX10_does 524 = .ok (.iconst 1, 1) := by decide +kernel
theorem dX10_does_525 : decode cX10_does 525 = .ok (.invokevirtual 170, 3) := by decide +kernel
theorem dX10_does_528 : decode cX10_does 528 = .ok (.ifCond .eq 20, 3) := by decide +kernel
theorem dX10_does_531 : decode cX10_does 531 = .ok (.aload_n 0, 1) := by decide +kernel
theorem dX10_does_532 : decode cX10_does 532 = .ok (.bipush 20, 2) := by decide +kernel
theorem dX10_does_534 : decode cX10_does 534 = .ok (.lload 4, 2) := by decide +kernel
theorem dX10_does_536 : decode cX10_does 536 = .ok (.l2i, 1) := by decide +kernel
theorem dX10_does_537 : decode cX10_does 537 = .ok (.iadd, 1) := by decide +kernel
theorem dX10_does_538 : decode cX10_does 538 = .ok (.invokevirtual 148, 3) := by decide +kernel
theorem dX10_does_541 : decode cX10_does 541 = .ok (.ifCond .eq 7, 3) := by decide +kernel
theorem dX10_does_544 : decode cX10_does 544 = .ok (.iconst 1, 1) := by decide +kernel
theorem dX10_does_545 : decode cX10_does 545 = .ok (.goto 4, 3) := by decide +kernel
theorem dX10_does_548 : decode cX10_does 548 = .ok (.iconst 0, 1) := by decide +kernel
theorem dX10_does_549 : decode cX10_does 549 = .ok (.ireturn, 1) := by decide +kernel
theorem dX10_does_550 : decode cX10_does 550 = .ok (.aload_n 0, 1) := by decide +kernel
theorem dX10_does_551 : decode cX10_does 551 = .ok (.iload_n 1, 1) := by decide +kernel
theorem dX10_does_552 : decode cX10_does 552 = .ok (.iload_n 2, 1) := by decide +kernel
theorem dX10_does_553 : decode cX10_does 553 = .ok (.iload_n 3, 1) := by decide +kernel
theorem dX10_does_554 : decode cX10_does 554 = .ok (.lload 4, 2) := by decide +kernel
theorem dX10_does_556 : decode cX10_does 556 = .ok (.invokevirtual 180, 3) := by decide +kernel
theorem dX10_does_559 : decode cX10_does 559 = .ok (.ireturn, 1) := by decide +kernel
theorem dX10_isNew_0 : decode cX10_isNew 0 = .ok (.lload_n 2, 1) := by decide +kernel
theorem dX10_isNew_1 : decode cX10_isNew 1 = .ok (.lconst 1, 1) := by decide +kernel
theorem dX10_isNew_2 : decode cX10_isNew 2 = .ok (.ldc2_w 102, 3) := by decide +kernel
theorem dX10_isNew_5 : decode cX10_isNew 5 = .ok (.invokestatic 79, 3) := by decide +kernel
theorem dX10_isNew_8 : decode cX10_isNew 8 = .ok (.ifCond .ne 5, 3) := by decide +kernel
theorem dX10_isNew_11 : decode cX10_isNew 11 = .ok (.iconst 0, 1) := by decide +kernel
theorem dX10_isNew_12 : decode cX10_isNew 12 = .ok (.ireturn, 1) := by decide +kernel
theorem dX10_isNew_13 : decode cX10_isNew 13 = .ok (.iconst 0, 1) := by decide +kernel
theorem dX10_isNew_14 : decode cX10_isNew 14 = .ok (.istore 4, 2) := by decide +kernel
theorem dX10_isNew_16 : decode cX10_isNew 16 = .ok (.iload 4, 2) := by decide +kernel
theorem dX10_isNew_18 : decode cX10_isNew 18 = .ok (.aload_n 0, 1) := by decide +kernel
theorem dX10_isNew_19 : decode cX10_isNew 19 = .ok (.getfield 145, 3) := by decide +kernel
theorem dX10_isNew_22 : decode cX10_isNew 22 = .ok (.if_icmp .ge 28, 3) := by decide +kernel
theorem dX10_isNew_25 : decode cX10_isNew 25 = .ok (.aload_n 0, 1) := by decide +kernel
theorem dX10_isNew_26 : decode cX10_isNew 26 = .ok (.getfield 45, 3) := by decide +kernel
theorem dX10_isNew_29 : decode cX10_isNew 29 = .ok (.bipush 8, 2) := by decide +kernel
theorem dX10_isNew_31 : decode cX10_isNew 31 = .ok (.iload 4, 2) := by decide +kernel
theorem dX10_isNew_33 : decode cX10_isNew 33 = .ok (.iadd, 1) := by decide +kernel
theorem dX10_isNew_34 : decode cX10_isNew 34 = .ok (.iaload, 1) := by decide +kernel
theorem dX10_isNew_35 : decode cX10_isNew 35 = .ok (.bipush 100, 2) := by decide +kernel
theorem dX10_isNew_37 : decode cX10_isNew 37 = .ok (.iload_n 1, 1) := by decide +kernel
theorem dX10_isNew_38 : decode cX10_isNew 38 = .ok (.iadd, 1) := by decide +kernel
theorem dX10_isNew_39 : decode cX10_isNew 39 = .ok (.if_icmp .ne 5, 3) := by decide +kernel
theorem dX10_isNew_42 : decode cX10_isNew 42 = .ok (.iconst 0, 1) := by decide +kernel
theorem dX10_isNew_43 : decode cX10_isNew 43 = .ok (.ireturn, 1) := by decide +kernel
theorem dX10_isNew_44 : decode cX10_isNew 44 = .ok (.iinc 4 1, 3) := by decide +kernel
theorem dX10_isNew_47 : decode cX10_isNew 47 = .ok (.goto (-31), 3) := by decide +kernel
theorem dX10_isNew_50 : decode cX10_isNew 50 = .ok (.iconst 0, 1) := by decide +kernel
theorem dX10_isNew_51 : decode cX10_isNew 51 = .ok (.istore 4, 2) := by decide +kernel
theorem dX10_isNew_53 : decode cX10_isNew 53 = .ok (.iload 4, 2) := by decide +kernel
theorem dX10_isNew_55 : decode cX10_isNew 55 = .ok (.bipush 8, 2) := by decide +kernel
theorem dX10_isNew_57 : decode cX10_isNew 57 = .ok (.if_icmp .ge 41, 3) := by decide +kernel
theorem dX10_isNew_60 : decode cX10_isNew 60 = .ok (.aload_n 0, 1) := by decide +kernel
theorem dX10_isNew_61 : decode cX10_isNew 61 = .ok (.getfield 45, 3) := by decide +kernel
theorem dX10_isNew_64 : decode cX10_isNew 64 = .ok (.iload 4, 2) := by decide +kernel
theorem dX10_isNew_66 : decode cX10_isNew 66 = .ok (.aload_n 0, 1) := by decide +kernel
theorem dX10_isNew_67 : decode cX10_isNew 67 = .ok (.getfield 45, 3) := by decide +kernel
theorem dX10_isNew_70 : decode cX10_isNew 70 = .ok (.iload 4, 2) := by decide +kernel
theorem dX10_isNew_72 : decode cX10_isNew 72 = .ok (.iaload, 1) := by decide +kernel
theorem dX10_isNew_73 : decode cX10_isNew 73 = .ok (.bipush 100, 2) := by decide +kernel
theorem dX10_isNew_75 : decode cX10_isNew 75 = .ok (.iload_n 1, 1) := by decide +kernel
theorem dX10_isNew_76 : decode cX10_isNew 76 = .ok (.iadd, 1) := by decide +kernel
theorem dX10_isNew_77 : decode cX10_isNew 77 = .ok (.if_icmp .ne 7, 3) := by decide +kernel
theorem dX10_isNew_80 : decode cX10_isNew 80 = .ok (.iconst 0, 1) := by decide +kernel
theorem dX10_isNew_81 : decode cX10_isNew 81 = .ok (.goto 10, 3) := by decide +kernel
theorem dX10_isNew_84 : decode cX10_isNew 84 = .ok (.aload_n 0, 1) := by decide +kernel
theorem dX10_isNew_85 : decode cX10_isNew 85 = .ok (.getfield 45, 3) := by decide +kernel
theorem dX10_isNew_88 : decode cX10_isNew 88 = .ok (.iload 4, 2) := by decide +kernel
theorem dX10_isNew_90 : decode cX10_isNew 90 = .ok (.iaload, 1) := by decide +kernel
theorem dX10_isNew_91 : decode cX10_isNew 91 = .ok (.iastore, 1) := by decide +kernel
theorem dX10_isNew_92 : decode cX10_isNew 92 = .ok (.iinc 4 1, 3) := by decide +kernel
theorem dX10_isNew_95 : decode cX10_isNew 95 = .ok (.goto (-42), 3) := by decide +kernel
theorem dX10_isNew_98 : decode cX10_isNew 98 = .ok (.aload_n 0, 1) := by decide +kernel
theorem dX10_isNew_99 : decode cX10_isNew 99 = .ok (.bipush 100, 2) := by decide +kernel
theorem dX10_isNew_101 : decode cX10_isNew 101 = .ok (.iload_n 1, 1) := by decide +kernel
theorem dX10_isNew_102 : decode cX10_isNew 102 = .ok (.iadd, 1) := by decide +kernel
theorem dX10_isNew_103 : decode cX10_isNew 103 = .ok (.invokevirtual 148, 3) := by decide +kernel
theorem dX10_isNew_106 : decode cX10_isNew 106 = .ok (.ireturn, 1) := by decide +kernel
theorem dX10_isMade_0 : decode cX10_isMade 0 = .ok (.lload_n 2, 1) := by decide +kernel
theorem dX10_isMade_1 : decode cX10_isMade 1 = .ok (.lconst 1, 1) := by decide +kernel
theorem dX10_isMade_2 : decode cX10_isMade 2 = .ok (.ldc2_w 102, 3) := by decide +kernel
theorem dX10_isMade_5 : decode cX10_isMade 5 = .ok (.invokestatic 79, 3) := by decide +kernel
theorem dX10_isMade_8 : decode cX10_isMade 8 = .ok (.ifCond .eq 10, 3) := by decide +kernel
theorem dX10_isMade_11 : decode cX10_isMade 11 = .ok (.aload_n 0, 1) := by decide +kernel
theorem dX10_isMade_12 : decode cX10_isMade 12 = .ok (.getfield 145, 3) := by decide +kernel
theorem dX10_isMade_15 : decode cX10_isMade 15 = .ok (.ifCond .ne 5, 3) := by decide +kernel
theorem dX10_isMade_18 : decode cX10_isMade 18 = .ok (.iconst 0, 1) := by decide +kernel
theorem dX10_isMade_19 : decode cX10_isMade 19 = .ok (.ireturn, 1) := by decide +kernel
theorem dX10_isMade_20 : decode cX10_isMade 20 = .ok (.aload_n 0, 1) := by decide +kernel
theorem dX10_isMade_21 : decode cX10_isMade 21 = .ok (.getfield 45, 3) := by decide +kernel
theorem dX10_isMade_24 : decode cX10_isMade 24 = .ok (.bipush 7, 2) := by decide +kernel
theorem dX10_isMade_26 : decode cX10_isMade 26 = .ok (.aload_n 0, 1) := by decide +kernel
theorem dX10_isMade_27 : decode cX10_isMade 27 = .ok (.getfield 145, 3) := by decide +kernel
theorem dX10_isMade_30 : decode cX10_isMade 30 = .ok (.iadd, 1) := by decide +kernel
theorem dX10_isMade_31 : decode cX10_isMade 31 = .ok (.iaload, 1) := by decide +kernel
theorem dX10_isMade_32 : decode cX10_isMade 32 = .ok (.istore 4, 2) := by decide +kernel
theorem dX10_isMade_34 : decode cX10_isMade 34 = .ok (.iload 4, 2) := by decide +kernel
theorem dX10_isMade_36 : decode cX10_isMade 36 = .ok (.bipush 100, 2) := by decide +kernel
theorem dX10_isMade_38 : decode cX10_isMade 38 = .ok (.isub, 1) := by decide +kernel
theorem dX10_isMade_39 : decode cX10_isMade 39 = .ok (.istore 5, 2) := by decide +kernel
theorem dX10_isMade_41 : decode cX10_isMade 41 = .ok (.iload 5, 2) := by decide +kernel
theorem dX10_isMade_43 : decode cX10_isMade 43 = .ok (.i2l, 1) := by decide +kernel
theorem dX10_isMade_44 : decode cX10_isMade 44 = .ok (.lconst 0, 1) := by decide +kernel
theorem dX10_isMade_45 : decode cX10_isMade 45 = .ok (.aload_n 0, 1) := by decide +kernel
theorem dX10_isMade_46 : decode cX10_isMade 46 = .ok (.getfield 13, 3) := by decide +kernel
theorem dX10_isMade_49 : decode cX10_isMade 49 = .ok (.iload_n 1, 1) := by decide +kernel
theorem dX10_isMade_50 : decode cX10_isMade 50 = .ok (.iaload, 1) := by decide +kernel
theorem dX10_isMade_51 : decode cX10_isMade 51 = .ok (.iconst 1, 1) := by decide +kernel
theorem dX10_isMade_52 : decode cX10_isMade 52 = .ok (.isub, 1) := by decide +kernel
theorem dX10_isMade_53 : decode cX10_isMade 53 = .ok (.i2l, 1) := by decide +kernel
theorem dX10_isMade_54 : decode cX10_isMade 54 = .ok (.invokestatic 79, 3) := by decide +kernel
theorem dX10_isMade_57 : decode cX10_isMade 57 = .ok (.ifCond .eq 37, 3) := by decide +kernel
theorem dX10_isMade_60 : decode cX10_isMade 60 = .ok (.aload_n 0, 1) := by decide +kernel
theorem dX10_isMade_61 : decode cX10_isMade 61 = .ok (.getfield 16, 3) := by decide +kernel
theorem dX10_isMade_64 : decode cX10_isMade 64 = .ok (.bipush 40, 2) := by decide +kernel
theorem dX10_isMade_66 : decode cX10_isMade 66 = .ok (.iload_n 1, 1) := by decide +kernel
theorem dX10_isMade_67 : decode cX10_isMade 67 = .ok (.imul, 1) := by decide +kernel
theorem dX10_isMade_68 : decode cX10_isMade 68 = .ok (.iload 5, 2) := by decide +kernel
theorem dX10_isMade_70 : decode cX10_isMade 70 = .ok (.iadd, 1) := by decide +kernel
theorem dX10_isMade_71 : decode cX10_isMade 71 = .ok (.iaload, 1) := by decide +kernel
theorem dX10_isMade_72 : decode cX10_isMade 72 = .ok (.bipush 12, 2) := by decide +kernel
theorem dX10_isMade_74 : decode cX10_isMade 74 = .ok (.if_icmp .ne 20, 3) := by decide +kernel
theorem dX10_isMade_77 : decode cX10_isMade 77 = .ok (.aload_n 0, 1) := by decide +kernel
theorem dX10_isMade_78 : decode cX10_isMade 78 = .ok (.getfield 19, 3) := by decide +kernel
theorem dX10_isMade_81 : decode cX10_isMade 81 = .ok (.bipush 40, 2) := by decide +kernel
theorem dX10_isMade_83 : decode cX10_isMade 83 = .ok (.iload_n 1, 1) := by decide +kernel
theorem dX10_isMade_84 : decode cX10_isMade 84 = .ok (.imul, 1) := by decide +kernel
theorem dX10_isMade_85 : decode cX10_isMade 85 = .ok (.iload 5, 2) := by decide +kernel
theorem dX10_isMade_87 : decode cX10_isMade 87 = .ok (.iadd, 1) := by decide +kernel
theorem dX10_isMade_88 : decode cX10_isMade 88 = .ok (.laload, 1) := by decide +kernel
theorem dX10_isMade_89 : decode cX10_isMade 89 = .ok (.lload_n 2, 1) := by decide +kernel
theorem dX10_isMade_90 : decode cX10_isMade 90 = .ok (.lcmp, 1) := by decide +kernel
theorem dX10_isMade_91 : decode cX10_isMade 91 = .ok (.ifCond .eq 5, 3) := by decide +kernel
theorem dX10_isMade_94 : decode cX10_isMade 94 = .ok (.iconst 0, 1) := by decide +kernel
theorem dX10_isMade_95 : decode cX10_isMade 95 = .ok (.ireturn, 1) := by decide +kernel
theorem dX10_isMade_96 : decode cX10_isMade 96 = .ok (.aload_n 0, 1) := by decide +kernel
theorem dX10_isMade_97 : decode cX10_isMade 97 = .ok (.dup, 1) := by decide +kernel
theorem dX10_isMade_98 : decode cX10_isMade 98 = .ok (.getfield 145, 3) := by decide +kernel
theorem dX10_isMade_101 : decode cX10_isMade 101 = .ok (.iconst 1, 1) := by decide +kernel
theorem dX10_isMade_102 : decode cX10_isMade 102 = .ok (.isub, 1) := by decide +kernel
theorem dX10_isMade_103 : decode cX10_isMade 103 = .ok (.putfield 145, 3) := by decide +kernel
theorem dX10_isMade_106 : decode cX10_isMade 106 = .ok (.iconst 0, 1) := by decide +kernel
theorem dX10_isMade_107 : decode cX10_isMade 107 = .ok (.istore 6, 2) := by decide +kernel
theorem dX10_isMade_109 : decode cX10_isMade 109 = .ok (.iload 6, 2) := by decide +kernel
theorem dX10_isMade_111 : decode cX10_isMade 111 = .ok (.bipush 8, 2) := by decide +kernel
theorem dX10_isMade_113 : decode cX10_isMade 113 = .ok (.aload_n 0, 1) := by decide +kernel
theorem dX10_isMade_114 : decode cX10_isMade 114 = .ok (.getfield 145, 3) := by decide +kernel
theorem dX10_isMade_117 : decode cX10_isMade 117 = .ok (.iadd, 1) := by decide +kernel
theorem dX10_isMade_118 : decode cX10_isMade 118 = .ok (.if_icmp .ge 43, 3) := by decide +kernel
theorem dX10_isMade_121 : decode cX10_isMade 121 = .ok (.aload_n 0, 1) := by decide +kernel
theorem dX10_isMade_122 : decode cX10_isMade 122 = .ok (.getfield 45, 3) := by decide +kernel
theorem dX10_isMade_125 : decode cX10_isMade 125 = .ok (.iload 6, 2) := by decide +kernel
theorem dX10_isMade_127 : decode cX10_isMade 127 = .ok (.aload_n 0, 1) := by decide +kernel
theorem dX10_isMade_128 : decode cX10_isMade 128 = .ok (.getfield 45, 3) := by decide +kernel
theorem dX10_isMade_131 : decode cX10_isMade 131 = .ok (.iload 6, 2) := by decide +kernel
theorem dX10_isMade_133 : decode cX10_isMade 133 = .ok (.iaload, 1) := by decide +kernel
theorem dX10_isMade_134 : decode cX10_isMade 134 = .ok (.iload 4, 2) := by decide +kernel
theorem dX10_isMade_136 : decode cX10_isMade 136 = .ok (.if_icmp .ne 11, 3) := by decide +kernel
theorem dX10_isMade_139 : decode cX10_isMade 139 = .ok (.bipush 10, 2) := by decide +kernel
theorem dX10_isMade_141 : decode cX10_isMade 141 = .ok (.lload_n 2, 1) := by decide +kernel
theorem dX10_isMade_142 : decode cX10_isMade 142 = .ok (.l2i, 1) := by decide +kernel
theorem dX10_isMade_143 : decode cX10_isMade 143 = .ok (.iadd, 1) := by decide +kernel
theorem dX10_isMade_144 : decode cX10_isMade 144 = .ok (.goto 10, 3) := by decide +kernel
theorem dX10_isMade_147 : decode cX10_isMade 147 = .ok (.aload_n 0, 1) := by decide +kernel
theorem dX10_isMade_148 : decode cX10_isMade 148 = .ok (.getfield 45, 3) := by decide +kernel
theorem dX10_isMade_151 : decode cX10_isMade 151 = .ok (.iload 6, 2) := by decide +kernel
theorem dX10_isMade_153 : decode cX10_isMade 153 = .ok (.iaload, 1) := by decide +kernel
theorem dX10_isMade_154 : decode cX10_isMade 154 = .ok (.iastore, 1) := by decide +kernel
theorem dX10_isMade_155 : decode cX10_isMade 155 = .ok (.iinc 6 1, 3) := by decide +kernel
theorem dX10_isMade_158 : decode cX10_isMade 158 = .ok (.goto (-49), 3) := by decide +kernel
theorem dX10_isMade_161 : decode cX10_isMade 161 = .ok (.iconst 1, 1) := by decide +kernel
theorem dX10_isMade_162 : decode cX10_isMade 162 = .ok (.ireturn, 1) := by decide +kernel
theorem dX10_doesMore_0 : decode cX10_doesMore 0 = .ok (.iconst 0, 1) := by decide +kernel
theorem dX10_doesMore_1 : decode cX10_doesMore 1 = .ok (.istore 6, 2) := by decide +kernel
theorem dX10_doesMore_3 : decode cX10_doesMore 3 = .ok (.iconst 0, 1) := by decide +kernel
theorem dX10_doesMore_4 : decode cX10_doesMore 4 = .ok (.istore 7, 2) := by decide +kernel
theorem dX10_doesMore_6 : decode cX10_doesMore 6 = .ok (.iload_n 3, 1) := by decide +kernel
theorem dX10_doesMore_7 : decode cX10_doesMore 7 = .ok (.tableswitch 749 16 34 #[89, 152, 182, 212, 292, 364, 364, 414, 437, 414, 460, 493, 515, 591, 607, 639, 672, 678, 672], 89) := by decide +kernel
theorem dX10_doesMore_96 : decode cX10_doesMore 96 = .ok (.aload_n 0, 1) := by decide +kernel
theorem dX10_doesMore_97 : decode cX10_doesMore 97 = .ok (.getfield 145, 3) := by decide +kernel
theorem dX10_doesMore_100 : decode cX10_doesMore 100 = .ok (.ifCond .le 18, 3) := by decide +kernel
theorem dX10_doesMore_103 : decode cX10_doesMore 103 = .ok (.aload_n 0, 1) := by decide +kernel
theorem dX10_doesMore_104 : decode cX10_doesMore 104 = .ok (.getfield 45, 3) := by decide +kernel
theorem dX10_doesMore_107 : decode cX10_doesMore 107 = .ok (.bipush 7, 2) := by decide +kernel
theorem dX10_doesMore_109 : decode cX10_doesMore 109 = .ok (.aload_n 0, 1) := by decide +kernel
theorem dX10_doesMore_110 : decode cX10_doesMore 110 = .ok (.getfield 145, 3) := by decide +kernel
theorem dX10_doesMore_113 : decode cX10_doesMore 113 = .ok (.iadd, 1) := by decide +kernel
theorem dX10_doesMore_114 : decode cX10_doesMore 114 = .ok (.iaload, 1) := by decide +kernel
theorem dX10_doesMore_115 : decode cX10_doesMore 115 = .ok (.goto 4, 3) := by decide +kernel
theorem dX10_doesMore_118 : decode cX10_doesMore 118 = .ok (.iconst 0, 1) := by decide +kernel
theorem dX10_doesMore_119 : decode cX10_doesMore 119 = .ok (.istore 6, 2) := by decide +kernel
theorem dX10_doesMore_121 : decode cX10_doesMore 121 = .ok (.iload 6, 2) := by decide +kernel
theorem dX10_doesMore_123 : decode cX10_doesMore 123 = .ok (.iconst 5, 1) := by decide +kernel
theorem dX10_doesMore_124 : decode cX10_doesMore 124 = .ok (.if_icmp .eq 19, 3) := by decide +kernel
theorem dX10_doesMore_127 : decode cX10_doesMore 127 = .ok (.iload 6, 2) := by decide +kernel
theorem dX10_doesMore_129 : decode cX10_doesMore 129 = .ok (.invokestatic 99, 3) := by decide +kernel
theorem dX10_doesMore_132 : decode cX10_doesMore 132 = .ok (.ifCond .ne 11, 3) := by decide +kernel
theorem dX10_doesMore_135 : decode cX10_doesMore 135 = .ok (.iload 6, 2) := by decide +kernel
theorem dX10_doesMore_137 : decode cX10_doesMore 137 = .ok (.iconst 4, 1) := by decide +kernel
theorem dX10_doesMore_138 : decode cX10_doesMore 138 = .ok (.if_icmp .eq 5, 3) := by decide +kernel
theorem dX10_doesMore_141 : decode cX10_doesMore 141 = .ok (.iconst 0, 1) := by decide +kernel
theorem dX10_doesMore_142 : decode cX10_doesMore 142 = .ok (.ireturn, 1) := by decide +kernel
theorem dX10_doesMore_143 : decode cX10_doesMore 143 = .ok (.aload_n 0, 1) := by decide +kernel
theorem dX10_doesMore_144 : decode cX10_doesMore 144 = .ok (.dup, 1) := by decide +kernel
theorem dX10_doesMore_145 : decode cX10_doesMore 145 = .ok (.getfield 145, 3) := by decide +kernel
theorem dX10_doesMore_148 : decode cX10_doesMore 148 = .ok (.iconst 1, 1) := by decide +kernel
