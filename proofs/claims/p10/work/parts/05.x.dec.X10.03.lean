theorem dX10_doesMore_149 : decode cX10_doesMore 149 = .ok (.isub, 1) := by decide +kernel
theorem dX10_doesMore_150 : decode cX10_doesMore 150 = .ok (.putfield 145, 3) := by decide +kernel
theorem dX10_doesMore_153 : decode cX10_doesMore 153 = .ok (.aload_n 0, 1) := by decide +kernel
theorem dX10_doesMore_154 : decode cX10_doesMore 154 = .ok (.iconst 1, 1) := by decide +kernel
theorem dX10_doesMore_155 : decode cX10_doesMore 155 = .ok (.invokevirtual 148, 3) := by decide +kernel
theorem dX10_doesMore_158 : decode cX10_doesMore 158 = .ok (.ireturn, 1) := by decide +kernel
theorem dX10_doesMore_159 : decode cX10_doesMore 159 = .ok (.aload_n 0, 1) := by decide +kernel
theorem dX10_doesMore_160 : decode cX10_doesMore 160 = .ok (.iconst 1, 1) := by decide +kernel
theorem dX10_doesMore_161 : decode cX10_doesMore 161 = .ok (.invokevirtual 170, 3) := by decide +kernel
theorem dX10_doesMore_164 : decode cX10_doesMore 164 = .ok (.ifCond .eq 23, 3) := by decide +kernel
theorem dX10_doesMore_167 : decode cX10_doesMore 167 = .ok (.aload_n 0, 1) := by decide +kernel
theorem dX10_doesMore_168 : decode cX10_doesMore 168 = .ok (.iconst 5, 1) := by decide +kernel
theorem dX10_doesMore_169 : decode cX10_doesMore 169 = .ok (.invokevirtual 170, 3) := by decide +kernel
theorem dX10_doesMore_172 : decode cX10_doesMore 172 = .ok (.ifCond .eq 15, 3) := by decide +kernel
theorem dX10_doesMore_175 : decode cX10_doesMore 175 = .ok (.aload_n 0, 1) := by decide +kernel
theorem dX10_doesMore_176 : decode cX10_doesMore 176 = .ok (.iconst 1, 1) := by decide +kernel
theorem dX10_doesMore_177 : decode cX10_doesMore 177 = .ok (.invokevirtual 148, 3) := by decide +kernel
theorem dX10_doesMore_180 : decode cX10_doesMore 180 = .ok (.ifCond .eq 7, 3) := by decide +kernel
theorem dX10_doesMore_183 : decode cX10_doesMore 183 = .ok (.iconst 1, 1) := by decide +kernel
theorem dX10_doesMore_184 : decode cX10_doesMore 184 = .ok (.goto 4, 3) := by decide +kernel
theorem dX10_doesMore_187 : decode cX10_doesMore 187 = .ok (.iconst 0, 1) := by decide +kernel
theorem dX10_doesMore_188 : decode cX10_doesMore 188 = .ok (.ireturn, 1) := by decide +kernel
theorem dX10_doesMore_189 : decode cX10_doesMore 189 = .ok (.aload_n 0, 1) := by decide +kernel
theorem dX10_doesMore_190 : decode cX10_doesMore 190 = .ok (.iconst 1, 1) := by decide +kernel
theorem dX10_doesMore_191 : decode cX10_doesMore 191 = .ok (.invokevirtual 170, 3) := by decide +kernel
theorem dX10_doesMore_194 : decode cX10_doesMore 194 = .ok (.ifCond .eq 23, 3) := by decide +kernel
theorem dX10_doesMore_197 : decode cX10_doesMore 197 = .ok (.aload_n 0, 1) := by decide +kernel
theorem dX10_doesMore_198 : decode cX10_doesMore 198 = .ok (.iconst 1, 1) := by decide +kernel
theorem dX10_doesMore_199 : decode cX10_doesMore 199 = .ok (.invokevirtual 170, 3) := by decide +kernel
theorem dX10_doesMore_202 : decode cX10_doesMore 202 = .ok (.ifCond .eq 15, 3) := by decide +kernel
theorem dX10_doesMore_205 : decode cX10_doesMore 205 = .ok (.aload_n 0, 1) := by decide +kernel
theorem dX10_doesMore_206 : decode cX10_doesMore 206 = .ok (.iconst 5, 1) := by decide +kernel
theorem dX10_doesMore_207 : decode cX10_doesMore 207 = .ok (.invokevirtual 170, 3) := by decide +kernel
theorem dX10_doesMore_210 : decode cX10_doesMore 210 = .ok (.ifCond .eq 7, 3) := by decide +kernel
theorem dX10_doesMore_213 : decode cX10_doesMore 213 = .ok (.iconst 1, 1) := by decide +kernel
theorem dX10_doesMore_214 : decode cX10_doesMore 214 = .ok (.goto 4, 3) := by decide +kernel
theorem dX10_doesMore_217 : decode cX10_doesMore 217 = .ok (.iconst 0, 1) := by decide +kernel
theorem dX10_doesMore_218 : decode cX10_doesMore 218 = .ok (.ireturn, 1) := by decide +kernel
theorem dX10_doesMore_219 : decode cX10_doesMore 219 = .ok (.aload_n 0, 1) := by decide +kernel
theorem dX10_doesMore_220 : decode cX10_doesMore 220 = .ok (.iconst 1, 1) := by decide +kernel
theorem dX10_doesMore_221 : decode cX10_doesMore 221 = .ok (.invokevirtual 170, 3) := by decide +kernel
theorem dX10_doesMore_224 : decode cX10_doesMore 224 = .ok (.ifCond .eq 10, 3) := by decide +kernel
theorem dX10_doesMore_227 : decode cX10_doesMore 227 = .ok (.aload_n 0, 1) := by decide +kernel
theorem dX10_doesMore_228 : decode cX10_doesMore 228 = .ok (.getfield 145, 3) := by decide +kernel
theorem dX10_doesMore_231 : decode cX10_doesMore 231 = .ok (.ifCond .ne 5, 3) := by decide +kernel
theorem dX10_doesMore_234 : decode cX10_doesMore 234 = .ok (.iconst 0, 1) := by decide +kernel
theorem dX10_doesMore_235 : decode cX10_doesMore 235 = .ok (.ireturn, 1) := by decide +kernel
theorem dX10_doesMore_236 : decode cX10_doesMore 236 = .ok (.aload_n 0, 1) := by decide +kernel
theorem dX10_doesMore_237 : decode cX10_doesMore 237 = .ok (.getfield 45, 3) := by decide +kernel
theorem dX10_doesMore_240 : decode cX10_doesMore 240 = .ok (.bipush 7, 2) := by decide +kernel
theorem dX10_doesMore_242 : decode cX10_doesMore 242 = .ok (.aload_n 0, 1) := by decide +kernel
theorem dX10_doesMore_243 : decode cX10_doesMore 243 = .ok (.getfield 145, 3) := by decide +kernel
theorem dX10_doesMore_246 : decode cX10_doesMore 246 = .ok (.iadd, 1) := by decide +kernel
theorem dX10_doesMore_247 : decode cX10_doesMore 247 = .ok (.iaload, 1) := by decide +kernel
theorem dX10_doesMore_248 : decode cX10_doesMore 248 = .ok (.istore 6, 2) := by decide +kernel
theorem dX10_doesMore_250 : decode cX10_doesMore 250 = .ok (.iload 6, 2) := by decide +kernel
theorem dX10_doesMore_252 : decode cX10_doesMore 252 = .ok (.invokestatic 99, 3) := by decide +kernel
theorem dX10_doesMore_255 : decode cX10_doesMore 255 = .ok (.ifCond .ne 11, 3) := by decide +kernel
theorem dX10_doesMore_258 : decode cX10_doesMore 258 = .ok (.iload 6, 2) := by decide +kernel
theorem dX10_doesMore_260 : decode cX10_doesMore 260 = .ok (.iconst 4, 1) := by decide +kernel
theorem dX10_doesMore_261 : decode cX10_doesMore 261 = .ok (.if_icmp .eq 5, 3) := by decide +kernel
theorem dX10_doesMore_264 : decode cX10_doesMore 264 = .ok (.iconst 0, 1) := by decide +kernel
theorem dX10_doesMore_265 : decode cX10_doesMore 265 = .ok (.ireturn, 1) := by decide +kernel
theorem dX10_doesMore_266 : decode cX10_doesMore 266 = .ok (.aload_n 0, 1) := by decide +kernel
theorem dX10_doesMore_267 : decode cX10_doesMore 267 = .ok (.dup, 1) := by decide +kernel
theorem dX10_doesMore_268 : decode cX10_doesMore 268 = .ok (.getfield 145, 3) := by decide +kernel
theorem dX10_doesMore_271 : decode cX10_doesMore 271 = .ok (.iconst 1, 1) := by decide +kernel
theorem dX10_doesMore_272 : decode cX10_doesMore 272 = .ok (.isub, 1) := by decide +kernel
theorem dX10_doesMore_273 : decode cX10_doesMore 273 = .ok (.putfield 145, 3) := by decide +kernel
theorem dX10_doesMore_276 : decode cX10_doesMore 276 = .ok (.aload_n 0, 1) := by decide +kernel
theorem dX10_doesMore_277 : decode cX10_doesMore 277 = .ok (.iload 6, 2) := by decide +kernel
theorem dX10_doesMore_279 : decode cX10_doesMore 279 = .ok (.iconst 4, 1) := by decide +kernel
theorem dX10_doesMore_280 : decode cX10_doesMore 280 = .ok (.if_icmp .ne 7, 3) := by decide +kernel
theorem dX10_doesMore_283 : decode cX10_doesMore 283 = .ok (.iconst 4, 1) := by decide +kernel
theorem dX10_doesMore_284 : decode cX10_doesMore 284 = .ok (.goto 11, 3) := by decide +kernel
theorem dX10_doesMore_287 : decode cX10_doesMore 287 = .ok (.bipush 10, 2) := by decide +kernel
theorem dX10_doesMore_289 : decode cX10_doesMore 289 = .ok (.iload 6, 2) := by decide +kernel
theorem dX10_doesMore_291 : decode cX10_doesMore 291 = .ok (.iadd, 1) := by decide +kernel
theorem dX10_doesMore_292 : decode cX10_doesMore 292 = .ok (.bipush 20, 2) := by decide +kernel
theorem dX10_doesMore_294 : decode cX10_doesMore 294 = .ok (.isub, 1) := by decide +kernel
theorem dX10_doesMore_295 : decode cX10_doesMore 295 = .ok (.invokevirtual 148, 3) := by decide +kernel
theorem dX10_doesMore_298 : decode cX10_doesMore 298 = .ok (.ireturn, 1) := by decide +kernel
theorem dX10_doesMore_299 : decode cX10_doesMore 299 = .ok (.aload_n 0, 1) := by decide +kernel
theorem dX10_doesMore_300 : decode cX10_doesMore 300 = .ok (.bipush 10, 2) := by decide +kernel
theorem dX10_doesMore_302 : decode cX10_doesMore 302 = .ok (.invokevirtual 170, 3) := by decide +kernel
theorem dX10_doesMore_305 : decode cX10_doesMore 305 = .ok (.ifCond .eq 52, 3) := by decide +kernel
theorem dX10_doesMore_308 : decode cX10_doesMore 308 = .ok (.aload_n 0, 1) := by decide +kernel
theorem dX10_doesMore_309 : decode cX10_doesMore 309 = .ok (.iconst 1, 1) := by decide +kernel
theorem dX10_doesMore_310 : decode cX10_doesMore 310 = .ok (.invokevirtual 170, 3) := by decide +kernel
theorem dX10_doesMore_313 : decode cX10_doesMore 313 = .ok (.ifCond .eq 44, 3) := by decide +kernel
theorem dX10_doesMore_316 : decode cX10_doesMore 316 = .ok (.aload_n 0, 1) := by decide +kernel
theorem dX10_doesMore_317 : decode cX10_doesMore 317 = .ok (.getfield 145, 3) := by decide +kernel
theorem dX10_doesMore_320 : decode cX10_doesMore 320 = .ok (.ifCond .eq 37, 3) := by decide +kernel
theorem dX10_doesMore_323 : decode cX10_doesMore 323 = .ok (.aload_n 0, 1) := by decide +kernel
theorem dX10_doesMore_324 : decode cX10_doesMore 324 = .ok (.getfield 45, 3) := by decide +kernel
theorem dX10_doesMore_327 : decode cX10_doesMore 327 = .ok (.bipush 7, 2) := by decide +kernel
theorem dX10_doesMore_329 : decode cX10_doesMore 329 = .ok (.aload_n 0, 1) := by decide +kernel
theorem dX10_doesMore_330 : decode cX10_doesMore 330 = .ok (.getfield 145, 3) := by decide +kernel
theorem dX10_doesMore_333 : decode cX10_doesMore 333 = .ok (.iadd, 1) := by decide +kernel
theorem dX10_doesMore_334 : decode cX10_doesMore 334 = .ok (.iaload, 1) := by decide +kernel
theorem dX10_doesMore_335 : decode cX10_doesMore 335 = .ok (.invokestatic 99, 3) := by decide +kernel
theorem dX10_doesMore_338 : decode cX10_doesMore 338 = .ok (.ifCond .ne 21, 3) := by decide +kernel
theorem dX10_doesMore_341 : decode cX10_doesMore 341 = .ok (.aload_n 0, 1) := by decide +kernel
theorem dX10_doesMore_342 : decode cX10_doesMore 342 = .ok (.getfield 45, 3) := by decide +kernel
theorem dX10_doesMore_345 : decode cX10_doesMore 345 = .ok (.bipush 7, 2) := by decide +kernel
theorem dX10_doesMore_347 : decode cX10_doesMore 347 = .ok (.aload_n 0, 1) := by decide +kernel
theorem dX10_doesMore_348 : decode cX10_doesMore 348 = .ok (.getfield 145, 3) := by decide +kernel
theorem dX10_doesMore_351 : decode cX10_doesMore 351 = .ok (.iadd, 1) := by decide +kernel
theorem dX10_doesMore_352 : decode cX10_doesMore 352 = .ok (.iaload, 1) := by decide +kernel
theorem dX10_doesMore_353 : decode cX10_doesMore 353 = .ok (.iconst 4, 1) := by decide +kernel
theorem dX10_doesMore_354 : decode cX10_doesMore 354 = .ok (.if_icmp .eq 5, 3) := by decide +kernel
theorem dX10_doesMore_357 : decode cX10_doesMore 357 = .ok (.iconst 0, 1) := by decide +kernel
theorem dX10_doesMore_358 : decode cX10_doesMore 358 = .ok (.ireturn, 1) := by decide +kernel
theorem dX10_doesMore_359 : decode cX10_doesMore 359 = .ok (.aload_n 0, 1) := by decide +kernel
theorem dX10_doesMore_360 : decode cX10_doesMore 360 = .ok (.dup, 1) := by decide +kernel
theorem dX10_doesMore_361 : decode cX10_doesMore 361 = .ok (.getfield 145, 3) := by decide +kernel
theorem dX10_doesMore_364 : decode cX10_doesMore 364 = .ok (.iconst 1, 1) := by decide +kernel
theorem dX10_doesMore_365 : decode cX10_doesMore 365 = .ok (.isub, 1) := by decide +kernel
theorem dX10_doesMore_366 : decode cX10_doesMore 366 = .ok (.putfield 145, 3) := by decide +kernel
theorem dX10_doesMore_369 : decode cX10_doesMore 369 = .ok (.iconst 1, 1) := by decide +kernel
theorem dX10_doesMore_370 : decode cX10_doesMore 370 = .ok (.ireturn, 1) := by decide +kernel
theorem dX10_doesMore_371 : decode cX10_doesMore 371 = .ok (.lload 4, 2) := by decide +kernel
theorem dX10_doesMore_373 : decode cX10_doesMore 373 = .ok (.lconst 0, 1) := by decide +kernel
theorem dX10_doesMore_374 : decode cX10_doesMore 374 = .ok (.ldc2_w 139, 3) := by decide +kernel
theorem dX10_doesMore_377 : decode cX10_doesMore 377 = .ok (.invokestatic 79, 3) := by decide +kernel
theorem dX10_doesMore_380 : decode cX10_doesMore 380 = .ok (.ifCond .eq 39, 3) := by decide +kernel
theorem dX10_doesMore_383 : decode cX10_doesMore 383 = .ok (.aload_n 0, 1) := by decide +kernel
theorem dX10_doesMore_384 : decode cX10_doesMore 384 = .ok (.bipush 10, 2) := by decide +kernel
theorem dX10_doesMore_386 : decode cX10_doesMore 386 = .ok (.invokevirtual 170, 3) := by decide +kernel
theorem dX10_doesMore_389 : decode cX10_doesMore 389 = .ok (.ifCond .eq 30, 3) := by decide +kernel
theorem dX10_doesMore_392 : decode cX10_doesMore 392 = .ok (.aload_n 0, 1) := by decide +kernel
theorem dX10_doesMore_393 : decode cX10_doesMore 393 = .ok (.iload_n 3, 1) := by decide +kernel
theorem dX10_doesMore_394 : decode cX10_doesMore 394 = .ok (.bipush 21, 2) := by decide +kernel
theorem dX10_doesMore_396 : decode cX10_doesMore 396 = .ok (.if_icmp .ne 12, 3) := by decide +kernel
theorem dX10_doesMore_399 : decode cX10_doesMore 399 = .ok (.bipush 10, 2) := by decide +kernel
theorem dX10_doesMore_401 : decode cX10_doesMore 401 = .ok (.lload 4, 2) := by decide +kernel
theorem dX10_doesMore_403 : decode cX10_doesMore 403 = .ok (.l2i, 1) := by decide +kernel
theorem dX10_doesMore_404 : decode cX10_doesMore 404 = .ok (.iadd, 1) := by decide +kernel
theorem dX10_doesMore_405 : decode cX10_doesMore 405 = .ok (.goto 4, 3) := by decide +kernel
theorem dX10_doesMore_408 : decode cX10_doesMore 408 = .ok (.iconst 1, 1) := by decide +kernel
theorem dX10_doesMore_409 : decode cX10_doesMore 409 = .ok (.invokevirtual 148, 3) := by decide +kernel
theorem dX10_doesMore_412 : decode cX10_doesMore 412 = .ok (.ifCond .eq 7, 3) := by decide +kernel
theorem dX10_doesMore_415 : decode cX10_doesMore 415 = .ok (.iconst 1, 1) := by decide +kernel
theorem dX10_doesMore_416 : decode cX10_doesMore 416 = .ok (.goto 4, 3) := by decide +kernel
theorem dX10_doesMore_419 : decode cX10_doesMore 419 = .ok (.iconst 0, 1) := by decide +kernel
theorem dX10_doesMore_420 : decode cX10_doesMore 420 = .ok (.ireturn, 1) := by decide +kernel
theorem dX10_doesMore_421 : decode cX10_doesMore 421 = .ok (.aload_n 0, 1) := by decide +kernel
theorem dX10_doesMore_422 : decode cX10_doesMore 422 = .ok (.bipush 11, 2) := by decide +kernel
theorem dX10_doesMore_424 : decode cX10_doesMore 424 = .ok (.invokevirtual 170, 3) := by decide +kernel
theorem dX10_doesMore_427 : decode cX10_doesMore 427 = .ok (.ifCond .eq 15, 3) := by decide +kernel
theorem dX10_doesMore_430 : decode cX10_doesMore 430 = .ok (.aload_n 0, 1) := by decide +kernel
theorem dX10_doesMore_431 : decode cX10_doesMore 431 = .ok (.iconst 1, 1) := by decide +kernel
theorem dX10_doesMore_432 : decode cX10_doesMore 432 = .ok (.invokevirtual 148, 3) := by decide +kernel
theorem dX10_doesMore_435 : decode cX10_doesMore 435 = .ok (.ifCond .eq 7, 3) := by decide +kernel
theorem dX10_doesMore_438 : decode cX10_doesMore 438 = .ok (.iconst 1, 1) := by decide +kernel
theorem dX10_doesMore_439 : decode cX10_doesMore 439 = .ok (.goto 4, 3) := by decide +kernel
theorem dX10_doesMore_442 : decode cX10_doesMore 442 = .ok (.iconst 0, 1) := by decide +kernel
theorem dX10_doesMore_443 : decode cX10_doesMore 443 = .ok (.ireturn, 1) := by decide +kernel
theorem dX10_doesMore_444 : decode cX10_doesMore 444 = .ok (.aload_n 0, 1) := by decide +kernel
theorem dX10_doesMore_445 : decode cX10_doesMore 445 = .ok (.iconst 1, 1) := by decide +kernel
theorem dX10_doesMore_446 : decode cX10_doesMore 446 = .ok (.invokevirtual 170, 3) := by decide +kernel
theorem dX10_doesMore_449 : decode cX10_doesMore 449 = .ok (.ifCond .eq 16, 3) := by decide +kernel
theorem dX10_doesMore_452 : decode cX10_doesMore 452 = .ok (.aload_n 0, 1) := by decide +kernel
theorem dX10_doesMore_453 : decode cX10_doesMore 453 = .ok (.bipush 11, 2) := by decide +kernel
theorem dX10_doesMore_455 : decode cX10_doesMore 455 = .ok (.invokevirtual 170, 3) := by decide +kernel
theorem dX10_doesMore_458 : decode cX10_doesMore 458 = .ok (.ifCond .eq 7, 3) := by decide +kernel
theorem dX10_doesMore_461 : decode cX10_doesMore 461 = .ok (.iconst 1, 1) := by decide +kernel
theorem dX10_doesMore_462 : decode cX10_doesMore 462 = .ok (.goto 4, 3) := by decide +kernel
theorem dX10_doesMore_465 : decode cX10_doesMore 465 = .ok (.iconst 0, 1) := by decide +kernel
theorem dX10_doesMore_466 : decode cX10_doesMore 466 = .ok (.ireturn, 1) := by decide +kernel
theorem dX10_doesMore_467 : decode cX10_doesMore 467 = .ok (.aload_n 0, 1) := by decide +kernel
theorem dX10_doesMore_468 : decode cX10_doesMore 468 = .ok (.iconst 0, 1) := by decide +kernel
theorem dX10_doesMore_469 : decode cX10_doesMore 469 = .ok (.invokevirtual 158, 3) := by decide +kernel
theorem dX10_doesMore_472 : decode cX10_doesMore 472 = .ok (.ifCond .eq 26, 3) := by decide +kernel
theorem dX10_doesMore_475 : decode cX10_doesMore 475 = .ok (.aload_n 0, 1) := by decide +kernel
theorem dX10_doesMore_476 : decode cX10_doesMore 476 = .ok (.aload_n 0, 1) := by decide +kernel
theorem dX10_doesMore_477 : decode cX10_doesMore 477 = .ok (.getfield 45, 3) := by decide +kernel
theorem dX10_doesMore_480 : decode cX10_doesMore 480 = .ok (.bipush 7, 2) := by decide +kernel
theorem dX10_doesMore_482 : decode cX10_doesMore 482 = .ok (.aload_n 0, 1) := by decide +kernel
theorem dX10_doesMore_483 : decode cX10_doesMore 483 = .ok (.getfield 145, 3) := by decide +kernel
theorem dX10_doesMore_486 : decode cX10_doesMore 486 = .ok (.iadd, 1) := by decide +kernel
theorem dX10_doesMore_487 : decode cX10_doesMore 487 = .ok (.iaload, 1) := by decide +kernel
theorem dX10_doesMore_488 : decode cX10_doesMore 488 = .ok (.invokevirtual 148, 3) := by decide +kernel
theorem dX10_doesMore_491 : decode cX10_doesMore 491 = .ok (.ifCond .eq 7, 3) := by decide +kernel
theorem dX10_doesMore_494 : decode cX10_doesMore 494 = .ok (.iconst 1, 1) := by decide +kernel
theorem dX10_doesMore_495 : decode cX10_doesMore 495 = .ok (.goto 4, 3) := by decide +kernel
theorem dX10_doesMore_498 : decode cX10_doesMore 498 = .ok (.iconst 0, 1) := by decide +kernel
theorem dX10_doesMore_499 : decode cX10_doesMore 499 = .ok (.ireturn, 1) := by decide +kernel
theorem dX10_doesMore_500 : decode cX10_doesMore 500 = .ok (.aload_n 0, 1) := by decide +kernel
theorem dX10_doesMore_501 : decode cX10_doesMore 501 = .ok (.iconst 0, 1) := by decide +kernel
theorem dX10_doesMore_502 : decode cX10_doesMore 502 = .ok (.invokevirtual 158, 3) := by decide +kernel
theorem dX10_doesMore_505 : decode cX10_doesMore 505 = .ok (.ifCond .ne 5, 3) := by decide +kernel
theorem dX10_doesMore_508 : decode cX10_doesMore 508 = .ok (.iconst 0, 1) := by decide +kernel
theorem dX10_doesMore_509 : decode cX10_doesMore 509 = .ok (.ireturn, 1) := by decide +kernel
theorem dX10_doesMore_510 : decode cX10_doesMore 510 = .ok (.aload_n 0, 1) := by decide +kernel
theorem dX10_doesMore_511 : decode cX10_doesMore 511 = .ok (.dup, 1) := by decide +kernel
theorem dX10_doesMore_512 : decode cX10_doesMore 512 = .ok (.getfield 145, 3) := by decide +kernel
theorem dX10_doesMore_515 : decode cX10_doesMore 515 = .ok (.iconst 1, 1) := by decide +kernel
theorem dX10_doesMore_516 : decode cX10_doesMore 516 = .ok (.isub, 1) := by decide +kernel
theorem dX10_doesMore_517 : decode cX10_doesMore 517 = .ok (.putfield 145, 3) := by decide +kernel
theorem dX10_doesMore_520 : decode cX10_doesMore 520 = .ok (.iconst 1, 1) := by decide +kernel
theorem dX10_doesMore_521 : decode cX10_doesMore 521 = .ok (.ireturn, 1) := by decide +kernel
theorem dX10_doesMore_522 : decode cX10_doesMore 522 = .ok (.aload_n 0, 1) := by decide +kernel
theorem dX10_doesMore_523 : decode cX10_doesMore 523 = .ok (.iconst 0, 1) := by decide +kernel
theorem dX10_doesMore_524 : decode cX10_doesMore 524 = .ok (.invokevirtual 158, 3) := by decide +kernel
theorem dX10_doesMore_527 : decode cX10_doesMore 527 = .ok (.ifCond .eq 11, 3) := by decide +kernel
theorem dX10_doesMore_530 : decode cX10_doesMore 530 = .ok (.aload_n 0, 1) := by decide +kernel
theorem dX10_doesMore_531 : decode cX10_doesMore 531 = .ok (.iconst 1, 1) := by decide +kernel
theorem dX10_doesMore_532 : decode cX10_doesMore 532 = .ok (.invokevirtual 158, 3) := by decide +kernel
theorem dX10_doesMore_535 : decode cX10_doesMore 535 = .ok (.ifCond .ne 5, 3) := by decide +kernel
theorem dX10_doesMore_538 : decode cX10_doesMore 538 = .ok (.iconst 0, 1) := by decide +kernel
theorem dX10_doesMore_539 : decode cX10_doesMore 539 = .ok (.ireturn, 1) := by decide +kernel
theorem dX10_doesMore_540 : decode cX10_doesMore 540 = .ok (.aload_n 0, 1) := by decide +kernel
theorem dX10_doesMore_541 : decode cX10_doesMore 541 = .ok (.getfield 45, 3) := by decide +kernel
theorem dX10_doesMore_544 : decode cX10_doesMore 544 = .ok (.bipush 7, 2) := by decide +kernel
theorem dX10_doesMore_546 : decode cX10_doesMore 546 = .ok (.aload_n 0, 1) := by decide +kernel
theorem dX10_doesMore_547 : decode cX10_doesMore 547 = .ok (.getfield 145, 3) := by decide +kernel
theorem dX10_doesMore_550 : decode cX10_doesMore 550 = .ok (.iadd, 1) := by decide +kernel
theorem dX10_doesMore_551 : decode cX10_doesMore 551 = .ok (.iaload, 1) := by decide +kernel
theorem dX10_doesMore_552 : decode cX10_doesMore 552 = .ok (.istore 6, 2) := by decide +kernel
theorem dX10_doesMore_554 : decode cX10_doesMore 554 = .ok (.aload_n 0, 1) := by decide +kernel
theorem dX10_doesMore_555 : decode cX10_doesMore 555 = .ok (.getfield 45, 3) := by decide +kernel
theorem dX10_doesMore_558 : decode cX10_doesMore 558 = .ok (.bipush 6, 2) := by decide +kernel
theorem dX10_doesMore_560 : decode cX10_doesMore 560 = .ok (.aload_n 0, 1) := by decide +kernel
theorem dX10_doesMore_561 : decode cX10_doesMore 561 = .ok (.getfield 145, 3) := by decide +kernel
theorem dX10_doesMore_564 : decode cX10_doesMore 564 = .ok (.iadd, 1) := by decide +kernel
theorem dX10_doesMore_565 : decode cX10_doesMore 565 = .ok (.iaload, 1) := by decide +kernel
theorem dX10_doesMore_566 : decode cX10_doesMore 566 = .ok (.istore 7, 2) := by decide +kernel
theorem dX10_doesMore_568 : decode cX10_doesMore 568 = .ok (.aload_n 0, 1) := by decide +kernel
theorem dX10_doesMore_569 : decode cX10_doesMore 569 = .ok (.getfield 45, 3) := by decide +kernel
theorem dX10_doesMore_572 : decode cX10_doesMore 572 = .ok (.bipush 7, 2) := by decide +kernel
theorem dX10_doesMore_574 : decode cX10_doesMore 574 = .ok (.aload_n 0, 1) := by decide +kernel
theorem dX10_doesMore_575 : decode cX10_doesMore 575 = .ok (.getfield 145, 3) := by decide +kernel
theorem dX10_doesMore_578 : decode cX10_doesMore 578 = .ok (.iadd, 1) := by decide +kernel
theorem dX10_doesMore_579 : decode cX10_doesMore 579 = .ok (.iload 7, 2) := by decide +kernel
theorem dX10_doesMore_581 : decode cX10_doesMore 581 = .ok (.iastore, 1) := by decide +kernel
theorem dX10_doesMore_582 : decode cX10_doesMore 582 = .ok (.aload_n 0, 1) := by decide +kernel
theorem dX10_doesMore_583 : decode cX10_doesMore 583 = .ok (.getfield 45, 3) := by decide +kernel
theorem dX10_doesMore_586 : decode cX10_doesMore 586 = .ok (.bipush 6, 2) := by decide +kernel
theorem dX10_doesMore_588 : decode cX10_doesMore 588 = .ok (.aload_n 0, 1) := by decide +kernel
theorem dX10_doesMore_589 : decode cX10_doesMore 589 = .ok (.getfield 145, 3) := by decide +kernel
theorem dX10_doesMore_592 : decode cX10_doesMore 592 = .ok (.iadd, 1) := by decide +kernel
theorem dX10_doesMore_593 : decode cX10_doesMore 593 = .ok (.iload 6, 2) := by decide +kernel
theorem dX10_doesMore_595 : decode cX10_doesMore 595 = .ok (.iastore, 1) := by decide +kernel
theorem dX10_doesMore_596 : decode cX10_doesMore 596 = .ok (.iconst 1, 1) := by decide +kernel
theorem dX10_doesMore_597 : decode cX10_doesMore 597 = .ok (.ireturn, 1) := by decide +kernel
theorem dX10_doesMore_598 : decode cX10_doesMore 598 = .ok (.lload 4, 2) := by decide +kernel
theorem dX10_doesMore_600 : decode cX10_doesMore 600 = .ok (.lconst 0, 1) := by decide +kernel
theorem dX10_doesMore_601 : decode cX10_doesMore 601 = .ok (.aload_n 0, 1) := by decide +kernel
theorem dX10_doesMore_602 : decode cX10_doesMore 602 = .ok (.getfield 13, 3) := by decide +kernel
theorem dX10_doesMore_605 : decode cX10_doesMore 605 = .ok (.iload_n 1, 1) := by decide +kernel
theorem dX10_doesMore_606 : decode cX10_doesMore 606 = .ok (.iaload, 1) := by decide +kernel
theorem dX10_doesMore_607 : decode cX10_doesMore 607 = .ok (.iconst 1, 1) := by decide +kernel
theorem dX10_doesMore_608 : decode cX10_doesMore 608 = .ok (.isub, 1) := by decide +kernel
theorem dX10_doesMore_609 : decode cX10_doesMore 609 = .ok (.i2l, 1) := by decide +kernel
theorem dX10_doesMore_610 : decode cX10_doesMore 610 = .ok (.invokestatic 79, 3) := by decide +kernel
theorem dX10_doesMore_613 : decode cX10_doesMore 613 = .ok (.ireturn, 1) := by decide +kernel
theorem dX10_doesMore_614 : decode cX10_doesMore 614 = .ok (.lload 4, 2) := by decide +kernel
theorem dX10_doesMore_616 : decode cX10_doesMore 616 = .ok (.lconst 0, 1) := by decide +kernel
theorem dX10_doesMore_617 : decode cX10_doesMore 617 = .ok (.aload_n 0, 1) := by decide +kernel
theorem dX10_doesMore_618 : decode cX10_doesMore 618 = .ok (.getfield 13, 3) := by decide +kernel
theorem dX10_doesMore_621 : decode cX10_doesMore 621 = .ok (.iload_n 1, 1) := by decide +kernel
theorem dX10_doesMore_622 : decode cX10_doesMore 622 = .ok (.iaload, 1) := by decide +kernel
theorem dX10_doesMore_623 : decode cX10_doesMore 623 = .ok (.iconst 1, 1) := by decide +kernel
theorem dX10_doesMore_624 : decode cX10_doesMore 624 = .ok (.isub, 1) := by decide +kernel
theorem dX10_doesMore_625 : decode cX10_doesMore 625 = .ok (.i2l, 1) := by decide +kernel
theorem dX10_doesMore_626 : decode cX10_doesMore 626 = .ok (.invokestatic 79, 3) := by decide +kernel
theorem dX10_doesMore_629 : decode cX10_doesMore 629 = .ok (.ifCond .eq 15, 3) := by decide +kernel
theorem dX10_doesMore_632 : decode cX10_doesMore 632 = .ok (.aload_n 0, 1) := by decide +kernel
theorem dX10_doesMore_633 : decode cX10_doesMore 633 = .ok (.iconst 1, 1) := by decide +kernel
theorem dX10_doesMore_634 : decode cX10_doesMore 634 = .ok (.invokevirtual 170, 3) := by decide +kernel
theorem dX10_doesMore_637 : decode cX10_doesMore 637 = .ok (.ifCond .eq 7, 3) := by decide +kernel
theorem dX10_doesMore_640 : decode cX10_doesMore 640 = .ok (.iconst 1, 1) := by decide +kernel
theorem dX10_doesMore_641 : decode cX10_doesMore 641 = .ok (.goto 4, 3) := by decide +kernel
theorem dX10_doesMore_644 : decode cX10_doesMore 644 = .ok (.iconst 0, 1) := by decide +kernel
theorem dX10_doesMore_645 : decode cX10_doesMore 645 = .ok (.ireturn, 1) := by decide +kernel
theorem dX10_doesMore_646 : decode cX10_doesMore 646 = .ok (.lload 4, 2) := by decide +kernel
theorem dX10_doesMore_648 : decode cX10_doesMore 648 = .ok (.lconst 0, 1) := by decide +kernel
theorem dX10_doesMore_649 : decode cX10_doesMore 649 = .ok (.aload_n 0, 1) := by decide +kernel
theorem dX10_doesMore_650 : decode cX10_doesMore 650 = .ok (.getfield 13, 3) := by decide +kernel
theorem dX10_doesMore_653 : decode cX10_doesMore 653 = .ok (.iload_n 1, 1) := by decide +kernel
theorem dX10_doesMore_654 : decode cX10_doesMore 654 = .ok (.iaload, 1) := by decide +kernel
theorem dX10_doesMore_655 : decode cX10_doesMore 655 = .ok (.iconst 1, 1) := by decide +kernel
theorem dX10_doesMore_656 : decode cX10_doesMore 656 = .ok (.isub, 1) := by decide +kernel
theorem dX10_doesMore_657 : decode cX10_doesMore 657 = .ok (.i2l, 1) := by decide +kernel
theorem dX10_doesMore_658 : decode cX10_doesMore 658 = .ok (.invokestatic 79, 3) := by decide +kernel
theorem dX10_doesMore_661 : decode cX10_doesMore 661 = .ok (.ifCond .eq 16, 3) := by decide +kernel
theorem dX10_doesMore_664 : decode cX10_doesMore 664 = .ok (.aload_n 0, 1) := by decide +kernel
theorem dX10_doesMore_665 : decode cX10_doesMore 665 = .ok (.bipush 10, 2) := by decide +kernel
theorem dX10_doesMore_667 : decode cX10_doesMore 667 = .ok (.invokevirtual 170, 3) := by decide +kernel
theorem dX10_doesMore_670 : decode cX10_doesMore 670 = .ok (.ifCond .eq 7, 3) := by decide +kernel
theorem dX10_doesMore_673 : decode cX10_doesMore 673 = .ok (.iconst 1, 1) := by decide +kernel
theorem dX10_doesMore_674 : decode cX10_doesMore 674 = .ok (.goto 4, 3) := by decide +kernel
theorem dX10_doesMore_677 : decode cX10_doesMore 677 = .ok (.iconst 0, 1) := by decide +kernel
theorem dX10_doesMore_678 : decode cX10_doesMore 678 = .ok (.ireturn, 1) := by decide +kernel
theorem dX10_doesMore_679 : decode cX10_doesMore 679 = .ok (.aload_n 0, 1) := by decide +kernel
theorem dX10_doesMore_680 : decode cX10_doesMore 680 = .ok (.iconst 1, 1) := by decide +kernel
theorem dX10_doesMore_681 : decode cX10_doesMore 681 = .ok (.invokevirtual 170, 3) := by decide +kernel
theorem dX10_doesMore_684 : decode cX10_doesMore 684 = .ok (.ireturn, 1) := by decide +kernel
theorem dX10_doesMore_685 : decode cX10_doesMore 685 = .ok (.lload 4, 2) := by decide +kernel
theorem dX10_doesMore_687 : decode cX10_doesMore 687 = .ok (.lconst 0, 1) := by decide +kernel
theorem dX10_doesMore_688 : decode cX10_doesMore 688 = .ok (.iload_n 1, 1) := by decide +kernel
theorem dX10_doesMore_689 : decode cX10_doesMore 689 = .ok (.iconst 1, 1) := by decide +kernel
theorem dX10_doesMore_690 : decode cX10_doesMore 690 = .ok (.isub, 1) := by decide +kernel
theorem dX10_doesMore_691 : decode cX10_doesMore 691 = .ok (.i2l, 1) := by decide +kernel
theorem dX10_doesMore_692 : decode cX10_doesMore 692 = .ok (.invokestatic 79, 3) := by decide +kernel
theorem dX10_doesMore_695 : decode cX10_doesMore 695 = .ok (.ifCond .ne 5, 3) := by decide +kernel
theorem dX10_doesMore_698 : decode cX10_doesMore 698 = .ok (.iconst 0, 1) := by decide +kernel
theorem dX10_doesMore_699 : decode cX10_doesMore 699 = .ok (.ireturn, 1) := by decide +kernel
theorem dX10_doesMore_700 : decode cX10_doesMore 700 = .ok (.iconst 1, 1) := by decide +kernel
theorem dX10_doesMore_701 : decode cX10_doesMore 701 = .ok (.istore 8, 2) := by decide +kernel
theorem dX10_doesMore_703 : decode cX10_doesMore 703 = .ok (.iconst 0, 1) := by decide +kernel
theorem dX10_doesMore_704 : decode cX10_doesMore 704 = .ok (.istore 9, 2) := by decide +kernel
theorem dX10_doesMore_706 : decode cX10_doesMore 706 = .ok (.iload 9, 2) := by decide +kernel
theorem dX10_doesMore_708 : decode cX10_doesMore 708 = .ok (.aload_n 0, 1) := by decide +kernel
theorem dX10_doesMore_709 : decode cX10_doesMore 709 = .ok (.getfield 7, 3) := by decide +kernel
theorem dX10_doesMore_712 : decode cX10_doesMore 712 = .ok (.lload 4, 2) := by decide +kernel
theorem dX10_doesMore_714 : decode cX10_doesMore 714 = .ok (.l2i, 1) := by decide +kernel
theorem dX10_doesMore_715 : decode cX10_doesMore 715 = .ok (.iaload, 1) := by decide +kernel
theorem dX10_doesMore_716 : decode cX10_doesMore 716 = .ok (.if_icmp .ge 21, 3) := by decide +kernel
theorem dX10_doesMore_719 : decode cX10_doesMore 719 = .ok (.iload 8, 2) := by decide +kernel
theorem dX10_doesMore_721 : decode cX10_doesMore 721 = .ok (.ifCond .eq 16, 3) := by decide +kernel
theorem dX10_doesMore_724 : decode cX10_doesMore 724 = .ok (.aload_n 0, 1) := by decide +kernel
theorem dX10_doesMore_725 : decode cX10_doesMore 725 = .ok (.iconst 1, 1) := by decide +kernel
theorem dX10_doesMore_726 : decode cX10_doesMore 726 = .ok (.invokevirtual 170, 3) := by decide +kernel
theorem dX10_doesMore_729 : decode cX10_doesMore 729 = .ok (.istore 8, 2) := by decide +kernel
theorem dX10_doesMore_731 : decode cX10_doesMore 731 = .ok (.iinc 9 1, 3) := by decide +kernel
theorem dX10_doesMore_734 : decode cX10_doesMore 734 = .ok (.goto (-28), 3) := by decide +kernel
theorem dX10_doesMore_737 : decode cX10_doesMore 737 = .ok (.iload 8, 2) := by decide +kernel
theorem dX10_doesMore_739 : decode cX10_doesMore 739 = .ok (.ifCond .eq 15, 3) := by decide +kernel
theorem dX10_doesMore_742 : decode cX10_doesMore 742 = .ok (.aload_n 0, 1) := by decide +kernel
theorem dX10_doesMore_743 : decode cX10_doesMore 743 = .ok (.iconst 1, 1) := by decide +kernel
theorem dX10_doesMore_744 : decode cX10_doesMore 744 = .ok (.invokevirtual 148, 3) := by decide +kernel
theorem dX10_doesMore_747 : decode cX10_doesMore 747 = .ok (.ifCond .eq 7, 3) := by decide +kernel
theorem dX10_doesMore_750 : decode cX10_doesMore 750 = .ok (.iconst 1, 1) := by decide +kernel
theorem dX10_doesMore_751 : decode cX10_doesMore 751 = .ok (.goto 4, 3) := by decide +kernel
theorem dX10_doesMore_754 : decode cX10_doesMore 754 = .ok (.iconst 0, 1) := by decide +kernel
theorem dX10_doesMore_755 : decode cX10_doesMore 755 = .ok (.ireturn, 1) := by decide +kernel
theorem dX10_doesMore_756 : decode cX10_doesMore 756 = .ok (.iconst 0, 1) := by decide +kernel
theorem dX10_doesMore_757 : decode cX10_doesMore 757 = .ok (.ireturn, 1) := by decide +kernel
theorem dX10_isLast_0 : decode cX10_isLast 0 = .ok (.iload_n 0, 1) := by decide +kernel
theorem dX10_isLast_1 : decode cX10_isLast 1 = .ok (.bipush 29, 2) := by decide +kernel
theorem dX10_isLast_3 : decode cX10_isLast 3 = .ok (.if_icmp .eq 15, 3) := by decide +kernel
theorem dX10_isLast_6 : decode cX10_isLast 6 = .ok (.iload_n 0, 1) := by decide +kernel
theorem dX10_isLast_7 : decode cX10_isLast 7 = .ok (.bipush 32, 2) := by decide +kernel
theorem dX10_isLast_9 : decode cX10_isLast 9 = .ok (.if_icmp .eq 9, 3) := by decide +kernel
theorem dX10_isLast_12 : decode cX10_isLast 12 = .ok (.iload_n 0, 1) := by decide +kernel
theorem dX10_isLast_13 : decode cX10_isLast 13 = .ok (.bipush 34, 2) := by decide +kernel
theorem dX10_isLast_15 : decode cX10_isLast 15 = .ok (.if_icmp .ne 7, 3) := by decide +kernel
theorem dX10_isLast_18 : decode cX10_isLast 18 = .ok (.iconst 1, 1) := by decide +kernel
theorem dX10_isLast_19 : decode cX10_isLast 19 = .ok (.goto 4, 3) := by decide +kernel
theorem dX10_isLast_22 : decode cX10_isLast 22 = .ok (.iconst 0, 1) := by decide +kernel
theorem dX10_isLast_23 : decode cX10_isLast 23 = .ok (.ireturn, 1) := by decide +kernel
theorem dX10_leads_0 : decode cX10_leads 0 = .ok (.iload_n 0, 1) := by decide +kernel
theorem dX10_leads_1 : decode cX10_leads 1 = .ok (.i2l, 1) := by decide +kernel
theorem dX10_leads_2 : decode cX10_leads 2 = .ok (.ldc2_w 184, 3) := by decide +kernel
theorem dX10_leads_5 : decode cX10_leads 5 = .ok (.ldc2_w 186, 3) := by decide +kernel
theorem dX10_leads_8 : decode cX10_leads 8 = .ok (.invokestatic 79, 3) := by decide +kernel
theorem dX10_leads_11 : decode cX10_leads 11 = .ok (.ireturn, 1) := by decide +kernel
theorem dX10_begins_0 : decode cX10_begins 0 = .ok (.aload_n 0, 1) := by decide +kernel
theorem dX10_begins_1 : decode cX10_begins 1 = .ok (.iconst 0, 1) := by decide +kernel
theorem dX10_begins_2 : decode cX10_begins 2 = .ok (.putfield 145, 3) := by decide +kernel
theorem dX10_begins_5 : decode cX10_begins 5 = .ok (.iconst 0, 1) := by decide +kernel
theorem dX10_begins_6 : decode cX10_begins 6 = .ok (.istore_n 2, 1) := by decide +kernel
theorem dX10_begins_7 : decode cX10_begins 7 = .ok (.iload_n 2, 1) := by decide +kernel
theorem dX10_begins_8 : decode cX10_begins 8 = .ok (.bipush 16, 2) := by decide +kernel
theorem dX10_begins_10 : decode cX10_begins 10 = .ok (.if_icmp .ge 30, 3) := by decide +kernel
theorem dX10_begins_13 : decode cX10_begins 13 = .ok (.aload_n 0, 1) := by decide +kernel
theorem dX10_begins_14 : decode cX10_begins 14 = .ok (.getfield 45, 3) := by decide +kernel
theorem dX10_begins_17 : decode cX10_begins 17 = .ok (.iload_n 2, 1) := by decide +kernel
theorem dX10_begins_18 : decode cX10_begins 18 = .ok (.iload_n 2, 1) := by decide +kernel
theorem dX10_begins_19 : decode cX10_begins 19 = .ok (.aload_n 0, 1) := by decide +kernel
theorem dX10_begins_20 : decode cX10_begins 20 = .ok (.getfield 7, 3) := by decide +kernel
theorem dX10_begins_23 : decode cX10_begins 23 = .ok (.iload_n 1, 1) := by decide +kernel
theorem dX10_begins_24 : decode cX10_begins 24 = .ok (.iaload, 1) := by decide +kernel
theorem dX10_begins_25 : decode cX10_begins 25 = .ok (.if_icmp .ge 7, 3) := by decide +kernel
theorem dX10_begins_28 : decode cX10_begins 28 = .ok (.iconst 1, 1) := by decide +kernel
theorem dX10_begins_29 : decode cX10_begins 29 = .ok (.goto 4, 3) := by decide +kernel
theorem dX10_begins_32 : decode cX10_begins 32 = .ok (.iconst 0, 1) := by decide +kernel
theorem dX10_begins_33 : decode cX10_begins 33 = .ok (.iastore, 1) := by decide +kernel
theorem dX10_begins_34 : decode cX10_begins 34 = .ok (.iinc 2 1, 3) := by decide +kernel
theorem dX10_begins_37 : decode cX10_begins 37 = .ok (.goto (-30), 3) := by decide +kernel
theorem dX10_begins_40 : decode cX10_begins 40 = .ok (.iconst 0, 1) := by decide +kernel
theorem dX10_begins_41 : decode cX10_begins 41 = .ok (.istore_n 2, 1) := by decide +kernel
theorem dX10_begins_42 : decode cX10_begins 42 = .ok (.iload_n 2, 1) := by decide +kernel
theorem dX10_begins_43 : decode cX10_begins 43 = .ok (.bipush 40, 2) := by decide +kernel
theorem dX10_begins_45 : decode cX10_begins 45 = .ok (.if_icmp .ge 16, 3) := by decide +kernel
theorem dX10_begins_48 : decode cX10_begins 48 = .ok (.aload_n 0, 1) := by decide +kernel
theorem dX10_begins_49 : decode cX10_begins 49 = .ok (.getfield 39, 3) := by decide +kernel
theorem dX10_begins_52 : decode cX10_begins 52 = .ok (.iload_n 2, 1) := by decide +kernel
theorem dX10_begins_53 : decode cX10_begins 53 = .ok (.iconst (-1), 1) := by decide +kernel
theorem dX10_begins_54 : decode cX10_begins 54 = .ok (.iastore, 1) := by decide +kernel
theorem dX10_begins_55 : decode cX10_begins 55 = .ok (.iinc 2 1, 3) := by decide +kernel
theorem dX10_begins_58 : decode cX10_begins 58 = .ok (.goto (-16), 3) := by decide +kernel
theorem dX10_begins_61 : decode cX10_begins 61 = .ok (.return_, 1) := by decide +kernel
theorem dX10_sees_0 : decode cX10_sees 0 = .ok (.aload_n 0, 1) := by decide +kernel
theorem dX10_sees_1 : decode cX10_sees 1 = .ok (.getfield 39, 3) := by decide +kernel
theorem dX10_sees_4 : decode cX10_sees 4 = .ok (.iload_n 1, 1) := by decide +kernel
theorem dX10_sees_5 : decode cX10_sees 5 = .ok (.aload_n 0, 1) := by decide +kernel
theorem dX10_sees_6 : decode cX10_sees 6 = .ok (.getfield 145, 3) := by decide +kernel
theorem dX10_sees_9 : decode cX10_sees 9 = .ok (.iastore, 1) := by decide +kernel
theorem dX10_sees_10 : decode cX10_sees 10 = .ok (.iconst 0, 1) := by decide +kernel
theorem dX10_sees_11 : decode cX10_sees 11 = .ok (.istore_n 2, 1) := by decide +kernel
theorem dX10_sees_12 : decode cX10_sees 12 = .ok (.iload_n 2, 1) := by decide +kernel
theorem dX10_sees_13 : decode cX10_sees 13 = .ok (.bipush 16, 2) := by decide +kernel
theorem dX10_sees_15 : decode cX10_sees 15 = .ok (.if_icmp .ge 26, 3) := by decide +kernel
theorem dX10_sees_18 : decode cX10_sees 18 = .ok (.aload_n 0, 1) := by decide +kernel
theorem dX10_sees_19 : decode cX10_sees 19 = .ok (.getfield 42, 3) := by decide +kernel
theorem dX10_sees_22 : decode cX10_sees 22 = .ok (.bipush 16, 2) := by decide +kernel
theorem dX10_sees_24 : decode cX10_sees 24 = .ok (.iload_n 1, 1) := by decide +kernel
theorem dX10_sees_25 : decode cX10_sees 25 = .ok (.imul, 1) := by decide +kernel
theorem dX10_sees_26 : decode cX10_sees 26 = .ok (.iload_n 2, 1) := by decide +kernel
theorem dX10_sees_27 : decode cX10_sees 27 = .ok (.iadd, 1) := by decide +kernel
theorem dX10_sees_28 : decode cX10_sees 28 = .ok (.aload_n 0, 1) := by decide +kernel
theorem dX10_sees_29 : decode cX10_sees 29 = .ok (.getfield 45, 3) := by decide +kernel
theorem dX10_sees_32 : decode cX10_sees 32 = .ok (.iload_n 2, 1) := by decide +kernel
theorem dX10_sees_33 : decode cX10_sees 33 = .ok (.iaload, 1) := by decide +kernel
theorem dX10_sees_34 : decode cX10_sees 34 = .ok (.iastore, 1) := by decide +kernel
theorem dX10_sees_35 : decode cX10_sees 35 = .ok (.iinc 2 1, 3) := by decide +kernel
theorem dX10_sees_38 : decode cX10_sees 38 = .ok (.goto (-26), 3) := by decide +kernel
theorem dX10_sees_41 : decode cX10_sees 41 = .ok (.return_, 1) := by decide +kernel
theorem dX10_takes_0 : decode cX10_takes 0 = .ok (.aload_n 0, 1) := by decide +kernel
theorem dX10_takes_1 : decode cX10_takes 1 = .ok (.aload_n 0, 1) := by decide +kernel
theorem dX10_takes_2 : decode cX10_takes 2 = .ok (.getfield 39, 3) := by decide +kernel
theorem dX10_takes_5 : decode cX10_takes 5 = .ok (.iload_n 1, 1) := by decide +kernel
theorem dX10_takes_6 : decode cX10_takes 6 = .ok (.iaload, 1) := by decide +kernel
theorem dX10_takes_7 : decode cX10_takes 7 = .ok (.putfield 145, 3) := by decide +kernel
theorem dX10_takes_10 : decode cX10_takes 10 = .ok (.iconst 0, 1) := by decide +kernel
theorem dX10_takes_11 : decode cX10_takes 11 = .ok (.istore_n 2, 1) := by decide +kernel
theorem dX10_takes_12 : decode cX10_takes 12 = .ok (.iload_n 2, 1) := by decide +kernel
theorem dX10_takes_13 : decode cX10_takes 13 = .ok (.bipush 16, 2) := by decide +kernel
theorem dX10_takes_15 : decode cX10_takes 15 = .ok (.if_icmp .ge 26, 3) := by decide +kernel
theorem dX10_takes_18 : decode cX10_takes 18 = .ok (.aload_n 0, 1) := by decide +kernel
theorem dX10_takes_19 : decode cX10_takes 19 = .ok (.getfield 45, 3) := by decide +kernel
theorem dX10_takes_22 : decode cX10_takes 22 = .ok (.iload_n 2, 1) := by decide +kernel
theorem dX10_takes_23 : decode cX10_takes 23 = .ok (.aload_n 0, 1) := by decide +kernel
theorem dX10_takes_24 : decode cX10_takes 24 = .ok (.getfield 42, 3) := by decide +kernel
theorem dX10_takes_27 : decode cX10_takes 27 = .ok (.bipush 16, 2) := by decide +kernel
theorem dX10_takes_29 : decode cX10_takes 29 = .ok (.iload_n 1, 1) := by decide +kernel
theorem dX10_takes_30 : decode cX10_takes 30 = .ok (.imul, 1) := by decide +kernel
theorem dX10_takes_31 : decode cX10_takes 31 = .ok (.iload_n 2, 1) := by decide +kernel
theorem dX10_takes_32 : decode cX10_takes 32 = .ok (.iadd, 1) := by decide +kernel
theorem dX10_takes_33 : decode cX10_takes 33 = .ok (.iaload, 1) := by decide +kernel
theorem dX10_takes_34 : decode cX10_takes 34 = .ok (.iastore, 1) := by decide +kernel
theorem dX10_takes_35 : decode cX10_takes 35 = .ok (.iinc 2 1, 3) := by decide +kernel
theorem dX10_takes_38 : decode cX10_takes 38 = .ok (.goto (-26), 3) := by decide +kernel
theorem dX10_takes_41 : decode cX10_takes 41 = .ok (.return_, 1) := by decide +kernel
theorem dX10_goesToFrame_0 : decode cX10_goesToFrame 0 = .ok (.bipush 40, 2) := by decide +kernel
theorem dX10_goesToFrame_2 : decode cX10_goesToFrame 2 = .ok (.iload_n 1, 1) := by decide +kernel
theorem dX10_goesToFrame_3 : decode cX10_goesToFrame 3 = .ok (.imul, 1) := by decide +kernel
