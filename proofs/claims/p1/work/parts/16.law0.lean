theorem dL_law_23 : decode cL_law 23 = .ok (.iload 4, 2) := by decide +kernel
theorem dL_law_25 : decode cL_law 25 = .ok (.aload_n 0, 1) := by decide +kernel
theorem dL_law_26 : decode cL_law 26 = .ok (.arraylength, 1) := by decide +kernel
theorem dL_law_27 : decode cL_law 27 = .ok (.bipush 8, 2) := by decide +kernel
theorem dL_law_29 : decode cL_law 29 = .ok (.isub, 1) := by decide +kernel
theorem dL_law_30 : decode cL_law 30 = .ok (.if_icmp .gt 1853, 3) := by decide +kernel
theorem dL_law_152 : decode cL_law 152 = .ok (.aload_n 1, 1) := by decide +kernel
theorem dL_law_153 : decode cL_law 153 = .ok (.aload_n 0, 1) := by decide +kernel
theorem dL_law_154 : decode cL_law 154 = .ok (.iload 4, 2) := by decide +kernel
theorem dL_law_156 : decode cL_law 156 = .ok (.iconst 1, 1) := by decide +kernel
theorem dL_law_157 : decode cL_law 157 = .ok (.iadd, 1) := by decide +kernel
theorem dL_law_158 : decode cL_law 158 = .ok (.iaload, 1) := by decide +kernel
theorem dL_law_159 : decode cL_law 159 = .ok (.aload_n 3, 1) := by decide +kernel
theorem dL_law_160 : decode cL_law 160 = .ok (.invokestatic 96, 3) := by decide +kernel
theorem dL_law_163 : decode cL_law 163 = .ok (.istore 5, 2) := by decide +kernel
theorem dL_law_165 : decode cL_law 165 = .ok (.aload_n 2, 1) := by decide +kernel
theorem dL_law_166 : decode cL_law 166 = .ok (.aload_n 0, 1) := by decide +kernel
theorem dL_law_167 : decode cL_law 167 = .ok (.iload 4, 2) := by decide +kernel
theorem dL_law_169 : decode cL_law 169 = .ok (.iconst 1, 1) := by decide +kernel
theorem dL_law_170 : decode cL_law 170 = .ok (.iadd, 1) := by decide +kernel
theorem dL_law_171 : decode cL_law 171 = .ok (.iaload, 1) := by decide +kernel
theorem dL_law_172 : decode cL_law 172 = .ok (.invokevirtual 101, 3) := by decide +kernel
theorem dL_law_175 : decode cL_law 175 = .ok (.istore 6, 2) := by decide +kernel
theorem dL_law_177 : decode cL_law 177 = .ok (.aload_n 2, 1) := by decide +kernel
theorem dL_law_178 : decode cL_law 178 = .ok (.invokevirtual 102, 3) := by decide +kernel
theorem dL_law_181 : decode cL_law 181 = .ok (.iload 5, 2) := by decide +kernel
theorem dL_law_183 : decode cL_law 183 = .ok (.if_icmp .eq 5, 3) := by decide +kernel
theorem dL_law_188 : decode cL_law 188 = .ok (.iload 5, 2) := by decide +kernel
theorem dL_law_190 : decode cL_law 190 = .ok (.ifCond .ne 15, 3) := by decide +kernel
theorem dL_law_193 : decode cL_law 193 = .ok (.aload_n 3, 1) := by decide +kernel
theorem dL_law_194 : decode cL_law 194 = .ok (.iconst 0, 1) := by decide +kernel
theorem dL_law_195 : decode cL_law 195 = .ok (.laload, 1) := by decide +kernel
theorem dL_law_196 : decode cL_law 196 = .ok (.iload 6, 2) := by decide +kernel
theorem dL_law_198 : decode cL_law 198 = .ok (.i2l, 1) := by decide +kernel
theorem dL_law_199 : decode cL_law 199 = .ok (.lcmp, 1) := by decide +kernel
theorem dL_law_200 : decode cL_law 200 = .ok (.ifCond .eq 5, 3) := by decide +kernel
theorem dL_law_205 : decode cL_law 205 = .ok (.goto 1672, 3) := by decide +kernel
theorem dL_law_208 : decode cL_law 208 = .ok (.aload_n 1, 1) := by decide +kernel
theorem dL_law_209 : decode cL_law 209 = .ok (.aload_n 0, 1) := by decide +kernel
theorem dL_law_210 : decode cL_law 210 = .ok (.iload 4, 2) := by decide +kernel
theorem dL_law_212 : decode cL_law 212 = .ok (.iconst 1, 1) := by decide +kernel
theorem dL_law_213 : decode cL_law 213 = .ok (.iadd, 1) := by decide +kernel
theorem dL_law_214 : decode cL_law 214 = .ok (.iaload, 1) := by decide +kernel
theorem dL_law_215 : decode cL_law 215 = .ok (.aload_n 0, 1) := by decide +kernel
theorem dL_law_216 : decode cL_law 216 = .ok (.iload 4, 2) := by decide +kernel
theorem dL_law_218 : decode cL_law 218 = .ok (.iconst 2, 1) := by decide +kernel
theorem dL_law_219 : decode cL_law 219 = .ok (.iadd, 1) := by decide +kernel
theorem dL_law_220 : decode cL_law 220 = .ok (.iaload, 1) := by decide +kernel
theorem dL_law_221 : decode cL_law 221 = .ok (.aload_n 3, 1) := by decide +kernel
theorem dL_law_222 : decode cL_law 222 = .ok (.invokestatic 106, 3) := by decide +kernel
theorem dL_law_225 : decode cL_law 225 = .ok (.istore 5, 2) := by decide +kernel
theorem dL_law_227 : decode cL_law 227 = .ok (.aload_n 2, 1) := by decide +kernel
theorem dL_law_228 : decode cL_law 228 = .ok (.aload_n 0, 1) := by decide +kernel
theorem dL_law_229 : decode cL_law 229 = .ok (.iload 4, 2) := by decide +kernel
theorem dL_law_231 : decode cL_law 231 = .ok (.iconst 1, 1) := by decide +kernel
theorem dL_law_232 : decode cL_law 232 = .ok (.iadd, 1) := by decide +kernel
theorem dL_law_233 : decode cL_law 233 = .ok (.iaload, 1) := by decide +kernel
theorem dL_law_234 : decode cL_law 234 = .ok (.aload_n 0, 1) := by decide +kernel
theorem dL_law_235 : decode cL_law 235 = .ok (.iload 4, 2) := by decide +kernel
theorem dL_law_237 : decode cL_law 237 = .ok (.iconst 2, 1) := by decide +kernel
theorem dL_law_238 : decode cL_law 238 = .ok (.iadd, 1) := by decide +kernel
theorem dL_law_239 : decode cL_law 239 = .ok (.iaload, 1) := by decide +kernel
theorem dL_law_240 : decode cL_law 240 = .ok (.invokevirtual 109, 3) := by decide +kernel
theorem dL_law_243 : decode cL_law 243 = .ok (.istore 6, 2) := by decide +kernel
theorem dL_law_245 : decode cL_law 245 = .ok (.aload_n 2, 1) := by decide +kernel
theorem dL_law_246 : decode cL_law 246 = .ok (.invokevirtual 102, 3) := by decide +kernel
theorem dL_law_249 : decode cL_law 249 = .ok (.iload 5, 2) := by decide +kernel
theorem dL_law_251 : decode cL_law 251 = .ok (.if_icmp .eq 5, 3) := by decide +kernel
theorem dL_law_256 : decode cL_law 256 = .ok (.iload 5, 2) := by decide +kernel
theorem dL_law_258 : decode cL_law 258 = .ok (.ifCond .ne 15, 3) := by decide +kernel
theorem dL_law_273 : decode cL_law 273 = .ok (.goto 1604, 3) := by decide +kernel
theorem dL_law_276 : decode cL_law 276 = .ok (.aload_n 1, 1) := by decide +kernel
theorem dL_law_277 : decode cL_law 277 = .ok (.aload_n 0, 1) := by decide +kernel
theorem dL_law_278 : decode cL_law 278 = .ok (.iload 4, 2) := by decide +kernel
theorem dL_law_280 : decode cL_law 280 = .ok (.iconst 1, 1) := by decide +kernel
theorem dL_law_281 : decode cL_law 281 = .ok (.iadd, 1) := by decide +kernel
theorem dL_law_282 : decode cL_law 282 = .ok (.iaload, 1) := by decide +kernel
theorem dL_law_283 : decode cL_law 283 = .ok (.aload_n 3, 1) := by decide +kernel
theorem dL_law_284 : decode cL_law 284 = .ok (.invokestatic 110, 3) := by decide +kernel
theorem dL_law_287 : decode cL_law 287 = .ok (.istore 5, 2) := by decide +kernel
theorem dL_law_289 : decode cL_law 289 = .ok (.aload_n 2, 1) := by decide +kernel
theorem dL_law_290 : decode cL_law 290 = .ok (.aload_n 0, 1) := by decide +kernel
theorem dL_law_291 : decode cL_law 291 = .ok (.iload 4, 2) := by decide +kernel
theorem dL_law_293 : decode cL_law 293 = .ok (.iconst 1, 1) := by decide +kernel
theorem dL_law_294 : decode cL_law 294 = .ok (.iadd, 1) := by decide +kernel
theorem dL_law_295 : decode cL_law 295 = .ok (.iaload, 1) := by decide +kernel
theorem dL_law_296 : decode cL_law 296 = .ok (.invokevirtual 112, 3) := by decide +kernel
theorem dL_law_299 : decode cL_law 299 = .ok (.istore 6, 2) := by decide +kernel
theorem dL_law_301 : decode cL_law 301 = .ok (.aload_n 2, 1) := by decide +kernel
theorem dL_law_302 : decode cL_law 302 = .ok (.invokevirtual 102, 3) := by decide +kernel
theorem dL_law_305 : decode cL_law 305 = .ok (.iload 5, 2) := by decide +kernel
theorem dL_law_307 : decode cL_law 307 = .ok (.if_icmp .eq 5, 3) := by decide +kernel
theorem dL_law_312 : decode cL_law 312 = .ok (.iload 5, 2) := by decide +kernel
theorem dL_law_314 : decode cL_law 314 = .ok (.ifCond .ne 22, 3) := by decide +kernel
theorem dL_law_336 : decode cL_law 336 = .ok (.goto 1541, 3) := by decide +kernel
theorem dL_law_339 : decode cL_law 339 = .ok (.aload_n 1, 1) := by decide +kernel
theorem dL_law_340 : decode cL_law 340 = .ok (.aload_n 0, 1) := by decide +kernel
theorem dL_law_341 : decode cL_law 341 = .ok (.iload 4, 2) := by decide +kernel
theorem dL_law_343 : decode cL_law 343 = .ok (.iconst 1, 1) := by decide +kernel
theorem dL_law_344 : decode cL_law 344 = .ok (.iadd, 1) := by decide +kernel
theorem dL_law_345 : decode cL_law 345 = .ok (.iaload, 1) := by decide +kernel
theorem dL_law_346 : decode cL_law 346 = .ok (.aload_n 3, 1) := by decide +kernel
theorem dL_law_347 : decode cL_law 347 = .ok (.invokestatic 113, 3) := by decide +kernel
theorem dL_law_350 : decode cL_law 350 = .ok (.istore 5, 2) := by decide +kernel
theorem dL_law_352 : decode cL_law 352 = .ok (.aload_n 2, 1) := by decide +kernel
theorem dL_law_353 : decode cL_law 353 = .ok (.aload_n 0, 1) := by decide +kernel
theorem dL_law_354 : decode cL_law 354 = .ok (.iload 4, 2) := by decide +kernel
theorem dL_law_356 : decode cL_law 356 = .ok (.iconst 1, 1) := by decide +kernel
theorem dL_law_357 : decode cL_law 357 = .ok (.iadd, 1) := by decide +kernel
theorem dL_law_358 : decode cL_law 358 = .ok (.iaload, 1) := by decide +kernel
theorem dL_law_359 : decode cL_law 359 = .ok (.invokevirtual 115, 3) := by decide +kernel
theorem dL_law_362 : decode cL_law 362 = .ok (.istore 6, 2) := by decide +kernel
theorem dL_law_364 : decode cL_law 364 = .ok (.aload_n 2, 1) := by decide +kernel
theorem dL_law_365 : decode cL_law 365 = .ok (.invokevirtual 102, 3) := by decide +kernel
theorem dL_law_368 : decode cL_law 368 = .ok (.iload 5, 2) := by decide +kernel
theorem dL_law_370 : decode cL_law 370 = .ok (.if_icmp .eq 5, 3) := by decide +kernel
theorem dL_law_375 : decode cL_law 375 = .ok (.iload 5, 2) := by decide +kernel
theorem dL_law_377 : decode cL_law 377 = .ok (.ifCond .ne 22, 3) := by decide +kernel
theorem dL_law_399 : decode cL_law 399 = .ok (.goto 1478, 3) := by decide +kernel
theorem dL_law_402 : decode cL_law 402 = .ok (.aload_n 1, 1) := by decide +kernel
theorem dL_law_403 : decode cL_law 403 = .ok (.aload_n 0, 1) := by decide +kernel
theorem dL_law_404 : decode cL_law 404 = .ok (.iload 4, 2) := by decide +kernel
theorem dL_law_406 : decode cL_law 406 = .ok (.iconst 1, 1) := by decide +kernel
theorem dL_law_407 : decode cL_law 407 = .ok (.iadd, 1) := by decide +kernel
theorem dL_law_408 : decode cL_law 408 = .ok (.iaload, 1) := by decide +kernel
theorem dL_law_409 : decode cL_law 409 = .ok (.aload_n 0, 1) := by decide +kernel
theorem dL_law_410 : decode cL_law 410 = .ok (.iload 4, 2) := by decide +kernel
theorem dL_law_412 : decode cL_law 412 = .ok (.iconst 2, 1) := by decide +kernel
theorem dL_law_413 : decode cL_law 413 = .ok (.iadd, 1) := by decide +kernel
theorem dL_law_414 : decode cL_law 414 = .ok (.iaload, 1) := by decide +kernel
theorem dL_law_415 : decode cL_law 415 = .ok (.aload_n 3, 1) := by decide +kernel
theorem dL_law_416 : decode cL_law 416 = .ok (.invokestatic 116, 3) := by decide +kernel
theorem dL_law_419 : decode cL_law 419 = .ok (.istore 5, 2) := by decide +kernel
theorem dL_law_421 : decode cL_law 421 = .ok (.aload_n 2, 1) := by decide +kernel
theorem dL_law_422 : decode cL_law 422 = .ok (.aload_n 0, 1) := by decide +kernel
theorem dL_law_423 : decode cL_law 423 = .ok (.iload 4, 2) := by decide +kernel
theorem dL_law_425 : decode cL_law 425 = .ok (.iconst 1, 1) := by decide +kernel
theorem dL_law_426 : decode cL_law 426 = .ok (.iadd, 1) := by decide +kernel
theorem dL_law_427 : decode cL_law 427 = .ok (.iaload, 1) := by decide +kernel
theorem dL_law_428 : decode cL_law 428 = .ok (.aload_n 0, 1) := by decide +kernel
theorem dL_law_429 : decode cL_law 429 = .ok (.iload 4, 2) := by decide +kernel
theorem dL_law_431 : decode cL_law 431 = .ok (.iconst 2, 1) := by decide +kernel
theorem dL_law_432 : decode cL_law 432 = .ok (.iadd, 1) := by decide +kernel
theorem dL_law_433 : decode cL_law 433 = .ok (.iaload, 1) := by decide +kernel
theorem dL_law_434 : decode cL_law 434 = .ok (.invokevirtual 118, 3) := by decide +kernel
theorem dL_law_437 : decode cL_law 437 = .ok (.istore 6, 2) := by decide +kernel
theorem dL_law_439 : decode cL_law 439 = .ok (.aload_n 2, 1) := by decide +kernel
theorem dL_law_440 : decode cL_law 440 = .ok (.invokevirtual 102, 3) := by decide +kernel
theorem dL_law_443 : decode cL_law 443 = .ok (.iload 5, 2) := by decide +kernel
theorem dL_law_445 : decode cL_law 445 = .ok (.if_icmp .eq 5, 3) := by decide +kernel
theorem dL_law_450 : decode cL_law 450 = .ok (.iload 5, 2) := by decide +kernel
theorem dL_law_452 : decode cL_law 452 = .ok (.ifCond .ne 15, 3) := by decide +kernel
theorem dL_law_467 : decode cL_law 467 = .ok (.goto 1410, 3) := by decide +kernel
theorem dL_law_470 : decode cL_law 470 = .ok (.aload_n 1, 1) := by decide +kernel
theorem dL_law_471 : decode cL_law 471 = .ok (.aload_n 0, 1) := by decide +kernel
theorem dL_law_472 : decode cL_law 472 = .ok (.iload 4, 2) := by decide +kernel
theorem dL_law_474 : decode cL_law 474 = .ok (.iconst 1, 1) := by decide +kernel
theorem dL_law_475 : decode cL_law 475 = .ok (.iadd, 1) := by decide +kernel
theorem dL_law_476 : decode cL_law 476 = .ok (.iaload, 1) := by decide +kernel
theorem dL_law_477 : decode cL_law 477 = .ok (.aload_n 0, 1) := by decide +kernel
theorem dL_law_478 : decode cL_law 478 = .ok (.iload 4, 2) := by decide +kernel
theorem dL_law_480 : decode cL_law 480 = .ok (.iconst 2, 1) := by decide +kernel
theorem dL_law_481 : decode cL_law 481 = .ok (.iadd, 1) := by decide +kernel
theorem dL_law_482 : decode cL_law 482 = .ok (.iaload, 1) := by decide +kernel
theorem dL_law_483 : decode cL_law 483 = .ok (.aload_n 3, 1) := by decide +kernel
theorem dL_law_484 : decode cL_law 484 = .ok (.invokestatic 119, 3) := by decide +kernel
theorem dL_law_487 : decode cL_law 487 = .ok (.istore 5, 2) := by decide +kernel
theorem dL_law_489 : decode cL_law 489 = .ok (.aload_n 2, 1) := by decide +kernel
theorem dL_law_490 : decode cL_law 490 = .ok (.aload_n 0, 1) := by decide +kernel
theorem dL_law_491 : decode cL_law 491 = .ok (.iload 4, 2) := by decide +kernel
theorem dL_law_493 : decode cL_law 493 = .ok (.iconst 1, 1) := by decide +kernel
theorem dL_law_494 : decode cL_law 494 = .ok (.iadd, 1) := by decide +kernel
theorem dL_law_495 : decode cL_law 495 = .ok (.iaload, 1) := by decide +kernel
theorem dL_law_496 : decode cL_law 496 = .ok (.aload_n 0, 1) := by decide +kernel
theorem dL_law_497 : decode cL_law 497 = .ok (.iload 4, 2) := by decide +kernel
theorem dL_law_499 : decode cL_law 499 = .ok (.iconst 2, 1) := by decide +kernel
theorem dL_law_500 : decode cL_law 500 = .ok (.iadd, 1) := by decide +kernel
theorem dL_law_501 : decode cL_law 501 = .ok (.iaload, 1) := by decide +kernel
theorem dL_law_502 : decode cL_law 502 = .ok (.invokevirtual 121, 3) := by decide +kernel
theorem dL_law_505 : decode cL_law 505 = .ok (.istore 6, 2) := by decide +kernel
theorem dL_law_507 : decode cL_law 507 = .ok (.aload_n 2, 1) := by decide +kernel
theorem dL_law_508 : decode cL_law 508 = .ok (.invokevirtual 102, 3) := by decide +kernel
theorem dL_law_511 : decode cL_law 511 = .ok (.iload 5, 2) := by decide +kernel
theorem dL_law_513 : decode cL_law 513 = .ok (.if_icmp .eq 5, 3) := by decide +kernel
theorem dL_law_518 : decode cL_law 518 = .ok (.iload 5, 2) := by decide +kernel
theorem dL_law_520 : decode cL_law 520 = .ok (.ifCond .ne 22, 3) := by decide +kernel
theorem dL_law_542 : decode cL_law 542 = .ok (.goto 1335, 3) := by decide +kernel
theorem dL_law_1877 : decode cL_law 1877 = .ok (.iinc 4 8, 3) := by decide +kernel
theorem dL_law_1880 : decode cL_law 1880 = .ok (.goto (-1857), 3) := by decide +kernel
theorem dL_law_1883 : decode cL_law 1883 = .ok (.iconst 1, 1) := by decide +kernel
theorem dL_law_1884 : decode cL_law 1884 = .ok (.ireturn, 1) := by decide +kernel
theorem u_0 : Cond.initialized RL ∈ gU := gm (i := 0) (by decide +kernel) (by decide +kernel)
theorem u_500 : Cond.methodLink RL 96 yL_box ∈ gU := gm (i := 500) (by decide +kernel) (by decide +kernel)
theorem u_501 : Cond.static yL_box ∈ gU := gm (i := 501) (by decide +kernel) (by decide +kernel)
theorem u_502 : Cond.codeWith yL_box cL_box 4 (some .int) [(0, 9, 12, 13), (0, 9, 15, 15)] ∈ gU := gm (i := 502) (by decide +kernel) (by decide +kernel)
theorem u_603 : Cond.methodLink RL 106 yL_cable ∈ gU := gm (i := 603) (by decide +kernel) (by decide +kernel)
theorem u_604 : Cond.static yL_cable ∈ gU := gm (i := 604) (by decide +kernel) (by decide +kernel)
theorem u_605 : Cond.codeWith yL_cable cL_cable 5 (some .int) [(0, 10, 13, 21), (0, 10, 17, 13), (0, 10, 21, 15)] ∈ gU := gm (i := 605) (by decide +kernel) (by decide +kernel)
theorem u_694 : Cond.methodLink RL 110 yL_turn ∈ gU := gm (i := 694) (by decide +kernel) (by decide +kernel)
theorem u_695 : Cond.static yL_turn ∈ gU := gm (i := 695) (by decide +kernel) (by decide +kernel)
theorem u_696 : Cond.codeWith yL_turn cL_turn 4 (some .int) [(0, 16, 19, 21)] ∈ gU := gm (i := 696) (by decide +kernel) (by decide +kernel)
theorem u_706 : Cond.methodLink RL 113 yL_isBlocked ∈ gU := gm (i := 706) (by decide +kernel) (by decide +kernel)
theorem u_707 : Cond.static yL_isBlocked ∈ gU := gm (i := 707) (by decide +kernel) (by decide +kernel)
theorem u_708 : Cond.codeWith yL_isBlocked cL_isBlocked 4 (some .int) [(0, 16, 19, 21)] ∈ gU := gm (i := 708) (by decide +kernel) (by decide +kernel)
theorem u_713 : Cond.methodLink RL 116 yL_net ∈ gU := gm (i := 713) (by decide +kernel) (by decide +kernel)
theorem u_714 : Cond.static yL_net ∈ gU := gm (i := 714) (by decide +kernel) (by decide +kernel)
theorem u_715 : Cond.codeWith yL_net cL_net 5 (some .int) [(0, 10, 13, 21), (0, 10, 17, 13)] ∈ gU := gm (i := 715) (by decide +kernel) (by decide +kernel)
theorem u_721 : Cond.methodLink RL 119 yL_sees ∈ gU := gm (i := 721) (by decide +kernel) (by decide +kernel)
theorem u_722 : Cond.static yL_sees ∈ gU := gm (i := 722) (by decide +kernel) (by decide +kernel)
theorem u_723 : Cond.codeWith yL_sees cL_sees 5 (some .int) [(0, 17, 20, 21), (0, 17, 24, 13)] ∈ gU := gm (i := 723) (by decide +kernel) (by decide +kernel)
theorem u_1392 : Cond.methodLink RL 102 yX12_thrown ∈ gU := gm (i := 1392) (by decide +kernel) (by decide +kernel)
theorem u_1393 : Cond.instanceMethod yX12_thrown ∈ gU := gm (i := 1393) (by decide +kernel) (by decide +kernel)
theorem u_1394 : Cond.selects RX12 yX12_thrown yX12_thrown ∈ gU := gm (i := 1394) (by decide +kernel) (by decide +kernel)
theorem u_1395 : Cond.code yX12_thrown cX12_thrown 1 (some .int) ∈ gU := gm (i := 1395) (by decide +kernel) (by decide +kernel)
theorem u_1396 : Cond.methodLink RL 101 yX12_box ∈ gU := gm (i := 1396) (by decide +kernel) (by decide +kernel)
theorem u_1397 : Cond.instanceMethod yX12_box ∈ gU := gm (i := 1397) (by decide +kernel) (by decide +kernel)
theorem u_1398 : Cond.selects RX12 yX12_box yX12_box ∈ gU := gm (i := 1398) (by decide +kernel) (by decide +kernel)
theorem u_1399 : Cond.code yX12_box cX12_box 2 (some .int) ∈ gU := gm (i := 1399) (by decide +kernel) (by decide +kernel)
theorem u_1407 : Cond.methodLink RL 109 yX12_cable ∈ gU := gm (i := 1407) (by decide +kernel) (by decide +kernel)
theorem u_1408 : Cond.instanceMethod yX12_cable ∈ gU := gm (i := 1408) (by decide +kernel) (by decide +kernel)
theorem u_1409 : Cond.selects RX12 yX12_cable yX12_cable ∈ gU := gm (i := 1409) (by decide +kernel) (by decide +kernel)
theorem u_1410 : Cond.code yX12_cable cX12_cable 4 (some .int) ∈ gU := gm (i := 1410) (by decide +kernel) (by decide +kernel)
theorem u_1419 : Cond.methodLink RL 112 yX12_turn ∈ gU := gm (i := 1419) (by decide +kernel) (by decide +kernel)
theorem u_1420 : Cond.instanceMethod yX12_turn ∈ gU := gm (i := 1420) (by decide +kernel) (by decide +kernel)
theorem u_1421 : Cond.selects RX12 yX12_turn yX12_turn ∈ gU := gm (i := 1421) (by decide +kernel) (by decide +kernel)
theorem u_1422 : Cond.code yX12_turn cX12_turn 2 (some .boolean) ∈ gU := gm (i := 1422) (by decide +kernel) (by decide +kernel)
theorem u_1427 : Cond.methodLink RL 115 yX12_isBlocked ∈ gU := gm (i := 1427) (by decide +kernel) (by decide +kernel)
theorem u_1428 : Cond.instanceMethod yX12_isBlocked ∈ gU := gm (i := 1428) (by decide +kernel) (by decide +kernel)
theorem u_1429 : Cond.selects RX12 yX12_isBlocked yX12_isBlocked ∈ gU := gm (i := 1429) (by decide +kernel) (by decide +kernel)
theorem u_1430 : Cond.code yX12_isBlocked cX12_isBlocked 2 (some .boolean) ∈ gU := gm (i := 1430) (by decide +kernel) (by decide +kernel)
theorem u_1447 : Cond.methodLink RL 118 yX12_net ∈ gU := gm (i := 1447) (by decide +kernel) (by decide +kernel)
theorem u_1448 : Cond.instanceMethod yX12_net ∈ gU := gm (i := 1448) (by decide +kernel) (by decide +kernel)
theorem u_1449 : Cond.selects RX12 yX12_net yX12_net ∈ gU := gm (i := 1449) (by decide +kernel) (by decide +kernel)
theorem u_1450 : Cond.code yX12_net cX12_net 5 (some .int) ∈ gU := gm (i := 1450) (by decide +kernel) (by decide +kernel)
theorem u_1451 : Cond.methodLink RL 121 yX12_sees ∈ gU := gm (i := 1451) (by decide +kernel) (by decide +kernel)
theorem u_1452 : Cond.instanceMethod yX12_sees ∈ gU := gm (i := 1452) (by decide +kernel) (by decide +kernel)
theorem u_1453 : Cond.selects RX12 yX12_sees yX12_sees ∈ gU := gm (i := 1453) (by decide +kernel) (by decide +kernel)
theorem u_1454 : Cond.code yX12_sees cX12_sees 4 (some .boolean) ∈ gU := gm (i := 1454) (by decide +kernel) (by decide +kernel)
set_option maxHeartbeats 4000000 in
set_option maxRecDepth 100000 in
theorem law_tail {p : Program} {l : Launch} {e : Env} {s : State} {m : MethodId} {below : List Frame} {meth : Method} {c : Code} {A : Nat → Prop} {b L : Nat} {xs : Nat → Int32} (hfl : l.stackTraces = false) (hx : p.tables.exec = Jvm.exec) (hb : c.code = code) (hr : meth.sig.returnType = ret) (hml : c.maxLocals = 7) (hown : s.vm.findClass RL = some m.cls) (hts : ∀ w ∈ gU, w.before #[Value.ref b] s = true) (hX : va_X b L xs s s.heap) (hbl : b < s.heap.size) (hlocks : meth.locks = false) (hE : gEnv s) (hZ : gZ A s) (hA : ∀ q : Nat, s.heap.size ≤ q → A q) (hbA : ¬ A b) (hAo : ∀ q : Nat, A q → s.heap.size ≤ q) (hL8 : L = 8) {H : Heap} {locs : List Loc} (hS : va_S A s.heap H locs) {ls : Array Slot} (hl : lv_has ls 7 [(0, .ref b), (4, .int 0)]) : W p l e room_1 s m #[Value.ref b] below meth c H locs 600002 7302232 (lw_Z below #[Value.ref b] s) (F0 m 1877 ls []) := by
  refine lv_iinc (v := 8) (lv' := [(4, .int 8), (0, .ref b)]) hx hb dL_law_1877 hl (k := 1) rfl (by decide) (by decide) rfl (fun ls hl => ?_)
  refine lv_goto (tgt := 23) hx hb dL_law_1880 (by decide) ?_
  refine lv_iload hx hb dL_law_23 (lv_at hl 0 rfl) ?_
  refine lv_aload_n hx hb dL_law_25 rfl (lv_at hl 1 rfl) ?_
  refine va_slen hx hb hX hbl hbA hS dL_law_26 ?_
  refine lv_bipush (v := 8) hx hb dL_law_27 (by decide) ?_
  refine lv_isub hx hb dL_law_29 ?_
  refine lv_icmp_gt (tgt := 1883) hx hb dL_law_30 (by decide) (fun _ => ?_) (fun h9 => absurd (by rw [hL8]; decide) h9)
  refine lv_iconst (v := 1) hx hb dL_law_1883 (by decide) ?_
  refine va_forget (fun q hq => hAo _ (hS.2.2 q hq)) ?_
  exact lw_ret hx hb hr hlocks dL_law_1884
set_option maxHeartbeats 8000000 in
set_option maxRecDepth 100000 in
theorem law_c0 {p : Program} {l : Launch} {e : Env} {s : State} {m : MethodId} {below : List Frame} {meth : Method} {c : Code} {dC : Nat → ClassId} {dI : Nat → Nat → Nat} {A : Nat → Prop} {b L : Nat} {xs : Nat → Int32} {h0 : Nat} {w : Nat} {kd : Nat} {cK : ClassId} {gW : Nat → Nat} {sg : Nat} {sn : Nat} {cS : ClassId} {gS : Nat → Nat} {ro : Nat} {cu : Nat} {c1 : Nat} {cC1 : ClassId} {gB1 : Nat → Nat} {sp : Nat} {c2 : Nat} {cC2 : ClassId} {gB2 : Nat → Nat} {gR : Nat → Nat} {tr : Nat} {gT : Nat → Nat} {gX : Nat → Nat} {m0 : Nat} {kdM : Nat} {ckM : ClassId} {fa : Nat} {cf : ClassId} {gw : Nat} {cg : ClassId} {gM : Nat → Nat} {ou : Nat} {cO : ClassId} (hfl : l.stackTraces = false) (hx : p.tables.exec = Jvm.exec) (hb : c.code = code) (hr : meth.sig.returnType = ret) (hml : c.maxLocals = 7) (hown : s.vm.findClass RL = some m.cls) (hts : ∀ w ∈ gU, w.before #[Value.ref b] s = true) (hX : va_X b L xs s s.heap) (hbl : b < s.heap.size) (hlocks : meth.locks = false) (hE : gEnv s) (hZ : gZ A s) (hA : ∀ q : Nat, s.heap.size ≤ q → A q) (hbA : ¬ A b) (hAo : ∀ q : Nat, A q → s.heap.size ≤ q) (hL8 : L = 8) : ∀ (H : Heap) (locs : List Loc), va_K (dC, dI) vwCl [(cK, .int), (cS, .long), (cC1, .int), (cC2, .int), (ckM, .int), (cf, .int), (cg, .int), (cO, .long)] s → va_P (dC, dI) vwCl [(h0, .inr (11, oX w sg ro tr gX)), (w, .inr (10, oW kd gW 0 0)), (kd, .inl (cK, 10, .inl (fun _ => 0))), (sg, .inr (7, oS w sn gS 0)), (sn, .inl (cS, 40, .inr (.inl (fun _ => 0)))), (ro, .inr (6, oR w sg cu sp gR 0 0)), (cu, .inr (8, oB c1 gB1)), (c1, .inl (cC1, 10, .inl (fun _ => 0))), (sp, .inr (8, oB c2 gB2)), (c2, .inl (cC2, 10, .inl (fun _ => 0))), (tr, .inr (9, oT w sg ro gT 0 0 0 0)), (m0, .inr (12, mM kdM gw fa gM 0 0 0 0 0 0 0 0 0)), (kdM, .inl (ckM, 10, .inl (fun _ => 0))), (fa, .inl (cf, 10, .inl (fun _ => 0))), (gw, .inl (cg, 10, .inl (fun _ => 0))), (ou, .inl (cO, 1, .inr (.inl (fun _ => 0))))] H → va_D A [(h0, .inr (11, oX w sg ro tr gX)), (w, .inr (10, oW kd gW 0 0)), (kd, .inl (cK, 10, .inl (fun _ => 0))), (sg, .inr (7, oS w sn gS 0)), (sn, .inl (cS, 40, .inr (.inl (fun _ => 0)))), (ro, .inr (6, oR w sg cu sp gR 0 0)), (cu, .inr (8, oB c1 gB1)), (c1, .inl (cC1, 10, .inl (fun _ => 0))), (sp, .inr (8, oB c2 gB2)), (c2, .inl (cC2, 10, .inl (fun _ => 0))), (tr, .inr (9, oT w sg ro gT 0 0 0 0)), (m0, .inr (12, mM kdM gw fa gM 0 0 0 0 0 0 0 0 0)), (kdM, .inl (ckM, 10, .inl (fun _ => 0))), (fa, .inl (cf, 10, .inl (fun _ => 0))), (gw, .inl (cg, 10, .inl (fun _ => 0))), (ou, .inl (cO, 1, .inr (.inl (fun _ => 0))))] → va_S A s.heap H locs → ∀ ls : Array Slot, lv_has ls 7 [(4, .int 0), (3, .ref ou), (2, .ref m0), (1, .ref h0), (0, .ref b)] → W p l e room_1 s m #[Value.ref b] below meth c H locs 441 44110 (lw_Z below #[Value.ref b] s) (F0 m 152 ls []) := by
  intro H locs hK hP hD hS ls hl
  by_cases hr9 : (0 ≤ (xs (1 : Int32).toNatClampNeg) ∧ (xs (1 : Int32).toNatClampNeg) ≤ 2)
  · refine lv_aload_n hx hb dL_law_152 rfl (lv_at hl 3 rfl) ?_
    refine lv_aload_n hx hb dL_law_153 rfl (lv_at hl 4 rfl) ?_
    refine lv_iload hx hb dL_law_154 (lv_at hl 0 rfl) ?_
    refine lv_iconst (v := 1) hx hb dL_law_156 (by decide) ?_
    refine lv_iadd hx hb dL_law_157 ?_
    refine lv_topi (fun z1020 ez1020 => ?_)
    obtain rfl : z1020 = 1 := ez1020.trans (by decide)
    refine va_sld hx hb hX hbl hbA hS (by rw [hL8]; unfold vp_in; decide) dL_law_158 ?_
    refine lv_aload_n hx hb dL_law_159 rfl (lv_at hl 1 rfl) ?_
    have hPc := hP.sub (ws' := [(h0, .inr (11, oX w sg ro tr gX)), (w, .inr (10, oW kd gW 0 0)), (kd, .inl (cK, 10, .inl (fun _ => 0))), (ou, .inl (cO, 1, .inr (.inl (fun _ => 0))))]) [0, 1, 2, 15] rfl
    have hDc := hD.sub (ws' := [(h0, .inr (11, oX w sg ro tr gX)), (w, .inr (10, oW kd gW 0 0)), (kd, .inl (cK, 10, .inl (fun _ => 0))), (ou, .inl (cO, 1, .inr (.inl (fun _ => 0))))]) [0, 1, 2, 15] (by decide) rfl
    have hKc := hK.sub (tys' := [(cK, .int), (cO, .long)]) [0, 7] rfl
    have hFc := va_free (wc := [(h0, .inr (11, oX w sg ro tr gX)), (w, .inr (10, oW kd gW 0 0)), (kd, .inl (cK, 10, .inl (fun _ => 0))), (ou, .inl (cO, 1, .inr (.inl (fun _ => 0))))]) hD hS hA [0, 1, 2, 15] rfl
    refine va_calli (vx_runSW (As := [.ref h0, .int (xs (1 : Int32).toNatClampNeg), .ref ou]) (rest := []) ⟨hx, hb, hml, hown, hts⟩ (c_L_box l dC dI H.size hfl h0 w sg ro tr gX kd gW cK (xs (1 : Int32).toNatClampNeg) ou cO (fun _ => 0)) (vx_cwSW 3 hts (gSt u_500 u_501 u_0 u_502) rfl rfl rfl (by decide +kernel) ⟨Nat.le_of_ble_eq_true rfl, Nat.le_of_ble_eq_true rfl⟩) ⟨gPZ_blind, gPZ_call hPc hKc hDc hE hZ hS hFc⟩ rfl rfl hl.1 rfl (lv_room (Nat.le_of_ble_eq_true rfl)) dL_law_160 ⟨(Nat.le_of_ble_eq_true rfl), (Nat.le_of_ble_eq_true rfl)⟩) hS (fun q _ h => hFc q h) hFc (fun r1023 u1021 t9 H1022 locs ht hvm hw hB hz1 hk1 hS => ?_)
    obtain ⟨hP1, hK1, hD1⟩ := hB
    rw [ht] at hP1
    have hK1 := va_K.moved hvm.symm hK1
    obtain ⟨hP, hD⟩ := va_join (wr := [(sg, .inr (7, oS w sn gS 0)), (sn, .inl (cS, 40, .inr (.inl (fun _ => 0)))), (ro, .inr (6, oR w sg cu sp gR 0 0)), (cu, .inr (8, oB c1 gB1)), (c1, .inl (cC1, 10, .inl (fun _ => 0))), (sp, .inr (8, oB c2 gB2)), (c2, .inl (cC2, 10, .inl (fun _ => 0))), (tr, .inr (9, oT w sg ro gT 0 0 0 0)), (m0, .inr (12, mM kdM gw fa gM 0 0 0 0 0 0 0 0 0)), (kdM, .inl (ckM, 10, .inl (fun _ => 0))), (fa, .inl (cf, 10, .inl (fun _ => 0))), (gw, .inl (cg, 10, .inl (fun _ => 0)))]) (w1 := [(ou, .inl (cO, 1, .inr (.inl u1021)))]) hP hD [0, 1, 2, 15] [3, 4, 5, 6, 7, 8, 9, 10, 11, 12, 13, 14] rfl rfl (by decide) (by decide) hk1 hFc hP1 hD1
    have hK := (hK.sub (tys' := [(cS, .long), (cC1, .int), (cC2, .int), (ckM, .int), (cf, .int), (cg, .int)]) [1, 2, 3, 4, 5, 6] rfl).app hK1
    have hK : va_K (dC, dI) vwCl [(cS, .long), (cC1, .int), (cC2, .int), (ckM, .int), (cf, .int), (cg, .int), (cO, .long)] s := hK
    have hP : va_P (dC, dI) vwCl [(sg, .inr (7, oS w sn gS 0)), (sn, .inl (cS, 40, .inr (.inl (fun _ => 0)))), (ro, .inr (6, oR w sg cu sp gR 0 0)), (cu, .inr (8, oB c1 gB1)), (c1, .inl (cC1, 10, .inl (fun _ => 0))), (sp, .inr (8, oB c2 gB2)), (c2, .inl (cC2, 10, .inl (fun _ => 0))), (tr, .inr (9, oT w sg ro gT 0 0 0 0)), (m0, .inr (12, mM kdM gw fa gM 0 0 0 0 0 0 0 0 0)), (kdM, .inl (ckM, 10, .inl (fun _ => 0))), (fa, .inl (cf, 10, .inl (fun _ => 0))), (gw, .inl (cg, 10, .inl (fun _ => 0))), (ou, .inl (cO, 1, .inr (.inl u1021)))] H1022 := hP
    have hD : va_D A [(sg, .inr (7, oS w sn gS 0)), (sn, .inl (cS, 40, .inr (.inl (fun _ => 0)))), (ro, .inr (6, oR w sg cu sp gR 0 0)), (cu, .inr (8, oB c1 gB1)), (c1, .inl (cC1, 10, .inl (fun _ => 0))), (sp, .inr (8, oB c2 gB2)), (c2, .inl (cC2, 10, .inl (fun _ => 0))), (tr, .inr (9, oT w sg ro gT 0 0 0 0)), (m0, .inr (12, mM kdM gw fa gM 0 0 0 0 0 0 0 0 0)), (kdM, .inl (ckM, 10, .inl (fun _ => 0))), (fa, .inl (cf, 10, .inl (fun _ => 0))), (gw, .inl (cg, 10, .inl (fun _ => 0))), (ou, .inl (cO, 1, .inr (.inl u1021)))] := hD
    refine W.widen (k := 442) (n := 44116) (Nat.le_of_ble_eq_true rfl) (Nat.le_of_ble_eq_true rfl) ?_
    obtain ⟨hr0, hu0⟩ := hw.1 hr9
    subst hr0
    refine lv_istore (lv' := [(5, .int 0), (4, .int 0), (3, .ref ou), (2, .ref m0), (1, .ref h0), (0, .ref b)]) hx hb dL_law_163 hl (by decide) rfl (fun ls hl => ?_)
    refine lv_aload_n hx hb dL_law_165 rfl (lv_at hl 3 rfl) ?_
    refine lv_aload_n hx hb dL_law_166 rfl (lv_at hl 5 rfl) ?_
    refine lv_iload hx hb dL_law_167 (lv_at hl 1 rfl) ?_
    refine lv_iconst (v := 1) hx hb dL_law_169 (by decide) ?_
    refine lv_iadd hx hb dL_law_170 ?_
    refine lv_topi (fun z1024 ez1024 => ?_)
    obtain rfl : z1024 = 1 := ez1024.trans (by decide)
    refine va_sld hx hb hX hbl hbA hS (by rw [hL8]; unfold vp_in; decide) dL_law_171 ?_
    have hPc := hP.sub (ws' := [(m0, .inr (12, mM kdM gw fa gM 0 0 0 0 0 0 0 0 0)), (kdM, .inl (ckM, 10, .inl (fun _ => 0))), (gw, .inl (cg, 10, .inl (fun _ => 0)))]) [8, 9, 11] rfl
    have hDc := hD.sub (ws' := [(m0, .inr (12, mM kdM gw fa gM 0 0 0 0 0 0 0 0 0)), (kdM, .inl (ckM, 10, .inl (fun _ => 0))), (gw, .inl (cg, 10, .inl (fun _ => 0)))]) [8, 9, 11] (by decide) rfl
    have hKc := hK.sub (tys' := [(ckM, .int), (cg, .int)]) [3, 5] rfl
    have hFc := va_free (wc := [(m0, .inr (12, mM kdM gw fa gM 0 0 0 0 0 0 0 0 0)), (kdM, .inl (ckM, 10, .inl (fun _ => 0))), (gw, .inl (cg, 10, .inl (fun _ => 0)))]) hD hS hA [8, 9, 11] rfl
    refine va_calli (va_runV (As := [.int (xs (1 : Int32).toNatClampNeg)]) (rest := []) ⟨hx, hb, hml, hown, hts⟩ (c_X12_box l dC dI H1022.size m0 kdM gw fa gM 0 ckM cg (xs (1 : Int32).toNatClampNeg)) (cwV 1 hts (gV u_1396 u_1397 u_1398 u_14 u_1399) rfl rfl rfl (by decide +kernel) ⟨Nat.le_of_ble_eq_true rfl, Nat.le_of_ble_eq_true rfl⟩) ⟨gP_blind, va_recv hKc hPc (ci := 12) (q0 := 0) rfl rfl, gP_call hPc hKc hDc hE⟩ rfl rfl hl.1 rfl (lv_room (Nat.le_of_ble_eq_true rfl)) dL_law_172 ⟨(Nat.le_of_ble_eq_true rfl), (Nat.le_of_ble_eq_true rfl)⟩) hS (fun q _ h => hFc q h) hFc (fun r1027 u1025 t9 H1026 locs ht hvm hw hB hz1 hk1 hS => ?_)
    obtain ⟨hP1, hK1, hD1⟩ := hB
    rw [ht] at hP1
    have hK1 := va_K.moved hvm.symm hK1
    obtain ⟨hP, hD⟩ := va_join (wr := [(sg, .inr (7, oS w sn gS 0)), (sn, .inl (cS, 40, .inr (.inl (fun _ => 0)))), (ro, .inr (6, oR w sg cu sp gR 0 0)), (cu, .inr (8, oB c1 gB1)), (c1, .inl (cC1, 10, .inl (fun _ => 0))), (sp, .inr (8, oB c2 gB2)), (c2, .inl (cC2, 10, .inl (fun _ => 0))), (tr, .inr (9, oT w sg ro gT 0 0 0 0)), (fa, .inl (cf, 10, .inl (fun _ => 0))), (ou, .inl (cO, 1, .inr (.inl u1021)))]) (w1 := [(m0, .inr (12, mM kdM gw fa gM u1025.1 0 0 0 0 0 0 0 u1025.2))]) hP hD [8, 9, 11] [0, 1, 2, 3, 4, 5, 6, 7, 10, 12] rfl rfl (by decide) (by decide) hk1 hFc hP1 hD1
    have hK := (hK.sub (tys' := [(cS, .long), (cC1, .int), (cC2, .int), (cf, .int), (cO, .long)]) [0, 1, 2, 4, 6] rfl).app hK1
    have hK : va_K (dC, dI) vwCl [(cS, .long), (cC1, .int), (cC2, .int), (cf, .int), (cO, .long)] s := hK
    have hP : va_P (dC, dI) vwCl [(sg, .inr (7, oS w sn gS 0)), (sn, .inl (cS, 40, .inr (.inl (fun _ => 0)))), (ro, .inr (6, oR w sg cu sp gR 0 0)), (cu, .inr (8, oB c1 gB1)), (c1, .inl (cC1, 10, .inl (fun _ => 0))), (sp, .inr (8, oB c2 gB2)), (c2, .inl (cC2, 10, .inl (fun _ => 0))), (tr, .inr (9, oT w sg ro gT 0 0 0 0)), (fa, .inl (cf, 10, .inl (fun _ => 0))), (ou, .inl (cO, 1, .inr (.inl u1021))), (m0, .inr (12, mM kdM gw fa gM u1025.1 0 0 0 0 0 0 0 u1025.2))] H1026 := hP
    have hD : va_D A [(sg, .inr (7, oS w sn gS 0)), (sn, .inl (cS, 40, .inr (.inl (fun _ => 0)))), (ro, .inr (6, oR w sg cu sp gR 0 0)), (cu, .inr (8, oB c1 gB1)), (c1, .inl (cC1, 10, .inl (fun _ => 0))), (sp, .inr (8, oB c2 gB2)), (c2, .inl (cC2, 10, .inl (fun _ => 0))), (tr, .inr (9, oT w sg ro gT 0 0 0 0)), (fa, .inl (cf, 10, .inl (fun _ => 0))), (ou, .inl (cO, 1, .inr (.inl u1021))), (m0, .inr (12, mM kdM gw fa gM u1025.1 0 0 0 0 0 0 0 u1025.2))] := hD
    obtain ⟨hr1, he2⟩ := hw.1 (fun q => gIs_f q hr9)
    subst hr1
    refine lv_istore (lv' := [(6, .int 0), (5, .int 0), (4, .int 0), (3, .ref ou), (2, .ref m0), (1, .ref h0), (0, .ref b)]) hx hb dL_law_175 hl (by decide) rfl (fun ls hl => ?_)
    refine lv_aload_n hx hb dL_law_177 rfl (lv_at hl 4 rfl) ?_
    have hPc := hP.sub (ws' := [(m0, .inr (12, mM kdM gw fa gM u1025.1 0 0 0 0 0 0 0 u1025.2))]) [10] rfl
    have hDc := hD.sub (ws' := [(m0, .inr (12, mM kdM gw fa gM u1025.1 0 0 0 0 0 0 0 u1025.2))]) [10] (by decide) rfl
    have hKc := hK.sub (tys' := []) [] rfl
    have hFc := roF hS hA
    refine va_calli (va_runV (As := []) (rest := []) ⟨hx, hb, hml, hown, hts⟩ (cu_X12_thrown l dC dI H1026.size m0 kdM gw fa gM u1025.2 u1025.1 0) (cwV 0 hts (gV u_1392 u_1393 u_1394 u_14 u_1395) rfl rfl rfl (by decide +kernel) ⟨Nat.le_of_ble_eq_true rfl, Nat.le_of_ble_eq_true rfl⟩) ⟨gP_blind, va_recv hKc hPc (ci := 12) (q0 := 0) rfl rfl, gP_call hPc hKc hDc hE⟩ rfl rfl hl.1 rfl (lv_room (Nat.le_of_ble_eq_true rfl)) dL_law_178 ⟨(Nat.le_of_ble_eq_true rfl), (Nat.le_of_ble_eq_true rfl)⟩) hS (fun q _ h => hFc q h) hFc (fun r1030 u1028 t9 H1029 locs ht hvm hw hB hz1 hk1 hS => ?_)
    have hP := roP hP hk1
    subst hw
    rw [he2]
    refine lv_iload hx hb dL_law_181 (lv_at hl 1 rfl) ?_
    refine lv_icmp_eq (tgt := 188) hx hb dL_law_183 (by decide) (fun _ => ?_) (fun h9 => absurd (by decide) h9)
    refine lv_iload hx hb dL_law_188 (lv_at hl 1 rfl) ?_
    refine lv_if_ne (tgt := 205) hx hb dL_law_190 (by decide) (fun h9 => absurd (by decide) h9) (fun _ => ?_)
    refine lv_aload_n hx hb dL_law_193 rfl (lv_at hl 3 rfl) ?_
    refine lv_iconst (v := 0) hx hb dL_law_194 (by decide) ?_
    refine va_lald hx hb hK hP 9 4 rfl rfl (by unfold vp_in; decide) dL_law_195 ?_
    rw [show u1021 (0 : Int32).toNatClampNeg = 0 from hu0]
    refine lv_iload hx hb dL_law_196 (lv_at hl 0 rfl) ?_
    refine lv_i2l (v := 0) hx hb dL_law_198 (by decide) ?_
    refine W.lcmp hx hb dL_law_199 ?_
    rw [lg_self]
    refine lv_if_eq (tgt := 205) hx hb dL_law_200 (by decide) (fun _ => ?_) (fun h9 => absurd (by decide) h9)
    refine lv_goto (tgt := 1877) hx hb dL_law_205 (by decide) ?_
    refine W.widen (k := 600002) (n := 7302232) (Nat.le_of_ble_eq_true rfl) (Nat.le_of_ble_eq_true rfl) ?_
    exact law_tail hfl hx hb hr hml hown hts hX hbl hlocks hE hZ hA hbA hAo hL8 hS (lv_sub hl [6, 2] rfl)
  · refine lv_aload_n hx hb dL_law_152 rfl (lv_at hl 3 rfl) ?_
    refine lv_aload_n hx hb dL_law_153 rfl (lv_at hl 4 rfl) ?_
    refine lv_iload hx hb dL_law_154 (lv_at hl 0 rfl) ?_
    refine lv_iconst (v := 1) hx hb dL_law_156 (by decide) ?_
    refine lv_iadd hx hb dL_law_157 ?_
    refine lv_topi (fun z1031 ez1031 => ?_)
    obtain rfl : z1031 = 1 := ez1031.trans (by decide)
    refine va_sld hx hb hX hbl hbA hS (by rw [hL8]; unfold vp_in; decide) dL_law_158 ?_
    refine lv_aload_n hx hb dL_law_159 rfl (lv_at hl 1 rfl) ?_
    have hPc := hP.sub (ws' := [(h0, .inr (11, oX w sg ro tr gX)), (w, .inr (10, oW kd gW 0 0)), (kd, .inl (cK, 10, .inl (fun _ => 0))), (ou, .inl (cO, 1, .inr (.inl (fun _ => 0))))]) [0, 1, 2, 15] rfl
    have hDc := hD.sub (ws' := [(h0, .inr (11, oX w sg ro tr gX)), (w, .inr (10, oW kd gW 0 0)), (kd, .inl (cK, 10, .inl (fun _ => 0))), (ou, .inl (cO, 1, .inr (.inl (fun _ => 0))))]) [0, 1, 2, 15] (by decide) rfl
    have hKc := hK.sub (tys' := [(cK, .int), (cO, .long)]) [0, 7] rfl
    have hFc := va_free (wc := [(h0, .inr (11, oX w sg ro tr gX)), (w, .inr (10, oW kd gW 0 0)), (kd, .inl (cK, 10, .inl (fun _ => 0))), (ou, .inl (cO, 1, .inr (.inl (fun _ => 0))))]) hD hS hA [0, 1, 2, 15] rfl
    refine va_calli (vx_runSW (As := [.ref h0, .int (xs (1 : Int32).toNatClampNeg), .ref ou]) (rest := []) ⟨hx, hb, hml, hown, hts⟩ (c_L_box l dC dI H.size hfl h0 w sg ro tr gX kd gW cK (xs (1 : Int32).toNatClampNeg) ou cO (fun _ => 0)) (vx_cwSW 3 hts (gSt u_500 u_501 u_0 u_502) rfl rfl rfl (by decide +kernel) ⟨Nat.le_of_ble_eq_true rfl, Nat.le_of_ble_eq_true rfl⟩) ⟨gPZ_blind, gPZ_call hPc hKc hDc hE hZ hS hFc⟩ rfl rfl hl.1 rfl (lv_room (Nat.le_of_ble_eq_true rfl)) dL_law_160 ⟨(Nat.le_of_ble_eq_true rfl), (Nat.le_of_ble_eq_true rfl)⟩) hS (fun q _ h => hFc q h) hFc (fun r1034 u1032 t9 H1033 locs ht hvm hw hB hz1 hk1 hS => ?_)
    obtain ⟨hP1, hK1, hD1⟩ := hB
    rw [ht] at hP1
    have hK1 := va_K.moved hvm.symm hK1
    obtain ⟨hP, hD⟩ := va_join (wr := [(sg, .inr (7, oS w sn gS 0)), (sn, .inl (cS, 40, .inr (.inl (fun _ => 0)))), (ro, .inr (6, oR w sg cu sp gR 0 0)), (cu, .inr (8, oB c1 gB1)), (c1, .inl (cC1, 10, .inl (fun _ => 0))), (sp, .inr (8, oB c2 gB2)), (c2, .inl (cC2, 10, .inl (fun _ => 0))), (tr, .inr (9, oT w sg ro gT 0 0 0 0)), (m0, .inr (12, mM kdM gw fa gM 0 0 0 0 0 0 0 0 0)), (kdM, .inl (ckM, 10, .inl (fun _ => 0))), (fa, .inl (cf, 10, .inl (fun _ => 0))), (gw, .inl (cg, 10, .inl (fun _ => 0)))]) (w1 := [(ou, .inl (cO, 1, .inr (.inl u1032)))]) hP hD [0, 1, 2, 15] [3, 4, 5, 6, 7, 8, 9, 10, 11, 12, 13, 14] rfl rfl (by decide) (by decide) hk1 hFc hP1 hD1
    have hK := (hK.sub (tys' := [(cS, .long), (cC1, .int), (cC2, .int), (ckM, .int), (cf, .int), (cg, .int)]) [1, 2, 3, 4, 5, 6] rfl).app hK1
    have hK : va_K (dC, dI) vwCl [(cS, .long), (cC1, .int), (cC2, .int), (ckM, .int), (cf, .int), (cg, .int), (cO, .long)] s := hK
    have hP : va_P (dC, dI) vwCl [(sg, .inr (7, oS w sn gS 0)), (sn, .inl (cS, 40, .inr (.inl (fun _ => 0)))), (ro, .inr (6, oR w sg cu sp gR 0 0)), (cu, .inr (8, oB c1 gB1)), (c1, .inl (cC1, 10, .inl (fun _ => 0))), (sp, .inr (8, oB c2 gB2)), (c2, .inl (cC2, 10, .inl (fun _ => 0))), (tr, .inr (9, oT w sg ro gT 0 0 0 0)), (m0, .inr (12, mM kdM gw fa gM 0 0 0 0 0 0 0 0 0)), (kdM, .inl (ckM, 10, .inl (fun _ => 0))), (fa, .inl (cf, 10, .inl (fun _ => 0))), (gw, .inl (cg, 10, .inl (fun _ => 0))), (ou, .inl (cO, 1, .inr (.inl u1032)))] H1033 := hP
    have hD : va_D A [(sg, .inr (7, oS w sn gS 0)), (sn, .inl (cS, 40, .inr (.inl (fun _ => 0)))), (ro, .inr (6, oR w sg cu sp gR 0 0)), (cu, .inr (8, oB c1 gB1)), (c1, .inl (cC1, 10, .inl (fun _ => 0))), (sp, .inr (8, oB c2 gB2)), (c2, .inl (cC2, 10, .inl (fun _ => 0))), (tr, .inr (9, oT w sg ro gT 0 0 0 0)), (m0, .inr (12, mM kdM gw fa gM 0 0 0 0 0 0 0 0 0)), (kdM, .inl (ckM, 10, .inl (fun _ => 0))), (fa, .inl (cf, 10, .inl (fun _ => 0))), (gw, .inl (cg, 10, .inl (fun _ => 0))), (ou, .inl (cO, 1, .inr (.inl u1032)))] := hD
    refine W.widen (k := 442) (n := 44116) (Nat.le_of_ble_eq_true rfl) (Nat.le_of_ble_eq_true rfl) ?_
    have hr0 := hw.2 hr9
    subst hr0
    refine lv_istore (lv' := [(5, .int 1), (4, .int 0), (3, .ref ou), (2, .ref m0), (1, .ref h0), (0, .ref b)]) hx hb dL_law_163 hl (by decide) rfl (fun ls hl => ?_)
    refine lv_aload_n hx hb dL_law_165 rfl (lv_at hl 3 rfl) ?_
    refine lv_aload_n hx hb dL_law_166 rfl (lv_at hl 5 rfl) ?_
    refine lv_iload hx hb dL_law_167 (lv_at hl 1 rfl) ?_
    refine lv_iconst (v := 1) hx hb dL_law_169 (by decide) ?_
    refine lv_iadd hx hb dL_law_170 ?_
    refine lv_topi (fun z1035 ez1035 => ?_)
    obtain rfl : z1035 = 1 := ez1035.trans (by decide)
    refine va_sld hx hb hX hbl hbA hS (by rw [hL8]; unfold vp_in; decide) dL_law_171 ?_
    have hPc := hP.sub (ws' := [(m0, .inr (12, mM kdM gw fa gM 0 0 0 0 0 0 0 0 0)), (kdM, .inl (ckM, 10, .inl (fun _ => 0))), (gw, .inl (cg, 10, .inl (fun _ => 0)))]) [8, 9, 11] rfl
    have hDc := hD.sub (ws' := [(m0, .inr (12, mM kdM gw fa gM 0 0 0 0 0 0 0 0 0)), (kdM, .inl (ckM, 10, .inl (fun _ => 0))), (gw, .inl (cg, 10, .inl (fun _ => 0)))]) [8, 9, 11] (by decide) rfl
    have hKc := hK.sub (tys' := [(ckM, .int), (cg, .int)]) [3, 5] rfl
    have hFc := va_free (wc := [(m0, .inr (12, mM kdM gw fa gM 0 0 0 0 0 0 0 0 0)), (kdM, .inl (ckM, 10, .inl (fun _ => 0))), (gw, .inl (cg, 10, .inl (fun _ => 0)))]) hD hS hA [8, 9, 11] rfl
    refine va_calli (va_runV (As := [.int (xs (1 : Int32).toNatClampNeg)]) (rest := []) ⟨hx, hb, hml, hown, hts⟩ (c_X12_box l dC dI H1033.size m0 kdM gw fa gM 0 ckM cg (xs (1 : Int32).toNatClampNeg)) (cwV 1 hts (gV u_1396 u_1397 u_1398 u_14 u_1399) rfl rfl rfl (by decide +kernel) ⟨Nat.le_of_ble_eq_true rfl, Nat.le_of_ble_eq_true rfl⟩) ⟨gP_blind, va_recv hKc hPc (ci := 12) (q0 := 0) rfl rfl, gP_call hPc hKc hDc hE⟩ rfl rfl hl.1 rfl (lv_room (Nat.le_of_ble_eq_true rfl)) dL_law_172 ⟨(Nat.le_of_ble_eq_true rfl), (Nat.le_of_ble_eq_true rfl)⟩) hS (fun q _ h => hFc q h) hFc (fun r1038 u1036 t9 H1037 locs ht hvm hw hB hz1 hk1 hS => ?_)
    obtain ⟨hP1, hK1, hD1⟩ := hB
    rw [ht] at hP1
    have hK1 := va_K.moved hvm.symm hK1
    obtain ⟨hP, hD⟩ := va_join (wr := [(sg, .inr (7, oS w sn gS 0)), (sn, .inl (cS, 40, .inr (.inl (fun _ => 0)))), (ro, .inr (6, oR w sg cu sp gR 0 0)), (cu, .inr (8, oB c1 gB1)), (c1, .inl (cC1, 10, .inl (fun _ => 0))), (sp, .inr (8, oB c2 gB2)), (c2, .inl (cC2, 10, .inl (fun _ => 0))), (tr, .inr (9, oT w sg ro gT 0 0 0 0)), (fa, .inl (cf, 10, .inl (fun _ => 0))), (ou, .inl (cO, 1, .inr (.inl u1032)))]) (w1 := [(m0, .inr (12, mM kdM gw fa gM u1036.1 0 0 0 0 0 0 0 u1036.2))]) hP hD [8, 9, 11] [0, 1, 2, 3, 4, 5, 6, 7, 10, 12] rfl rfl (by decide) (by decide) hk1 hFc hP1 hD1
    have hK := (hK.sub (tys' := [(cS, .long), (cC1, .int), (cC2, .int), (cf, .int), (cO, .long)]) [0, 1, 2, 4, 6] rfl).app hK1
    have hK : va_K (dC, dI) vwCl [(cS, .long), (cC1, .int), (cC2, .int), (cf, .int), (cO, .long)] s := hK
    have hP : va_P (dC, dI) vwCl [(sg, .inr (7, oS w sn gS 0)), (sn, .inl (cS, 40, .inr (.inl (fun _ => 0)))), (ro, .inr (6, oR w sg cu sp gR 0 0)), (cu, .inr (8, oB c1 gB1)), (c1, .inl (cC1, 10, .inl (fun _ => 0))), (sp, .inr (8, oB c2 gB2)), (c2, .inl (cC2, 10, .inl (fun _ => 0))), (tr, .inr (9, oT w sg ro gT 0 0 0 0)), (fa, .inl (cf, 10, .inl (fun _ => 0))), (ou, .inl (cO, 1, .inr (.inl u1032))), (m0, .inr (12, mM kdM gw fa gM u1036.1 0 0 0 0 0 0 0 u1036.2))] H1037 := hP
    have hD : va_D A [(sg, .inr (7, oS w sn gS 0)), (sn, .inl (cS, 40, .inr (.inl (fun _ => 0)))), (ro, .inr (6, oR w sg cu sp gR 0 0)), (cu, .inr (8, oB c1 gB1)), (c1, .inl (cC1, 10, .inl (fun _ => 0))), (sp, .inr (8, oB c2 gB2)), (c2, .inl (cC2, 10, .inl (fun _ => 0))), (tr, .inr (9, oT w sg ro gT 0 0 0 0)), (fa, .inl (cf, 10, .inl (fun _ => 0))), (ou, .inl (cO, 1, .inr (.inl u1032))), (m0, .inr (12, mM kdM gw fa gM u1036.1 0 0 0 0 0 0 0 u1036.2))] := hD
    have he2 := hw.2 (gIs_n hr9)
    refine lv_istore (lv' := [(6, .int r1038), (5, .int 1), (4, .int 0), (3, .ref ou), (2, .ref m0), (1, .ref h0), (0, .ref b)]) hx hb dL_law_175 hl (by decide) rfl (fun ls hl => ?_)
    refine lv_aload_n hx hb dL_law_177 rfl (lv_at hl 4 rfl) ?_
    have hPc := hP.sub (ws' := [(m0, .inr (12, mM kdM gw fa gM u1036.1 0 0 0 0 0 0 0 u1036.2))]) [10] rfl
    have hDc := hD.sub (ws' := [(m0, .inr (12, mM kdM gw fa gM u1036.1 0 0 0 0 0 0 0 u1036.2))]) [10] (by decide) rfl
    have hKc := hK.sub (tys' := []) [] rfl
    have hFc := roF hS hA
    refine va_calli (va_runV (As := []) (rest := []) ⟨hx, hb, hml, hown, hts⟩ (cu_X12_thrown l dC dI H1037.size m0 kdM gw fa gM u1036.2 u1036.1 0) (cwV 0 hts (gV u_1392 u_1393 u_1394 u_14 u_1395) rfl rfl rfl (by decide +kernel) ⟨Nat.le_of_ble_eq_true rfl, Nat.le_of_ble_eq_true rfl⟩) ⟨gP_blind, va_recv hKc hPc (ci := 12) (q0 := 0) rfl rfl, gP_call hPc hKc hDc hE⟩ rfl rfl hl.1 rfl (lv_room (Nat.le_of_ble_eq_true rfl)) dL_law_178 ⟨(Nat.le_of_ble_eq_true rfl), (Nat.le_of_ble_eq_true rfl)⟩) hS (fun q _ h => hFc q h) hFc (fun r1041 u1039 t9 H1040 locs ht hvm hw hB hz1 hk1 hS => ?_)
    have hP := roP hP hk1
    subst hw
    rw [he2]
    refine lv_iload hx hb dL_law_181 (lv_at hl 1 rfl) ?_
    refine lv_icmp_eq (tgt := 188) hx hb dL_law_183 (by decide) (fun _ => ?_) (fun h9 => absurd (by decide) h9)
    refine lv_iload hx hb dL_law_188 (lv_at hl 1 rfl) ?_
    refine lv_if_ne (tgt := 205) hx hb dL_law_190 (by decide) (fun _ => ?_) (fun h9 => absurd h9 (by decide))
    refine lv_goto (tgt := 1877) hx hb dL_law_205 (by decide) ?_
    refine W.widen (k := 600002) (n := 7302232) (Nat.le_of_ble_eq_true rfl) (Nat.le_of_ble_eq_true rfl) ?_
    exact law_tail hfl hx hb hr hml hown hts hX hbl hlocks hE hZ hA hbA hAo hL8 hS (lv_sub hl [6, 2] rfl)
set_option maxHeartbeats 8000000 in
set_option maxRecDepth 100000 in
theorem law_c1 {p : Program} {l : Launch} {e : Env} {s : State} {m : MethodId} {below : List Frame} {meth : Method} {c : Code} {dC : Nat → ClassId} {dI : Nat → Nat → Nat} {A : Nat → Prop} {b L : Nat} {xs : Nat → Int32} {h0 : Nat} {w : Nat} {kd : Nat} {cK : ClassId} {gW : Nat → Nat} {sg : Nat} {sn : Nat} {cS : ClassId} {gS : Nat → Nat} {ro : Nat} {cu : Nat} {c1 : Nat} {cC1 : ClassId} {gB1 : Nat → Nat} {sp : Nat} {c2 : Nat} {cC2 : ClassId} {gB2 : Nat → Nat} {gR : Nat → Nat} {tr : Nat} {gT : Nat → Nat} {gX : Nat → Nat} {m0 : Nat} {kdM : Nat} {ckM : ClassId} {fa : Nat} {cf : ClassId} {gw : Nat} {cg : ClassId} {gM : Nat → Nat} {ou : Nat} {cO : ClassId} (hfl : l.stackTraces = false) (hx : p.tables.exec = Jvm.exec) (hb : c.code = code) (hr : meth.sig.returnType = ret) (hml : c.maxLocals = 7) (hown : s.vm.findClass RL = some m.cls) (hts : ∀ w ∈ gU, w.before #[Value.ref b] s = true) (hX : va_X b L xs s s.heap) (hbl : b < s.heap.size) (hlocks : meth.locks = false) (hE : gEnv s) (hZ : gZ A s) (hA : ∀ q : Nat, s.heap.size ≤ q → A q) (hbA : ¬ A b) (hAo : ∀ q : Nat, A q → s.heap.size ≤ q) (hL8 : L = 8) : ∀ (H : Heap) (locs : List Loc), va_K (dC, dI) vwCl [(cK, .int), (cS, .long), (cC1, .int), (cC2, .int), (ckM, .int), (cf, .int), (cg, .int), (cO, .long)] s → va_P (dC, dI) vwCl [(h0, .inr (11, oX w sg ro tr gX)), (w, .inr (10, oW kd gW 0 0)), (kd, .inl (cK, 10, .inl (fun _ => 0))), (sg, .inr (7, oS w sn gS 0)), (sn, .inl (cS, 40, .inr (.inl (fun _ => 0)))), (ro, .inr (6, oR w sg cu sp gR 0 0)), (cu, .inr (8, oB c1 gB1)), (c1, .inl (cC1, 10, .inl (fun _ => 0))), (sp, .inr (8, oB c2 gB2)), (c2, .inl (cC2, 10, .inl (fun _ => 0))), (tr, .inr (9, oT w sg ro gT 0 0 0 0)), (m0, .inr (12, mM kdM gw fa gM 0 0 0 0 0 0 0 0 0)), (kdM, .inl (ckM, 10, .inl (fun _ => 0))), (fa, .inl (cf, 10, .inl (fun _ => 0))), (gw, .inl (cg, 10, .inl (fun _ => 0))), (ou, .inl (cO, 1, .inr (.inl (fun _ => 0))))] H → va_D A [(h0, .inr (11, oX w sg ro tr gX)), (w, .inr (10, oW kd gW 0 0)), (kd, .inl (cK, 10, .inl (fun _ => 0))), (sg, .inr (7, oS w sn gS 0)), (sn, .inl (cS, 40, .inr (.inl (fun _ => 0)))), (ro, .inr (6, oR w sg cu sp gR 0 0)), (cu, .inr (8, oB c1 gB1)), (c1, .inl (cC1, 10, .inl (fun _ => 0))), (sp, .inr (8, oB c2 gB2)), (c2, .inl (cC2, 10, .inl (fun _ => 0))), (tr, .inr (9, oT w sg ro gT 0 0 0 0)), (m0, .inr (12, mM kdM gw fa gM 0 0 0 0 0 0 0 0 0)), (kdM, .inl (ckM, 10, .inl (fun _ => 0))), (fa, .inl (cf, 10, .inl (fun _ => 0))), (gw, .inl (cg, 10, .inl (fun _ => 0))), (ou, .inl (cO, 1, .inr (.inl (fun _ => 0))))] → va_S A s.heap H locs → ∀ ls : Array Slot, lv_has ls 7 [(4, .int 0), (3, .ref ou), (2, .ref m0), (1, .ref h0), (0, .ref b)] → W p l e room_1 s m #[Value.ref b] below meth c H locs 441 44110 (lw_Z below #[Value.ref b] s) (F0 m 208 ls []) := by
  intro H locs hK hP hD hS ls hl
  refine lv_aload_n hx hb dL_law_208 rfl (lv_at hl 3 rfl) ?_
  refine lv_aload_n hx hb dL_law_209 rfl (lv_at hl 4 rfl) ?_
  refine lv_iload hx hb dL_law_210 (lv_at hl 0 rfl) ?_
  refine lv_iconst (v := 1) hx hb dL_law_212 (by decide) ?_
  refine lv_iadd hx hb dL_law_213 ?_
  refine lv_topi (fun z1042 ez1042 => ?_)
  obtain rfl : z1042 = 1 := ez1042.trans (by decide)
  refine va_sld hx hb hX hbl hbA hS (by rw [hL8]; unfold vp_in; decide) dL_law_214 ?_
  refine lv_aload_n hx hb dL_law_215 rfl (lv_at hl 4 rfl) ?_
  refine lv_iload hx hb dL_law_216 (lv_at hl 0 rfl) ?_
  refine lv_iconst (v := 2) hx hb dL_law_218 (by decide) ?_
  refine lv_iadd hx hb dL_law_219 ?_
  refine lv_topi (fun z1043 ez1043 => ?_)
  obtain rfl : z1043 = 2 := ez1043.trans (by decide)
  refine va_sld hx hb hX hbl hbA hS (by rw [hL8]; unfold vp_in; decide) dL_law_220 ?_
  refine lv_aload_n hx hb dL_law_221 rfl (lv_at hl 1 rfl) ?_
  have hPc := hP.sub (ws' := [(h0, .inr (11, oX w sg ro tr gX)), (w, .inr (10, oW kd gW 0 0))]) [0, 1] rfl
  have hDc := hD.sub (ws' := [(h0, .inr (11, oX w sg ro tr gX)), (w, .inr (10, oW kd gW 0 0))]) [0, 1] (by decide) rfl
  have hKc := hK.sub (tys' := []) [] rfl
  have hFc := roF hS hA
  refine va_calli (vx_runSW (As := [.ref h0, .int (xs (1 : Int32).toNatClampNeg), .int (xs (2 : Int32).toNatClampNeg), .ref ou]) (rest := []) ⟨hx, hb, hml, hown, hts⟩ (c_L_cable l dC dI H.size hfl h0 ou w sg ro tr gX kd gW (xs (1 : Int32).toNatClampNeg) (xs (2 : Int32).toNatClampNeg)) (vx_cwSW 4 hts (gSt u_603 u_604 u_0 u_605) rfl rfl rfl (by decide +kernel) ⟨Nat.le_of_ble_eq_true rfl, Nat.le_of_ble_eq_true rfl⟩) ⟨gPZ_blind, gPZ_call hPc hKc hDc hE hZ hS hFc⟩ rfl rfl hl.1 rfl (lv_room (Nat.le_of_ble_eq_true rfl)) dL_law_222 ⟨(Nat.le_of_ble_eq_true rfl), (Nat.le_of_ble_eq_true rfl)⟩) hS (fun q _ h => hFc q h) hFc (fun r1046 u1044 t9 H1045 locs ht hvm hw hB hz1 hk1 hS => ?_)
  have hP := roP hP hk1
  subst hw
  refine W.widen (k := 442) (n := 44116) (Nat.le_of_ble_eq_true rfl) (Nat.le_of_ble_eq_true rfl) ?_
  refine lv_istore (lv' := [(5, .int 1), (4, .int 0), (3, .ref ou), (2, .ref m0), (1, .ref h0), (0, .ref b)]) hx hb dL_law_225 hl (by decide) rfl (fun ls hl => ?_)
  refine lv_aload_n hx hb dL_law_227 rfl (lv_at hl 3 rfl) ?_
  refine lv_aload_n hx hb dL_law_228 rfl (lv_at hl 5 rfl) ?_
  refine lv_iload hx hb dL_law_229 (lv_at hl 1 rfl) ?_
  refine lv_iconst (v := 1) hx hb dL_law_231 (by decide) ?_
  refine lv_iadd hx hb dL_law_232 ?_
  refine lv_topi (fun z1047 ez1047 => ?_)
  obtain rfl : z1047 = 1 := ez1047.trans (by decide)
  refine va_sld hx hb hX hbl hbA hS (by rw [hL8]; unfold vp_in; decide) dL_law_233 ?_
  refine lv_aload_n hx hb dL_law_234 rfl (lv_at hl 5 rfl) ?_
  refine lv_iload hx hb dL_law_235 (lv_at hl 1 rfl) ?_
  refine lv_iconst (v := 2) hx hb dL_law_237 (by decide) ?_
  refine lv_iadd hx hb dL_law_238 ?_
  refine lv_topi (fun z1048 ez1048 => ?_)
  obtain rfl : z1048 = 2 := ez1048.trans (by decide)
  refine va_sld hx hb hX hbl hbA hS (by rw [hL8]; unfold vp_in; decide) dL_law_239 ?_
  have hPc := hP.sub (ws' := [(m0, .inr (12, mM kdM gw fa gM 0 0 0 0 0 0 0 0 0))]) [11] rfl
  have hDc := hD.sub (ws' := [(m0, .inr (12, mM kdM gw fa gM 0 0 0 0 0 0 0 0 0))]) [11] (by decide) rfl
  have hKc := hK.sub (tys' := []) [] rfl
  have hFc := va_free (wc := [(m0, .inr (12, mM kdM gw fa gM 0 0 0 0 0 0 0 0 0))]) hD hS hA [11] rfl
  refine va_calli (va_runV (As := [.int (xs (1 : Int32).toNatClampNeg), .int (xs (2 : Int32).toNatClampNeg)]) (rest := []) ⟨hx, hb, hml, hown, hts⟩ (c_X12_cable l dC dI H1045.size m0 kdM gw fa gM 0 (xs (1 : Int32).toNatClampNeg) (xs (2 : Int32).toNatClampNeg)) (cwV 2 hts (gV u_1407 u_1408 u_1409 u_14 u_1410) rfl rfl rfl (by decide +kernel) ⟨Nat.le_of_ble_eq_true rfl, Nat.le_of_ble_eq_true rfl⟩) ⟨gP_blind, va_recv hKc hPc (ci := 12) (q0 := 0) rfl rfl, gP_call hPc hKc hDc hE⟩ rfl rfl hl.1 rfl (lv_room (Nat.le_of_ble_eq_true rfl)) dL_law_240 ⟨(Nat.le_of_ble_eq_true rfl), (Nat.le_of_ble_eq_true rfl)⟩) hS (fun q _ h => hFc q h) hFc (fun r1051 u1049 t9 H1050 locs ht hvm hw hB hz1 hk1 hS => ?_)
  obtain ⟨hP1, hK1, hD1⟩ := hB
  rw [ht] at hP1
  have hK1 := va_K.moved hvm.symm hK1
  obtain ⟨hP, hD⟩ := va_join (wr := [(h0, .inr (11, oX w sg ro tr gX)), (w, .inr (10, oW kd gW 0 0)), (kd, .inl (cK, 10, .inl (fun _ => 0))), (sg, .inr (7, oS w sn gS 0)), (sn, .inl (cS, 40, .inr (.inl (fun _ => 0)))), (ro, .inr (6, oR w sg cu sp gR 0 0)), (cu, .inr (8, oB c1 gB1)), (c1, .inl (cC1, 10, .inl (fun _ => 0))), (sp, .inr (8, oB c2 gB2)), (c2, .inl (cC2, 10, .inl (fun _ => 0))), (tr, .inr (9, oT w sg ro gT 0 0 0 0)), (kdM, .inl (ckM, 10, .inl (fun _ => 0))), (fa, .inl (cf, 10, .inl (fun _ => 0))), (gw, .inl (cg, 10, .inl (fun _ => 0))), (ou, .inl (cO, 1, .inr (.inl (fun _ => 0))))]) (w1 := [(m0, .inr (12, mM kdM gw fa gM 0 0 0 0 0 0 0 0 1))]) hP hD [11] [0, 1, 2, 3, 4, 5, 6, 7, 8, 9, 10, 12, 13, 14, 15] rfl rfl (by decide) (by decide) hk1 hFc hP1 hD1
  have hK := (hK.sub (tys' := [(cK, .int), (cS, .long), (cC1, .int), (cC2, .int), (ckM, .int), (cf, .int), (cg, .int), (cO, .long)]) [0, 1, 2, 3, 4, 5, 6, 7] rfl).app hK1
  have hK : va_K (dC, dI) vwCl [(cK, .int), (cS, .long), (cC1, .int), (cC2, .int), (ckM, .int), (cf, .int), (cg, .int), (cO, .long)] s := hK
  have hP : va_P (dC, dI) vwCl [(h0, .inr (11, oX w sg ro tr gX)), (w, .inr (10, oW kd gW 0 0)), (kd, .inl (cK, 10, .inl (fun _ => 0))), (sg, .inr (7, oS w sn gS 0)), (sn, .inl (cS, 40, .inr (.inl (fun _ => 0)))), (ro, .inr (6, oR w sg cu sp gR 0 0)), (cu, .inr (8, oB c1 gB1)), (c1, .inl (cC1, 10, .inl (fun _ => 0))), (sp, .inr (8, oB c2 gB2)), (c2, .inl (cC2, 10, .inl (fun _ => 0))), (tr, .inr (9, oT w sg ro gT 0 0 0 0)), (kdM, .inl (ckM, 10, .inl (fun _ => 0))), (fa, .inl (cf, 10, .inl (fun _ => 0))), (gw, .inl (cg, 10, .inl (fun _ => 0))), (ou, .inl (cO, 1, .inr (.inl (fun _ => 0)))), (m0, .inr (12, mM kdM gw fa gM 0 0 0 0 0 0 0 0 1))] H1050 := hP
  have hD : va_D A [(h0, .inr (11, oX w sg ro tr gX)), (w, .inr (10, oW kd gW 0 0)), (kd, .inl (cK, 10, .inl (fun _ => 0))), (sg, .inr (7, oS w sn gS 0)), (sn, .inl (cS, 40, .inr (.inl (fun _ => 0)))), (ro, .inr (6, oR w sg cu sp gR 0 0)), (cu, .inr (8, oB c1 gB1)), (c1, .inl (cC1, 10, .inl (fun _ => 0))), (sp, .inr (8, oB c2 gB2)), (c2, .inl (cC2, 10, .inl (fun _ => 0))), (tr, .inr (9, oT w sg ro gT 0 0 0 0)), (kdM, .inl (ckM, 10, .inl (fun _ => 0))), (fa, .inl (cf, 10, .inl (fun _ => 0))), (gw, .inl (cg, 10, .inl (fun _ => 0))), (ou, .inl (cO, 1, .inr (.inl (fun _ => 0)))), (m0, .inr (12, mM kdM gw fa gM 0 0 0 0 0 0 0 0 1))] := hD
  subst hw
  refine lv_istore (lv' := [(6, .int 0), (5, .int 1), (4, .int 0), (3, .ref ou), (2, .ref m0), (1, .ref h0), (0, .ref b)]) hx hb dL_law_243 hl (by decide) rfl (fun ls hl => ?_)
  refine lv_aload_n hx hb dL_law_245 rfl (lv_at hl 4 rfl) ?_
  have hPc := hP.sub (ws' := [(m0, .inr (12, mM kdM gw fa gM 0 0 0 0 0 0 0 0 1))]) [15] rfl
  have hDc := hD.sub (ws' := [(m0, .inr (12, mM kdM gw fa gM 0 0 0 0 0 0 0 0 1))]) [15] (by decide) rfl
  have hKc := hK.sub (tys' := []) [] rfl
  have hFc := roF hS hA
  refine va_calli (va_runV (As := []) (rest := []) ⟨hx, hb, hml, hown, hts⟩ (cu_X12_thrown l dC dI H1050.size m0 kdM gw fa gM 1 0 0) (cwV 0 hts (gV u_1392 u_1393 u_1394 u_14 u_1395) rfl rfl rfl (by decide +kernel) ⟨Nat.le_of_ble_eq_true rfl, Nat.le_of_ble_eq_true rfl⟩) ⟨gP_blind, va_recv hKc hPc (ci := 12) (q0 := 0) rfl rfl, gP_call hPc hKc hDc hE⟩ rfl rfl hl.1 rfl (lv_room (Nat.le_of_ble_eq_true rfl)) dL_law_246 ⟨(Nat.le_of_ble_eq_true rfl), (Nat.le_of_ble_eq_true rfl)⟩) hS (fun q _ h => hFc q h) hFc (fun r1054 u1052 t9 H1053 locs ht hvm hw hB hz1 hk1 hS => ?_)
  have hP := roP hP hk1
  subst hw
  refine lv_iload hx hb dL_law_249 (lv_at hl 1 rfl) ?_
  refine lv_icmp_eq (tgt := 256) hx hb dL_law_251 (by decide) (fun _ => ?_) (fun h9 => absurd (by decide) h9)
  refine lv_iload hx hb dL_law_256 (lv_at hl 1 rfl) ?_
  refine lv_if_ne (tgt := 273) hx hb dL_law_258 (by decide) (fun _ => ?_) (fun h9 => absurd h9 (by decide))
  refine lv_goto (tgt := 1877) hx hb dL_law_273 (by decide) ?_
  refine W.widen (k := 600002) (n := 7302232) (Nat.le_of_ble_eq_true rfl) (Nat.le_of_ble_eq_true rfl) ?_
  exact law_tail hfl hx hb hr hml hown hts hX hbl hlocks hE hZ hA hbA hAo hL8 hS (lv_sub hl [6, 2] rfl)
set_option maxHeartbeats 8000000 in
set_option maxRecDepth 100000 in
theorem law_c2 {p : Program} {l : Launch} {e : Env} {s : State} {m : MethodId} {below : List Frame} {meth : Method} {c : Code} {dC : Nat → ClassId} {dI : Nat → Nat → Nat} {A : Nat → Prop} {b L : Nat} {xs : Nat → Int32} {h0 : Nat} {w : Nat} {kd : Nat} {cK : ClassId} {gW : Nat → Nat} {sg : Nat} {sn : Nat} {cS : ClassId} {gS : Nat → Nat} {ro : Nat} {cu : Nat} {c1 : Nat} {cC1 : ClassId} {gB1 : Nat → Nat} {sp : Nat} {c2 : Nat} {cC2 : ClassId} {gB2 : Nat → Nat} {gR : Nat → Nat} {tr : Nat} {gT : Nat → Nat} {gX : Nat → Nat} {m0 : Nat} {kdM : Nat} {ckM : ClassId} {fa : Nat} {cf : ClassId} {gw : Nat} {cg : ClassId} {gM : Nat → Nat} {ou : Nat} {cO : ClassId} (hfl : l.stackTraces = false) (hx : p.tables.exec = Jvm.exec) (hb : c.code = code) (hr : meth.sig.returnType = ret) (hml : c.maxLocals = 7) (hown : s.vm.findClass RL = some m.cls) (hts : ∀ w ∈ gU, w.before #[Value.ref b] s = true) (hX : va_X b L xs s s.heap) (hbl : b < s.heap.size) (hlocks : meth.locks = false) (hE : gEnv s) (hZ : gZ A s) (hA : ∀ q : Nat, s.heap.size ≤ q → A q) (hbA : ¬ A b) (hAo : ∀ q : Nat, A q → s.heap.size ≤ q) (hL8 : L = 8) : ∀ (H : Heap) (locs : List Loc), va_K (dC, dI) vwCl [(cK, .int), (cS, .long), (cC1, .int), (cC2, .int), (ckM, .int), (cf, .int), (cg, .int), (cO, .long)] s → va_P (dC, dI) vwCl [(h0, .inr (11, oX w sg ro tr gX)), (w, .inr (10, oW kd gW 0 0)), (kd, .inl (cK, 10, .inl (fun _ => 0))), (sg, .inr (7, oS w sn gS 0)), (sn, .inl (cS, 40, .inr (.inl (fun _ => 0)))), (ro, .inr (6, oR w sg cu sp gR 0 0)), (cu, .inr (8, oB c1 gB1)), (c1, .inl (cC1, 10, .inl (fun _ => 0))), (sp, .inr (8, oB c2 gB2)), (c2, .inl (cC2, 10, .inl (fun _ => 0))), (tr, .inr (9, oT w sg ro gT 0 0 0 0)), (m0, .inr (12, mM kdM gw fa gM 0 0 0 0 0 0 0 0 0)), (kdM, .inl (ckM, 10, .inl (fun _ => 0))), (fa, .inl (cf, 10, .inl (fun _ => 0))), (gw, .inl (cg, 10, .inl (fun _ => 0))), (ou, .inl (cO, 1, .inr (.inl (fun _ => 0))))] H → va_D A [(h0, .inr (11, oX w sg ro tr gX)), (w, .inr (10, oW kd gW 0 0)), (kd, .inl (cK, 10, .inl (fun _ => 0))), (sg, .inr (7, oS w sn gS 0)), (sn, .inl (cS, 40, .inr (.inl (fun _ => 0)))), (ro, .inr (6, oR w sg cu sp gR 0 0)), (cu, .inr (8, oB c1 gB1)), (c1, .inl (cC1, 10, .inl (fun _ => 0))), (sp, .inr (8, oB c2 gB2)), (c2, .inl (cC2, 10, .inl (fun _ => 0))), (tr, .inr (9, oT w sg ro gT 0 0 0 0)), (m0, .inr (12, mM kdM gw fa gM 0 0 0 0 0 0 0 0 0)), (kdM, .inl (ckM, 10, .inl (fun _ => 0))), (fa, .inl (cf, 10, .inl (fun _ => 0))), (gw, .inl (cg, 10, .inl (fun _ => 0))), (ou, .inl (cO, 1, .inr (.inl (fun _ => 0))))] → va_S A s.heap H locs → ∀ ls : Array Slot, lv_has ls 7 [(4, .int 0), (3, .ref ou), (2, .ref m0), (1, .ref h0), (0, .ref b)] → W p l e room_1 s m #[Value.ref b] below meth c H locs 441 44110 (lw_Z below #[Value.ref b] s) (F0 m 276 ls []) := by
  intro H locs hK hP hD hS ls hl
  refine lv_aload_n hx hb dL_law_276 rfl (lv_at hl 3 rfl) ?_
  refine lv_aload_n hx hb dL_law_277 rfl (lv_at hl 4 rfl) ?_
  refine lv_iload hx hb dL_law_278 (lv_at hl 0 rfl) ?_
  refine lv_iconst (v := 1) hx hb dL_law_280 (by decide) ?_
  refine lv_iadd hx hb dL_law_281 ?_
  refine lv_topi (fun z1055 ez1055 => ?_)
  obtain rfl : z1055 = 1 := ez1055.trans (by decide)
  refine va_sld hx hb hX hbl hbA hS (by rw [hL8]; unfold vp_in; decide) dL_law_282 ?_
  refine lv_aload_n hx hb dL_law_283 rfl (lv_at hl 1 rfl) ?_
  have hPc := hP.sub (ws' := [(h0, .inr (11, oX w sg ro tr gX)), (w, .inr (10, oW kd gW 0 0))]) [0, 1] rfl
  have hDc := hD.sub (ws' := [(h0, .inr (11, oX w sg ro tr gX)), (w, .inr (10, oW kd gW 0 0))]) [0, 1] (by decide) rfl
  have hKc := hK.sub (tys' := []) [] rfl
  have hFc := roF hS hA
  refine va_calli (vx_runSW (As := [.ref h0, .int (xs (1 : Int32).toNatClampNeg), .ref ou]) (rest := []) ⟨hx, hb, hml, hown, hts⟩ (c_L_turn l dC dI H.size hfl h0 ou w sg ro tr gX kd gW (xs (1 : Int32).toNatClampNeg)) (vx_cwSW 3 hts (gSt u_694 u_695 u_0 u_696) rfl rfl rfl (by decide +kernel) ⟨Nat.le_of_ble_eq_true rfl, Nat.le_of_ble_eq_true rfl⟩) ⟨gPZ_blind, gPZ_call hPc hKc hDc hE hZ hS hFc⟩ rfl rfl hl.1 rfl (lv_room (Nat.le_of_ble_eq_true rfl)) dL_law_284 ⟨(Nat.le_of_ble_eq_true rfl), (Nat.le_of_ble_eq_true rfl)⟩) hS (fun q _ h => hFc q h) hFc (fun r1058 u1056 t9 H1057 locs ht hvm hw hB hz1 hk1 hS => ?_)
  have hP := roP hP hk1
  subst hw
  refine W.widen (k := 442) (n := 44116) (Nat.le_of_ble_eq_true rfl) (Nat.le_of_ble_eq_true rfl) ?_
  refine lv_istore (lv' := [(5, .int 1), (4, .int 0), (3, .ref ou), (2, .ref m0), (1, .ref h0), (0, .ref b)]) hx hb dL_law_287 hl (by decide) rfl (fun ls hl => ?_)
  refine lv_aload_n hx hb dL_law_289 rfl (lv_at hl 3 rfl) ?_
  refine lv_aload_n hx hb dL_law_290 rfl (lv_at hl 5 rfl) ?_
  refine lv_iload hx hb dL_law_291 (lv_at hl 1 rfl) ?_
  refine lv_iconst (v := 1) hx hb dL_law_293 (by decide) ?_
  refine lv_iadd hx hb dL_law_294 ?_
  refine lv_topi (fun z1059 ez1059 => ?_)
  obtain rfl : z1059 = 1 := ez1059.trans (by decide)
  refine va_sld hx hb hX hbl hbA hS (by rw [hL8]; unfold vp_in; decide) dL_law_295 ?_
  have hPc := hP.sub (ws' := [(m0, .inr (12, mM kdM gw fa gM 0 0 0 0 0 0 0 0 0))]) [11] rfl
  have hDc := hD.sub (ws' := [(m0, .inr (12, mM kdM gw fa gM 0 0 0 0 0 0 0 0 0))]) [11] (by decide) rfl
  have hKc := hK.sub (tys' := []) [] rfl
  have hFc := va_free (wc := [(m0, .inr (12, mM kdM gw fa gM 0 0 0 0 0 0 0 0 0))]) hD hS hA [11] rfl
  refine va_calli (va_runV (As := [.int (xs (1 : Int32).toNatClampNeg)]) (rest := []) ⟨hx, hb, hml, hown, hts⟩ (c_X12_turn l dC dI H1057.size m0 kdM gw fa gM 0 (xs (1 : Int32).toNatClampNeg)) (cwV 1 hts (gV u_1419 u_1420 u_1421 u_14 u_1422) rfl rfl rfl (by decide +kernel) ⟨Nat.le_of_ble_eq_true rfl, Nat.le_of_ble_eq_true rfl⟩) ⟨gP_blind, va_recv hKc hPc (ci := 12) (q0 := 0) rfl rfl, gP_call hPc hKc hDc hE⟩ rfl rfl hl.1 rfl (lv_room (Nat.le_of_ble_eq_true rfl)) dL_law_296 ⟨(Nat.le_of_ble_eq_true rfl), (Nat.le_of_ble_eq_true rfl)⟩) hS (fun q _ h => hFc q h) hFc (fun r1062 u1060 t9 H1061 locs ht hvm hw hB hz1 hk1 hS => ?_)
  obtain ⟨hP1, hK1, hD1⟩ := hB
  rw [ht] at hP1
  have hK1 := va_K.moved hvm.symm hK1
  obtain ⟨hP, hD⟩ := va_join (wr := [(h0, .inr (11, oX w sg ro tr gX)), (w, .inr (10, oW kd gW 0 0)), (kd, .inl (cK, 10, .inl (fun _ => 0))), (sg, .inr (7, oS w sn gS 0)), (sn, .inl (cS, 40, .inr (.inl (fun _ => 0)))), (ro, .inr (6, oR w sg cu sp gR 0 0)), (cu, .inr (8, oB c1 gB1)), (c1, .inl (cC1, 10, .inl (fun _ => 0))), (sp, .inr (8, oB c2 gB2)), (c2, .inl (cC2, 10, .inl (fun _ => 0))), (tr, .inr (9, oT w sg ro gT 0 0 0 0)), (kdM, .inl (ckM, 10, .inl (fun _ => 0))), (fa, .inl (cf, 10, .inl (fun _ => 0))), (gw, .inl (cg, 10, .inl (fun _ => 0))), (ou, .inl (cO, 1, .inr (.inl (fun _ => 0))))]) (w1 := [(m0, .inr (12, mM kdM gw fa gM 0 0 0 0 0 0 0 0 1))]) hP hD [11] [0, 1, 2, 3, 4, 5, 6, 7, 8, 9, 10, 12, 13, 14, 15] rfl rfl (by decide) (by decide) hk1 hFc hP1 hD1
  have hK := (hK.sub (tys' := [(cK, .int), (cS, .long), (cC1, .int), (cC2, .int), (ckM, .int), (cf, .int), (cg, .int), (cO, .long)]) [0, 1, 2, 3, 4, 5, 6, 7] rfl).app hK1
  have hK : va_K (dC, dI) vwCl [(cK, .int), (cS, .long), (cC1, .int), (cC2, .int), (ckM, .int), (cf, .int), (cg, .int), (cO, .long)] s := hK
  have hP : va_P (dC, dI) vwCl [(h0, .inr (11, oX w sg ro tr gX)), (w, .inr (10, oW kd gW 0 0)), (kd, .inl (cK, 10, .inl (fun _ => 0))), (sg, .inr (7, oS w sn gS 0)), (sn, .inl (cS, 40, .inr (.inl (fun _ => 0)))), (ro, .inr (6, oR w sg cu sp gR 0 0)), (cu, .inr (8, oB c1 gB1)), (c1, .inl (cC1, 10, .inl (fun _ => 0))), (sp, .inr (8, oB c2 gB2)), (c2, .inl (cC2, 10, .inl (fun _ => 0))), (tr, .inr (9, oT w sg ro gT 0 0 0 0)), (kdM, .inl (ckM, 10, .inl (fun _ => 0))), (fa, .inl (cf, 10, .inl (fun _ => 0))), (gw, .inl (cg, 10, .inl (fun _ => 0))), (ou, .inl (cO, 1, .inr (.inl (fun _ => 0)))), (m0, .inr (12, mM kdM gw fa gM 0 0 0 0 0 0 0 0 1))] H1061 := hP
  have hD : va_D A [(h0, .inr (11, oX w sg ro tr gX)), (w, .inr (10, oW kd gW 0 0)), (kd, .inl (cK, 10, .inl (fun _ => 0))), (sg, .inr (7, oS w sn gS 0)), (sn, .inl (cS, 40, .inr (.inl (fun _ => 0)))), (ro, .inr (6, oR w sg cu sp gR 0 0)), (cu, .inr (8, oB c1 gB1)), (c1, .inl (cC1, 10, .inl (fun _ => 0))), (sp, .inr (8, oB c2 gB2)), (c2, .inl (cC2, 10, .inl (fun _ => 0))), (tr, .inr (9, oT w sg ro gT 0 0 0 0)), (kdM, .inl (ckM, 10, .inl (fun _ => 0))), (fa, .inl (cf, 10, .inl (fun _ => 0))), (gw, .inl (cg, 10, .inl (fun _ => 0))), (ou, .inl (cO, 1, .inr (.inl (fun _ => 0)))), (m0, .inr (12, mM kdM gw fa gM 0 0 0 0 0 0 0 0 1))] := hD
  subst hw
  refine lv_istore (lv' := [(6, .int 0), (5, .int 1), (4, .int 0), (3, .ref ou), (2, .ref m0), (1, .ref h0), (0, .ref b)]) hx hb dL_law_299 hl (by decide) rfl (fun ls hl => ?_)
  refine lv_aload_n hx hb dL_law_301 rfl (lv_at hl 4 rfl) ?_
  have hPc := hP.sub (ws' := [(m0, .inr (12, mM kdM gw fa gM 0 0 0 0 0 0 0 0 1))]) [15] rfl
  have hDc := hD.sub (ws' := [(m0, .inr (12, mM kdM gw fa gM 0 0 0 0 0 0 0 0 1))]) [15] (by decide) rfl
  have hKc := hK.sub (tys' := []) [] rfl
  have hFc := roF hS hA
  refine va_calli (va_runV (As := []) (rest := []) ⟨hx, hb, hml, hown, hts⟩ (cu_X12_thrown l dC dI H1061.size m0 kdM gw fa gM 1 0 0) (cwV 0 hts (gV u_1392 u_1393 u_1394 u_14 u_1395) rfl rfl rfl (by decide +kernel) ⟨Nat.le_of_ble_eq_true rfl, Nat.le_of_ble_eq_true rfl⟩) ⟨gP_blind, va_recv hKc hPc (ci := 12) (q0 := 0) rfl rfl, gP_call hPc hKc hDc hE⟩ rfl rfl hl.1 rfl (lv_room (Nat.le_of_ble_eq_true rfl)) dL_law_302 ⟨(Nat.le_of_ble_eq_true rfl), (Nat.le_of_ble_eq_true rfl)⟩) hS (fun q _ h => hFc q h) hFc (fun r1065 u1063 t9 H1064 locs ht hvm hw hB hz1 hk1 hS => ?_)
  have hP := roP hP hk1
  subst hw
  refine lv_iload hx hb dL_law_305 (lv_at hl 1 rfl) ?_
  refine lv_icmp_eq (tgt := 312) hx hb dL_law_307 (by decide) (fun _ => ?_) (fun h9 => absurd (by decide) h9)
  refine lv_iload hx hb dL_law_312 (lv_at hl 1 rfl) ?_
  refine lv_if_ne (tgt := 336) hx hb dL_law_314 (by decide) (fun _ => ?_) (fun h9 => absurd h9 (by decide))
  refine lv_goto (tgt := 1877) hx hb dL_law_336 (by decide) ?_
  refine W.widen (k := 600002) (n := 7302232) (Nat.le_of_ble_eq_true rfl) (Nat.le_of_ble_eq_true rfl) ?_
  exact law_tail hfl hx hb hr hml hown hts hX hbl hlocks hE hZ hA hbA hAo hL8 hS (lv_sub hl [6, 2] rfl)
set_option maxHeartbeats 8000000 in
set_option maxRecDepth 100000 in
theorem law_c3 {p : Program} {l : Launch} {e : Env} {s : State} {m : MethodId} {below : List Frame} {meth : Method} {c : Code} {dC : Nat → ClassId} {dI : Nat → Nat → Nat} {A : Nat → Prop} {b L : Nat} {xs : Nat → Int32} {h0 : Nat} {w : Nat} {kd : Nat} {cK : ClassId} {gW : Nat → Nat} {sg : Nat} {sn : Nat} {cS : ClassId} {gS : Nat → Nat} {ro : Nat} {cu : Nat} {c1 : Nat} {cC1 : ClassId} {gB1 : Nat → Nat} {sp : Nat} {c2 : Nat} {cC2 : ClassId} {gB2 : Nat → Nat} {gR : Nat → Nat} {tr : Nat} {gT : Nat → Nat} {gX : Nat → Nat} {m0 : Nat} {kdM : Nat} {ckM : ClassId} {fa : Nat} {cf : ClassId} {gw : Nat} {cg : ClassId} {gM : Nat → Nat} {ou : Nat} {cO : ClassId} (hfl : l.stackTraces = false) (hx : p.tables.exec = Jvm.exec) (hb : c.code = code) (hr : meth.sig.returnType = ret) (hml : c.maxLocals = 7) (hown : s.vm.findClass RL = some m.cls) (hts : ∀ w ∈ gU, w.before #[Value.ref b] s = true) (hX : va_X b L xs s s.heap) (hbl : b < s.heap.size) (hlocks : meth.locks = false) (hE : gEnv s) (hZ : gZ A s) (hA : ∀ q : Nat, s.heap.size ≤ q → A q) (hbA : ¬ A b) (hAo : ∀ q : Nat, A q → s.heap.size ≤ q) (hL8 : L = 8) : ∀ (H : Heap) (locs : List Loc), va_K (dC, dI) vwCl [(cK, .int), (cS, .long), (cC1, .int), (cC2, .int), (ckM, .int), (cf, .int), (cg, .int), (cO, .long)] s → va_P (dC, dI) vwCl [(h0, .inr (11, oX w sg ro tr gX)), (w, .inr (10, oW kd gW 0 0)), (kd, .inl (cK, 10, .inl (fun _ => 0))), (sg, .inr (7, oS w sn gS 0)), (sn, .inl (cS, 40, .inr (.inl (fun _ => 0)))), (ro, .inr (6, oR w sg cu sp gR 0 0)), (cu, .inr (8, oB c1 gB1)), (c1, .inl (cC1, 10, .inl (fun _ => 0))), (sp, .inr (8, oB c2 gB2)), (c2, .inl (cC2, 10, .inl (fun _ => 0))), (tr, .inr (9, oT w sg ro gT 0 0 0 0)), (m0, .inr (12, mM kdM gw fa gM 0 0 0 0 0 0 0 0 0)), (kdM, .inl (ckM, 10, .inl (fun _ => 0))), (fa, .inl (cf, 10, .inl (fun _ => 0))), (gw, .inl (cg, 10, .inl (fun _ => 0))), (ou, .inl (cO, 1, .inr (.inl (fun _ => 0))))] H → va_D A [(h0, .inr (11, oX w sg ro tr gX)), (w, .inr (10, oW kd gW 0 0)), (kd, .inl (cK, 10, .inl (fun _ => 0))), (sg, .inr (7, oS w sn gS 0)), (sn, .inl (cS, 40, .inr (.inl (fun _ => 0)))), (ro, .inr (6, oR w sg cu sp gR 0 0)), (cu, .inr (8, oB c1 gB1)), (c1, .inl (cC1, 10, .inl (fun _ => 0))), (sp, .inr (8, oB c2 gB2)), (c2, .inl (cC2, 10, .inl (fun _ => 0))), (tr, .inr (9, oT w sg ro gT 0 0 0 0)), (m0, .inr (12, mM kdM gw fa gM 0 0 0 0 0 0 0 0 0)), (kdM, .inl (ckM, 10, .inl (fun _ => 0))), (fa, .inl (cf, 10, .inl (fun _ => 0))), (gw, .inl (cg, 10, .inl (fun _ => 0))), (ou, .inl (cO, 1, .inr (.inl (fun _ => 0))))] → va_S A s.heap H locs → ∀ ls : Array Slot, lv_has ls 7 [(4, .int 0), (3, .ref ou), (2, .ref m0), (1, .ref h0), (0, .ref b)] → W p l e room_1 s m #[Value.ref b] below meth c H locs 441 44110 (lw_Z below #[Value.ref b] s) (F0 m 339 ls []) := by
  intro H locs hK hP hD hS ls hl
  refine lv_aload_n hx hb dL_law_339 rfl (lv_at hl 3 rfl) ?_
  refine lv_aload_n hx hb dL_law_340 rfl (lv_at hl 4 rfl) ?_
  refine lv_iload hx hb dL_law_341 (lv_at hl 0 rfl) ?_
  refine lv_iconst (v := 1) hx hb dL_law_343 (by decide) ?_
  refine lv_iadd hx hb dL_law_344 ?_
  refine lv_topi (fun z1066 ez1066 => ?_)
  obtain rfl : z1066 = 1 := ez1066.trans (by decide)
  refine va_sld hx hb hX hbl hbA hS (by rw [hL8]; unfold vp_in; decide) dL_law_345 ?_
  refine lv_aload_n hx hb dL_law_346 rfl (lv_at hl 1 rfl) ?_
  have hPc := hP.sub (ws' := [(h0, .inr (11, oX w sg ro tr gX)), (w, .inr (10, oW kd gW 0 0))]) [0, 1] rfl
  have hDc := hD.sub (ws' := [(h0, .inr (11, oX w sg ro tr gX)), (w, .inr (10, oW kd gW 0 0))]) [0, 1] (by decide) rfl
  have hKc := hK.sub (tys' := []) [] rfl
  have hFc := roF hS hA
  refine va_calli (vx_runSW (As := [.ref h0, .int (xs (1 : Int32).toNatClampNeg), .ref ou]) (rest := []) ⟨hx, hb, hml, hown, hts⟩ (c_L_isBlocked l dC dI H.size hfl h0 ou w sg ro tr gX kd gW (xs (1 : Int32).toNatClampNeg)) (vx_cwSW 3 hts (gSt u_706 u_707 u_0 u_708) rfl rfl rfl (by decide +kernel) ⟨Nat.le_of_ble_eq_true rfl, Nat.le_of_ble_eq_true rfl⟩) ⟨gPZ_blind, gPZ_call hPc hKc hDc hE hZ hS hFc⟩ rfl rfl hl.1 rfl (lv_room (Nat.le_of_ble_eq_true rfl)) dL_law_347 ⟨(Nat.le_of_ble_eq_true rfl), (Nat.le_of_ble_eq_true rfl)⟩) hS (fun q _ h => hFc q h) hFc (fun r1069 u1067 t9 H1068 locs ht hvm hw hB hz1 hk1 hS => ?_)
  have hP := roP hP hk1
  subst hw
  refine W.widen (k := 442) (n := 44116) (Nat.le_of_ble_eq_true rfl) (Nat.le_of_ble_eq_true rfl) ?_
  refine lv_istore (lv' := [(5, .int 1), (4, .int 0), (3, .ref ou), (2, .ref m0), (1, .ref h0), (0, .ref b)]) hx hb dL_law_350 hl (by decide) rfl (fun ls hl => ?_)
  refine lv_aload_n hx hb dL_law_352 rfl (lv_at hl 3 rfl) ?_
  refine lv_aload_n hx hb dL_law_353 rfl (lv_at hl 5 rfl) ?_
  refine lv_iload hx hb dL_law_354 (lv_at hl 1 rfl) ?_
  refine lv_iconst (v := 1) hx hb dL_law_356 (by decide) ?_
  refine lv_iadd hx hb dL_law_357 ?_
  refine lv_topi (fun z1070 ez1070 => ?_)
  obtain rfl : z1070 = 1 := ez1070.trans (by decide)
  refine va_sld hx hb hX hbl hbA hS (by rw [hL8]; unfold vp_in; decide) dL_law_358 ?_
  have hPc := hP.sub (ws' := [(m0, .inr (12, mM kdM gw fa gM 0 0 0 0 0 0 0 0 0))]) [11] rfl
  have hDc := hD.sub (ws' := [(m0, .inr (12, mM kdM gw fa gM 0 0 0 0 0 0 0 0 0))]) [11] (by decide) rfl
  have hKc := hK.sub (tys' := []) [] rfl
  have hFc := va_free (wc := [(m0, .inr (12, mM kdM gw fa gM 0 0 0 0 0 0 0 0 0))]) hD hS hA [11] rfl
  refine va_calli (va_runV (As := [.int (xs (1 : Int32).toNatClampNeg)]) (rest := []) ⟨hx, hb, hml, hown, hts⟩ (c_X12_isBlocked l dC dI H1068.size m0 kdM gw fa gM 0 (xs (1 : Int32).toNatClampNeg)) (cwV 1 hts (gV u_1427 u_1428 u_1429 u_14 u_1430) rfl rfl rfl (by decide +kernel) ⟨Nat.le_of_ble_eq_true rfl, Nat.le_of_ble_eq_true rfl⟩) ⟨gP_blind, va_recv hKc hPc (ci := 12) (q0 := 0) rfl rfl, gP_call hPc hKc hDc hE⟩ rfl rfl hl.1 rfl (lv_room (Nat.le_of_ble_eq_true rfl)) dL_law_359 ⟨(Nat.le_of_ble_eq_true rfl), (Nat.le_of_ble_eq_true rfl)⟩) hS (fun q _ h => hFc q h) hFc (fun r1073 u1071 t9 H1072 locs ht hvm hw hB hz1 hk1 hS => ?_)
  obtain ⟨hP1, hK1, hD1⟩ := hB
  rw [ht] at hP1
  have hK1 := va_K.moved hvm.symm hK1
  obtain ⟨hP, hD⟩ := va_join (wr := [(h0, .inr (11, oX w sg ro tr gX)), (w, .inr (10, oW kd gW 0 0)), (kd, .inl (cK, 10, .inl (fun _ => 0))), (sg, .inr (7, oS w sn gS 0)), (sn, .inl (cS, 40, .inr (.inl (fun _ => 0)))), (ro, .inr (6, oR w sg cu sp gR 0 0)), (cu, .inr (8, oB c1 gB1)), (c1, .inl (cC1, 10, .inl (fun _ => 0))), (sp, .inr (8, oB c2 gB2)), (c2, .inl (cC2, 10, .inl (fun _ => 0))), (tr, .inr (9, oT w sg ro gT 0 0 0 0)), (kdM, .inl (ckM, 10, .inl (fun _ => 0))), (fa, .inl (cf, 10, .inl (fun _ => 0))), (gw, .inl (cg, 10, .inl (fun _ => 0))), (ou, .inl (cO, 1, .inr (.inl (fun _ => 0))))]) (w1 := [(m0, .inr (12, mM kdM gw fa gM 0 0 0 0 0 0 0 0 1))]) hP hD [11] [0, 1, 2, 3, 4, 5, 6, 7, 8, 9, 10, 12, 13, 14, 15] rfl rfl (by decide) (by decide) hk1 hFc hP1 hD1
  have hK := (hK.sub (tys' := [(cK, .int), (cS, .long), (cC1, .int), (cC2, .int), (ckM, .int), (cf, .int), (cg, .int), (cO, .long)]) [0, 1, 2, 3, 4, 5, 6, 7] rfl).app hK1
  have hK : va_K (dC, dI) vwCl [(cK, .int), (cS, .long), (cC1, .int), (cC2, .int), (ckM, .int), (cf, .int), (cg, .int), (cO, .long)] s := hK
  have hP : va_P (dC, dI) vwCl [(h0, .inr (11, oX w sg ro tr gX)), (w, .inr (10, oW kd gW 0 0)), (kd, .inl (cK, 10, .inl (fun _ => 0))), (sg, .inr (7, oS w sn gS 0)), (sn, .inl (cS, 40, .inr (.inl (fun _ => 0)))), (ro, .inr (6, oR w sg cu sp gR 0 0)), (cu, .inr (8, oB c1 gB1)), (c1, .inl (cC1, 10, .inl (fun _ => 0))), (sp, .inr (8, oB c2 gB2)), (c2, .inl (cC2, 10, .inl (fun _ => 0))), (tr, .inr (9, oT w sg ro gT 0 0 0 0)), (kdM, .inl (ckM, 10, .inl (fun _ => 0))), (fa, .inl (cf, 10, .inl (fun _ => 0))), (gw, .inl (cg, 10, .inl (fun _ => 0))), (ou, .inl (cO, 1, .inr (.inl (fun _ => 0)))), (m0, .inr (12, mM kdM gw fa gM 0 0 0 0 0 0 0 0 1))] H1072 := hP
  have hD : va_D A [(h0, .inr (11, oX w sg ro tr gX)), (w, .inr (10, oW kd gW 0 0)), (kd, .inl (cK, 10, .inl (fun _ => 0))), (sg, .inr (7, oS w sn gS 0)), (sn, .inl (cS, 40, .inr (.inl (fun _ => 0)))), (ro, .inr (6, oR w sg cu sp gR 0 0)), (cu, .inr (8, oB c1 gB1)), (c1, .inl (cC1, 10, .inl (fun _ => 0))), (sp, .inr (8, oB c2 gB2)), (c2, .inl (cC2, 10, .inl (fun _ => 0))), (tr, .inr (9, oT w sg ro gT 0 0 0 0)), (kdM, .inl (ckM, 10, .inl (fun _ => 0))), (fa, .inl (cf, 10, .inl (fun _ => 0))), (gw, .inl (cg, 10, .inl (fun _ => 0))), (ou, .inl (cO, 1, .inr (.inl (fun _ => 0)))), (m0, .inr (12, mM kdM gw fa gM 0 0 0 0 0 0 0 0 1))] := hD
  subst hw
  refine lv_istore (lv' := [(6, .int 0), (5, .int 1), (4, .int 0), (3, .ref ou), (2, .ref m0), (1, .ref h0), (0, .ref b)]) hx hb dL_law_362 hl (by decide) rfl (fun ls hl => ?_)
  refine lv_aload_n hx hb dL_law_364 rfl (lv_at hl 4 rfl) ?_
  have hPc := hP.sub (ws' := [(m0, .inr (12, mM kdM gw fa gM 0 0 0 0 0 0 0 0 1))]) [15] rfl
  have hDc := hD.sub (ws' := [(m0, .inr (12, mM kdM gw fa gM 0 0 0 0 0 0 0 0 1))]) [15] (by decide) rfl
  have hKc := hK.sub (tys' := []) [] rfl
  have hFc := roF hS hA
  refine va_calli (va_runV (As := []) (rest := []) ⟨hx, hb, hml, hown, hts⟩ (cu_X12_thrown l dC dI H1072.size m0 kdM gw fa gM 1 0 0) (cwV 0 hts (gV u_1392 u_1393 u_1394 u_14 u_1395) rfl rfl rfl (by decide +kernel) ⟨Nat.le_of_ble_eq_true rfl, Nat.le_of_ble_eq_true rfl⟩) ⟨gP_blind, va_recv hKc hPc (ci := 12) (q0 := 0) rfl rfl, gP_call hPc hKc hDc hE⟩ rfl rfl hl.1 rfl (lv_room (Nat.le_of_ble_eq_true rfl)) dL_law_365 ⟨(Nat.le_of_ble_eq_true rfl), (Nat.le_of_ble_eq_true rfl)⟩) hS (fun q _ h => hFc q h) hFc (fun r1076 u1074 t9 H1075 locs ht hvm hw hB hz1 hk1 hS => ?_)
  have hP := roP hP hk1
  subst hw
  refine lv_iload hx hb dL_law_368 (lv_at hl 1 rfl) ?_
  refine lv_icmp_eq (tgt := 375) hx hb dL_law_370 (by decide) (fun _ => ?_) (fun h9 => absurd (by decide) h9)
  refine lv_iload hx hb dL_law_375 (lv_at hl 1 rfl) ?_
  refine lv_if_ne (tgt := 399) hx hb dL_law_377 (by decide) (fun _ => ?_) (fun h9 => absurd h9 (by decide))
  refine lv_goto (tgt := 1877) hx hb dL_law_399 (by decide) ?_
  refine W.widen (k := 600002) (n := 7302232) (Nat.le_of_ble_eq_true rfl) (Nat.le_of_ble_eq_true rfl) ?_
  exact law_tail hfl hx hb hr hml hown hts hX hbl hlocks hE hZ hA hbA hAo hL8 hS (lv_sub hl [6, 2] rfl)
set_option maxHeartbeats 8000000 in
set_option maxRecDepth 100000 in
theorem law_c4 {p : Program} {l : Launch} {e : Env} {s : State} {m : MethodId} {below : List Frame} {meth : Method} {c : Code} {dC : Nat → ClassId} {dI : Nat → Nat → Nat} {A : Nat → Prop} {b L : Nat} {xs : Nat → Int32} {h0 : Nat} {w : Nat} {kd : Nat} {cK : ClassId} {gW : Nat → Nat} {sg : Nat} {sn : Nat} {cS : ClassId} {gS : Nat → Nat} {ro : Nat} {cu : Nat} {c1 : Nat} {cC1 : ClassId} {gB1 : Nat → Nat} {sp : Nat} {c2 : Nat} {cC2 : ClassId} {gB2 : Nat → Nat} {gR : Nat → Nat} {tr : Nat} {gT : Nat → Nat} {gX : Nat → Nat} {m0 : Nat} {kdM : Nat} {ckM : ClassId} {fa : Nat} {cf : ClassId} {gw : Nat} {cg : ClassId} {gM : Nat → Nat} {ou : Nat} {cO : ClassId} (hfl : l.stackTraces = false) (hx : p.tables.exec = Jvm.exec) (hb : c.code = code) (hr : meth.sig.returnType = ret) (hml : c.maxLocals = 7) (hown : s.vm.findClass RL = some m.cls) (hts : ∀ w ∈ gU, w.before #[Value.ref b] s = true) (hX : va_X b L xs s s.heap) (hbl : b < s.heap.size) (hlocks : meth.locks = false) (hE : gEnv s) (hZ : gZ A s) (hA : ∀ q : Nat, s.heap.size ≤ q → A q) (hbA : ¬ A b) (hAo : ∀ q : Nat, A q → s.heap.size ≤ q) (hL8 : L = 8) : ∀ (H : Heap) (locs : List Loc), va_K (dC, dI) vwCl [(cK, .int), (cS, .long), (cC1, .int), (cC2, .int), (ckM, .int), (cf, .int), (cg, .int), (cO, .long)] s → va_P (dC, dI) vwCl [(h0, .inr (11, oX w sg ro tr gX)), (w, .inr (10, oW kd gW 0 0)), (kd, .inl (cK, 10, .inl (fun _ => 0))), (sg, .inr (7, oS w sn gS 0)), (sn, .inl (cS, 40, .inr (.inl (fun _ => 0)))), (ro, .inr (6, oR w sg cu sp gR 0 0)), (cu, .inr (8, oB c1 gB1)), (c1, .inl (cC1, 10, .inl (fun _ => 0))), (sp, .inr (8, oB c2 gB2)), (c2, .inl (cC2, 10, .inl (fun _ => 0))), (tr, .inr (9, oT w sg ro gT 0 0 0 0)), (m0, .inr (12, mM kdM gw fa gM 0 0 0 0 0 0 0 0 0)), (kdM, .inl (ckM, 10, .inl (fun _ => 0))), (fa, .inl (cf, 10, .inl (fun _ => 0))), (gw, .inl (cg, 10, .inl (fun _ => 0))), (ou, .inl (cO, 1, .inr (.inl (fun _ => 0))))] H → va_D A [(h0, .inr (11, oX w sg ro tr gX)), (w, .inr (10, oW kd gW 0 0)), (kd, .inl (cK, 10, .inl (fun _ => 0))), (sg, .inr (7, oS w sn gS 0)), (sn, .inl (cS, 40, .inr (.inl (fun _ => 0)))), (ro, .inr (6, oR w sg cu sp gR 0 0)), (cu, .inr (8, oB c1 gB1)), (c1, .inl (cC1, 10, .inl (fun _ => 0))), (sp, .inr (8, oB c2 gB2)), (c2, .inl (cC2, 10, .inl (fun _ => 0))), (tr, .inr (9, oT w sg ro gT 0 0 0 0)), (m0, .inr (12, mM kdM gw fa gM 0 0 0 0 0 0 0 0 0)), (kdM, .inl (ckM, 10, .inl (fun _ => 0))), (fa, .inl (cf, 10, .inl (fun _ => 0))), (gw, .inl (cg, 10, .inl (fun _ => 0))), (ou, .inl (cO, 1, .inr (.inl (fun _ => 0))))] → va_S A s.heap H locs → ∀ ls : Array Slot, lv_has ls 7 [(4, .int 0), (3, .ref ou), (2, .ref m0), (1, .ref h0), (0, .ref b)] → W p l e room_1 s m #[Value.ref b] below meth c H locs 441 44110 (lw_Z below #[Value.ref b] s) (F0 m 402 ls []) := by
  intro H locs hK hP hD hS ls hl
  refine lv_aload_n hx hb dL_law_402 rfl (lv_at hl 3 rfl) ?_
  refine lv_aload_n hx hb dL_law_403 rfl (lv_at hl 4 rfl) ?_
  refine lv_iload hx hb dL_law_404 (lv_at hl 0 rfl) ?_
  refine lv_iconst (v := 1) hx hb dL_law_406 (by decide) ?_
  refine lv_iadd hx hb dL_law_407 ?_
  refine lv_topi (fun z1077 ez1077 => ?_)
  obtain rfl : z1077 = 1 := ez1077.trans (by decide)
  refine va_sld hx hb hX hbl hbA hS (by rw [hL8]; unfold vp_in; decide) dL_law_408 ?_
  refine lv_aload_n hx hb dL_law_409 rfl (lv_at hl 4 rfl) ?_
  refine lv_iload hx hb dL_law_410 (lv_at hl 0 rfl) ?_
  refine lv_iconst (v := 2) hx hb dL_law_412 (by decide) ?_
  refine lv_iadd hx hb dL_law_413 ?_
  refine lv_topi (fun z1078 ez1078 => ?_)
  obtain rfl : z1078 = 2 := ez1078.trans (by decide)
  refine va_sld hx hb hX hbl hbA hS (by rw [hL8]; unfold vp_in; decide) dL_law_414 ?_
  refine lv_aload_n hx hb dL_law_415 rfl (lv_at hl 1 rfl) ?_
  have hPc := hP.sub (ws' := [(h0, .inr (11, oX w sg ro tr gX)), (w, .inr (10, oW kd gW 0 0))]) [0, 1] rfl
  have hDc := hD.sub (ws' := [(h0, .inr (11, oX w sg ro tr gX)), (w, .inr (10, oW kd gW 0 0))]) [0, 1] (by decide) rfl
  have hKc := hK.sub (tys' := []) [] rfl
  have hFc := roF hS hA
  refine va_calli (vx_runSW (As := [.ref h0, .int (xs (1 : Int32).toNatClampNeg), .int (xs (2 : Int32).toNatClampNeg), .ref ou]) (rest := []) ⟨hx, hb, hml, hown, hts⟩ (c_L_net l dC dI H.size hfl h0 ou w sg ro tr gX kd gW (xs (1 : Int32).toNatClampNeg) (xs (2 : Int32).toNatClampNeg)) (vx_cwSW 4 hts (gSt u_713 u_714 u_0 u_715) rfl rfl rfl (by decide +kernel) ⟨Nat.le_of_ble_eq_true rfl, Nat.le_of_ble_eq_true rfl⟩) ⟨gPZ_blind, gPZ_call hPc hKc hDc hE hZ hS hFc⟩ rfl rfl hl.1 rfl (lv_room (Nat.le_of_ble_eq_true rfl)) dL_law_416 ⟨(Nat.le_of_ble_eq_true rfl), (Nat.le_of_ble_eq_true rfl)⟩) hS (fun q _ h => hFc q h) hFc (fun r1081 u1079 t9 H1080 locs ht hvm hw hB hz1 hk1 hS => ?_)
  have hP := roP hP hk1
  subst hw
  refine W.widen (k := 442) (n := 44116) (Nat.le_of_ble_eq_true rfl) (Nat.le_of_ble_eq_true rfl) ?_
  refine lv_istore (lv' := [(5, .int 1), (4, .int 0), (3, .ref ou), (2, .ref m0), (1, .ref h0), (0, .ref b)]) hx hb dL_law_419 hl (by decide) rfl (fun ls hl => ?_)
  refine lv_aload_n hx hb dL_law_421 rfl (lv_at hl 3 rfl) ?_
  refine lv_aload_n hx hb dL_law_422 rfl (lv_at hl 5 rfl) ?_
  refine lv_iload hx hb dL_law_423 (lv_at hl 1 rfl) ?_
  refine lv_iconst (v := 1) hx hb dL_law_425 (by decide) ?_
  refine lv_iadd hx hb dL_law_426 ?_
  refine lv_topi (fun z1082 ez1082 => ?_)
  obtain rfl : z1082 = 1 := ez1082.trans (by decide)
  refine va_sld hx hb hX hbl hbA hS (by rw [hL8]; unfold vp_in; decide) dL_law_427 ?_
  refine lv_aload_n hx hb dL_law_428 rfl (lv_at hl 5 rfl) ?_
  refine lv_iload hx hb dL_law_429 (lv_at hl 1 rfl) ?_
  refine lv_iconst (v := 2) hx hb dL_law_431 (by decide) ?_
  refine lv_iadd hx hb dL_law_432 ?_
  refine lv_topi (fun z1083 ez1083 => ?_)
  obtain rfl : z1083 = 2 := ez1083.trans (by decide)
  refine va_sld hx hb hX hbl hbA hS (by rw [hL8]; unfold vp_in; decide) dL_law_433 ?_
  have hPc := hP.sub (ws' := [(m0, .inr (12, mM kdM gw fa gM 0 0 0 0 0 0 0 0 0))]) [11] rfl
  have hDc := hD.sub (ws' := [(m0, .inr (12, mM kdM gw fa gM 0 0 0 0 0 0 0 0 0))]) [11] (by decide) rfl
  have hKc := hK.sub (tys' := []) [] rfl
  have hFc := va_free (wc := [(m0, .inr (12, mM kdM gw fa gM 0 0 0 0 0 0 0 0 0))]) hD hS hA [11] rfl
  refine va_calli (va_runV (As := [.int (xs (1 : Int32).toNatClampNeg), .int (xs (2 : Int32).toNatClampNeg)]) (rest := []) ⟨hx, hb, hml, hown, hts⟩ (c_X12_net l dC dI H1080.size m0 kdM gw fa gM 0 (xs (1 : Int32).toNatClampNeg) (xs (2 : Int32).toNatClampNeg)) (cwV 2 hts (gV u_1447 u_1448 u_1449 u_14 u_1450) rfl rfl rfl (by decide +kernel) ⟨Nat.le_of_ble_eq_true rfl, Nat.le_of_ble_eq_true rfl⟩) ⟨gP_blind, va_recv hKc hPc (ci := 12) (q0 := 0) rfl rfl, gP_call hPc hKc hDc hE⟩ rfl rfl hl.1 rfl (lv_room (Nat.le_of_ble_eq_true rfl)) dL_law_434 ⟨(Nat.le_of_ble_eq_true rfl), (Nat.le_of_ble_eq_true rfl)⟩) hS (fun q _ h => hFc q h) hFc (fun r1086 u1084 t9 H1085 locs ht hvm hw hB hz1 hk1 hS => ?_)
  obtain ⟨hP1, hK1, hD1⟩ := hB
  rw [ht] at hP1
  have hK1 := va_K.moved hvm.symm hK1
  obtain ⟨hP, hD⟩ := va_join (wr := [(h0, .inr (11, oX w sg ro tr gX)), (w, .inr (10, oW kd gW 0 0)), (kd, .inl (cK, 10, .inl (fun _ => 0))), (sg, .inr (7, oS w sn gS 0)), (sn, .inl (cS, 40, .inr (.inl (fun _ => 0)))), (ro, .inr (6, oR w sg cu sp gR 0 0)), (cu, .inr (8, oB c1 gB1)), (c1, .inl (cC1, 10, .inl (fun _ => 0))), (sp, .inr (8, oB c2 gB2)), (c2, .inl (cC2, 10, .inl (fun _ => 0))), (tr, .inr (9, oT w sg ro gT 0 0 0 0)), (kdM, .inl (ckM, 10, .inl (fun _ => 0))), (fa, .inl (cf, 10, .inl (fun _ => 0))), (gw, .inl (cg, 10, .inl (fun _ => 0))), (ou, .inl (cO, 1, .inr (.inl (fun _ => 0))))]) (w1 := [(m0, .inr (12, mM kdM gw fa gM 0 0 0 0 0 0 0 0 1))]) hP hD [11] [0, 1, 2, 3, 4, 5, 6, 7, 8, 9, 10, 12, 13, 14, 15] rfl rfl (by decide) (by decide) hk1 hFc hP1 hD1
  have hK := (hK.sub (tys' := [(cK, .int), (cS, .long), (cC1, .int), (cC2, .int), (ckM, .int), (cf, .int), (cg, .int), (cO, .long)]) [0, 1, 2, 3, 4, 5, 6, 7] rfl).app hK1
  have hK : va_K (dC, dI) vwCl [(cK, .int), (cS, .long), (cC1, .int), (cC2, .int), (ckM, .int), (cf, .int), (cg, .int), (cO, .long)] s := hK
  have hP : va_P (dC, dI) vwCl [(h0, .inr (11, oX w sg ro tr gX)), (w, .inr (10, oW kd gW 0 0)), (kd, .inl (cK, 10, .inl (fun _ => 0))), (sg, .inr (7, oS w sn gS 0)), (sn, .inl (cS, 40, .inr (.inl (fun _ => 0)))), (ro, .inr (6, oR w sg cu sp gR 0 0)), (cu, .inr (8, oB c1 gB1)), (c1, .inl (cC1, 10, .inl (fun _ => 0))), (sp, .inr (8, oB c2 gB2)), (c2, .inl (cC2, 10, .inl (fun _ => 0))), (tr, .inr (9, oT w sg ro gT 0 0 0 0)), (kdM, .inl (ckM, 10, .inl (fun _ => 0))), (fa, .inl (cf, 10, .inl (fun _ => 0))), (gw, .inl (cg, 10, .inl (fun _ => 0))), (ou, .inl (cO, 1, .inr (.inl (fun _ => 0)))), (m0, .inr (12, mM kdM gw fa gM 0 0 0 0 0 0 0 0 1))] H1085 := hP
  have hD : va_D A [(h0, .inr (11, oX w sg ro tr gX)), (w, .inr (10, oW kd gW 0 0)), (kd, .inl (cK, 10, .inl (fun _ => 0))), (sg, .inr (7, oS w sn gS 0)), (sn, .inl (cS, 40, .inr (.inl (fun _ => 0)))), (ro, .inr (6, oR w sg cu sp gR 0 0)), (cu, .inr (8, oB c1 gB1)), (c1, .inl (cC1, 10, .inl (fun _ => 0))), (sp, .inr (8, oB c2 gB2)), (c2, .inl (cC2, 10, .inl (fun _ => 0))), (tr, .inr (9, oT w sg ro gT 0 0 0 0)), (kdM, .inl (ckM, 10, .inl (fun _ => 0))), (fa, .inl (cf, 10, .inl (fun _ => 0))), (gw, .inl (cg, 10, .inl (fun _ => 0))), (ou, .inl (cO, 1, .inr (.inl (fun _ => 0)))), (m0, .inr (12, mM kdM gw fa gM 0 0 0 0 0 0 0 0 1))] := hD
  subst hw
  refine lv_istore (lv' := [(6, .int 0), (5, .int 1), (4, .int 0), (3, .ref ou), (2, .ref m0), (1, .ref h0), (0, .ref b)]) hx hb dL_law_437 hl (by decide) rfl (fun ls hl => ?_)
  refine lv_aload_n hx hb dL_law_439 rfl (lv_at hl 4 rfl) ?_
  have hPc := hP.sub (ws' := [(m0, .inr (12, mM kdM gw fa gM 0 0 0 0 0 0 0 0 1))]) [15] rfl
  have hDc := hD.sub (ws' := [(m0, .inr (12, mM kdM gw fa gM 0 0 0 0 0 0 0 0 1))]) [15] (by decide) rfl
  have hKc := hK.sub (tys' := []) [] rfl
  have hFc := roF hS hA
  refine va_calli (va_runV (As := []) (rest := []) ⟨hx, hb, hml, hown, hts⟩ (cu_X12_thrown l dC dI H1085.size m0 kdM gw fa gM 1 0 0) (cwV 0 hts (gV u_1392 u_1393 u_1394 u_14 u_1395) rfl rfl rfl (by decide +kernel) ⟨Nat.le_of_ble_eq_true rfl, Nat.le_of_ble_eq_true rfl⟩) ⟨gP_blind, va_recv hKc hPc (ci := 12) (q0 := 0) rfl rfl, gP_call hPc hKc hDc hE⟩ rfl rfl hl.1 rfl (lv_room (Nat.le_of_ble_eq_true rfl)) dL_law_440 ⟨(Nat.le_of_ble_eq_true rfl), (Nat.le_of_ble_eq_true rfl)⟩) hS (fun q _ h => hFc q h) hFc (fun r1089 u1087 t9 H1088 locs ht hvm hw hB hz1 hk1 hS => ?_)
  have hP := roP hP hk1
  subst hw
  refine lv_iload hx hb dL_law_443 (lv_at hl 1 rfl) ?_
  refine lv_icmp_eq (tgt := 450) hx hb dL_law_445 (by decide) (fun _ => ?_) (fun h9 => absurd (by decide) h9)
  refine lv_iload hx hb dL_law_450 (lv_at hl 1 rfl) ?_
  refine lv_if_ne (tgt := 467) hx hb dL_law_452 (by decide) (fun _ => ?_) (fun h9 => absurd h9 (by decide))
  refine lv_goto (tgt := 1877) hx hb dL_law_467 (by decide) ?_
  refine W.widen (k := 600002) (n := 7302232) (Nat.le_of_ble_eq_true rfl) (Nat.le_of_ble_eq_true rfl) ?_
  exact law_tail hfl hx hb hr hml hown hts hX hbl hlocks hE hZ hA hbA hAo hL8 hS (lv_sub hl [6, 2] rfl)
set_option maxHeartbeats 8000000 in
set_option maxRecDepth 100000 in
theorem law_c5 {p : Program} {l : Launch} {e : Env} {s : State} {m : MethodId} {below : List Frame} {meth : Method} {c : Code} {dC : Nat → ClassId} {dI : Nat → Nat → Nat} {A : Nat → Prop} {b L : Nat} {xs : Nat → Int32} {h0 : Nat} {w : Nat} {kd : Nat} {cK : ClassId} {gW : Nat → Nat} {sg : Nat} {sn : Nat} {cS : ClassId} {gS : Nat → Nat} {ro : Nat} {cu : Nat} {c1 : Nat} {cC1 : ClassId} {gB1 : Nat → Nat} {sp : Nat} {c2 : Nat} {cC2 : ClassId} {gB2 : Nat → Nat} {gR : Nat → Nat} {tr : Nat} {gT : Nat → Nat} {gX : Nat → Nat} {m0 : Nat} {kdM : Nat} {ckM : ClassId} {fa : Nat} {cf : ClassId} {gw : Nat} {cg : ClassId} {gM : Nat → Nat} {ou : Nat} {cO : ClassId} (hfl : l.stackTraces = false) (hx : p.tables.exec = Jvm.exec) (hb : c.code = code) (hr : meth.sig.returnType = ret) (hml : c.maxLocals = 7) (hown : s.vm.findClass RL = some m.cls) (hts : ∀ w ∈ gU, w.before #[Value.ref b] s = true) (hX : va_X b L xs s s.heap) (hbl : b < s.heap.size) (hlocks : meth.locks = false) (hE : gEnv s) (hZ : gZ A s) (hA : ∀ q : Nat, s.heap.size ≤ q → A q) (hbA : ¬ A b) (hAo : ∀ q : Nat, A q → s.heap.size ≤ q) (hL8 : L = 8) : ∀ (H : Heap) (locs : List Loc), va_K (dC, dI) vwCl [(cK, .int), (cS, .long), (cC1, .int), (cC2, .int), (ckM, .int), (cf, .int), (cg, .int), (cO, .long)] s → va_P (dC, dI) vwCl [(h0, .inr (11, oX w sg ro tr gX)), (w, .inr (10, oW kd gW 0 0)), (kd, .inl (cK, 10, .inl (fun _ => 0))), (sg, .inr (7, oS w sn gS 0)), (sn, .inl (cS, 40, .inr (.inl (fun _ => 0)))), (ro, .inr (6, oR w sg cu sp gR 0 0)), (cu, .inr (8, oB c1 gB1)), (c1, .inl (cC1, 10, .inl (fun _ => 0))), (sp, .inr (8, oB c2 gB2)), (c2, .inl (cC2, 10, .inl (fun _ => 0))), (tr, .inr (9, oT w sg ro gT 0 0 0 0)), (m0, .inr (12, mM kdM gw fa gM 0 0 0 0 0 0 0 0 0)), (kdM, .inl (ckM, 10, .inl (fun _ => 0))), (fa, .inl (cf, 10, .inl (fun _ => 0))), (gw, .inl (cg, 10, .inl (fun _ => 0))), (ou, .inl (cO, 1, .inr (.inl (fun _ => 0))))] H → va_D A [(h0, .inr (11, oX w sg ro tr gX)), (w, .inr (10, oW kd gW 0 0)), (kd, .inl (cK, 10, .inl (fun _ => 0))), (sg, .inr (7, oS w sn gS 0)), (sn, .inl (cS, 40, .inr (.inl (fun _ => 0)))), (ro, .inr (6, oR w sg cu sp gR 0 0)), (cu, .inr (8, oB c1 gB1)), (c1, .inl (cC1, 10, .inl (fun _ => 0))), (sp, .inr (8, oB c2 gB2)), (c2, .inl (cC2, 10, .inl (fun _ => 0))), (tr, .inr (9, oT w sg ro gT 0 0 0 0)), (m0, .inr (12, mM kdM gw fa gM 0 0 0 0 0 0 0 0 0)), (kdM, .inl (ckM, 10, .inl (fun _ => 0))), (fa, .inl (cf, 10, .inl (fun _ => 0))), (gw, .inl (cg, 10, .inl (fun _ => 0))), (ou, .inl (cO, 1, .inr (.inl (fun _ => 0))))] → va_S A s.heap H locs → ∀ ls : Array Slot, lv_has ls 7 [(4, .int 0), (3, .ref ou), (2, .ref m0), (1, .ref h0), (0, .ref b)] → W p l e room_1 s m #[Value.ref b] below meth c H locs 441 44110 (lw_Z below #[Value.ref b] s) (F0 m 470 ls []) := by
  intro H locs hK hP hD hS ls hl
  refine lv_aload_n hx hb dL_law_470 rfl (lv_at hl 3 rfl) ?_
  refine lv_aload_n hx hb dL_law_471 rfl (lv_at hl 4 rfl) ?_
  refine lv_iload hx hb dL_law_472 (lv_at hl 0 rfl) ?_
  refine lv_iconst (v := 1) hx hb dL_law_474 (by decide) ?_
  refine lv_iadd hx hb dL_law_475 ?_
  refine lv_topi (fun z1090 ez1090 => ?_)
  obtain rfl : z1090 = 1 := ez1090.trans (by decide)
  refine va_sld hx hb hX hbl hbA hS (by rw [hL8]; unfold vp_in; decide) dL_law_476 ?_
  refine lv_aload_n hx hb dL_law_477 rfl (lv_at hl 4 rfl) ?_
  refine lv_iload hx hb dL_law_478 (lv_at hl 0 rfl) ?_
  refine lv_iconst (v := 2) hx hb dL_law_480 (by decide) ?_
  refine lv_iadd hx hb dL_law_481 ?_
  refine lv_topi (fun z1091 ez1091 => ?_)
  obtain rfl : z1091 = 2 := ez1091.trans (by decide)
  refine va_sld hx hb hX hbl hbA hS (by rw [hL8]; unfold vp_in; decide) dL_law_482 ?_
  refine lv_aload_n hx hb dL_law_483 rfl (lv_at hl 1 rfl) ?_
  have hPc := hP.sub (ws' := [(h0, .inr (11, oX w sg ro tr gX)), (w, .inr (10, oW kd gW 0 0))]) [0, 1] rfl
  have hDc := hD.sub (ws' := [(h0, .inr (11, oX w sg ro tr gX)), (w, .inr (10, oW kd gW 0 0))]) [0, 1] (by decide) rfl
  have hKc := hK.sub (tys' := []) [] rfl
  have hFc := roF hS hA
  refine va_calli (vx_runSW (As := [.ref h0, .int (xs (1 : Int32).toNatClampNeg), .int (xs (2 : Int32).toNatClampNeg), .ref ou]) (rest := []) ⟨hx, hb, hml, hown, hts⟩ (c_L_sees l dC dI H.size hfl h0 ou w sg ro tr gX kd gW (xs (1 : Int32).toNatClampNeg) (xs (2 : Int32).toNatClampNeg)) (vx_cwSW 4 hts (gSt u_721 u_722 u_0 u_723) rfl rfl rfl (by decide +kernel) ⟨Nat.le_of_ble_eq_true rfl, Nat.le_of_ble_eq_true rfl⟩) ⟨gPZ_blind, gPZ_call hPc hKc hDc hE hZ hS hFc⟩ rfl rfl hl.1 rfl (lv_room (Nat.le_of_ble_eq_true rfl)) dL_law_484 ⟨(Nat.le_of_ble_eq_true rfl), (Nat.le_of_ble_eq_true rfl)⟩) hS (fun q _ h => hFc q h) hFc (fun r1094 u1092 t9 H1093 locs ht hvm hw hB hz1 hk1 hS => ?_)
  have hP := roP hP hk1
  subst hw
  refine W.widen (k := 442) (n := 44116) (Nat.le_of_ble_eq_true rfl) (Nat.le_of_ble_eq_true rfl) ?_
  refine lv_istore (lv' := [(5, .int 1), (4, .int 0), (3, .ref ou), (2, .ref m0), (1, .ref h0), (0, .ref b)]) hx hb dL_law_487 hl (by decide) rfl (fun ls hl => ?_)
  refine lv_aload_n hx hb dL_law_489 rfl (lv_at hl 3 rfl) ?_
  refine lv_aload_n hx hb dL_law_490 rfl (lv_at hl 5 rfl) ?_
  refine lv_iload hx hb dL_law_491 (lv_at hl 1 rfl) ?_
  refine lv_iconst (v := 1) hx hb dL_law_493 (by decide) ?_
  refine lv_iadd hx hb dL_law_494 ?_
  refine lv_topi (fun z1095 ez1095 => ?_)
  obtain rfl : z1095 = 1 := ez1095.trans (by decide)
  refine va_sld hx hb hX hbl hbA hS (by rw [hL8]; unfold vp_in; decide) dL_law_495 ?_
  refine lv_aload_n hx hb dL_law_496 rfl (lv_at hl 5 rfl) ?_
  refine lv_iload hx hb dL_law_497 (lv_at hl 1 rfl) ?_
  refine lv_iconst (v := 2) hx hb dL_law_499 (by decide) ?_
  refine lv_iadd hx hb dL_law_500 ?_
  refine lv_topi (fun z1096 ez1096 => ?_)
  obtain rfl : z1096 = 2 := ez1096.trans (by decide)
  refine va_sld hx hb hX hbl hbA hS (by rw [hL8]; unfold vp_in; decide) dL_law_501 ?_
  have hPc := hP.sub (ws' := [(m0, .inr (12, mM kdM gw fa gM 0 0 0 0 0 0 0 0 0))]) [11] rfl
  have hDc := hD.sub (ws' := [(m0, .inr (12, mM kdM gw fa gM 0 0 0 0 0 0 0 0 0))]) [11] (by decide) rfl
  have hKc := hK.sub (tys' := []) [] rfl
  have hFc := va_free (wc := [(m0, .inr (12, mM kdM gw fa gM 0 0 0 0 0 0 0 0 0))]) hD hS hA [11] rfl
  refine va_calli (va_runV (As := [.int (xs (1 : Int32).toNatClampNeg), .int (xs (2 : Int32).toNatClampNeg)]) (rest := []) ⟨hx, hb, hml, hown, hts⟩ (c_X12_sees l dC dI H1093.size m0 kdM gw fa gM 0 (xs (1 : Int32).toNatClampNeg) (xs (2 : Int32).toNatClampNeg)) (cwV 2 hts (gV u_1451 u_1452 u_1453 u_14 u_1454) rfl rfl rfl (by decide +kernel) ⟨Nat.le_of_ble_eq_true rfl, Nat.le_of_ble_eq_true rfl⟩) ⟨gP_blind, va_recv hKc hPc (ci := 12) (q0 := 0) rfl rfl, gP_call hPc hKc hDc hE⟩ rfl rfl hl.1 rfl (lv_room (Nat.le_of_ble_eq_true rfl)) dL_law_502 ⟨(Nat.le_of_ble_eq_true rfl), (Nat.le_of_ble_eq_true rfl)⟩) hS (fun q _ h => hFc q h) hFc (fun r1099 u1097 t9 H1098 locs ht hvm hw hB hz1 hk1 hS => ?_)
  obtain ⟨hP1, hK1, hD1⟩ := hB
  rw [ht] at hP1
  have hK1 := va_K.moved hvm.symm hK1
  obtain ⟨hP, hD⟩ := va_join (wr := [(h0, .inr (11, oX w sg ro tr gX)), (w, .inr (10, oW kd gW 0 0)), (kd, .inl (cK, 10, .inl (fun _ => 0))), (sg, .inr (7, oS w sn gS 0)), (sn, .inl (cS, 40, .inr (.inl (fun _ => 0)))), (ro, .inr (6, oR w sg cu sp gR 0 0)), (cu, .inr (8, oB c1 gB1)), (c1, .inl (cC1, 10, .inl (fun _ => 0))), (sp, .inr (8, oB c2 gB2)), (c2, .inl (cC2, 10, .inl (fun _ => 0))), (tr, .inr (9, oT w sg ro gT 0 0 0 0)), (kdM, .inl (ckM, 10, .inl (fun _ => 0))), (fa, .inl (cf, 10, .inl (fun _ => 0))), (gw, .inl (cg, 10, .inl (fun _ => 0))), (ou, .inl (cO, 1, .inr (.inl (fun _ => 0))))]) (w1 := [(m0, .inr (12, mM kdM gw fa gM 0 0 0 0 0 0 0 0 1))]) hP hD [11] [0, 1, 2, 3, 4, 5, 6, 7, 8, 9, 10, 12, 13, 14, 15] rfl rfl (by decide) (by decide) hk1 hFc hP1 hD1
  have hK := (hK.sub (tys' := [(cK, .int), (cS, .long), (cC1, .int), (cC2, .int), (ckM, .int), (cf, .int), (cg, .int), (cO, .long)]) [0, 1, 2, 3, 4, 5, 6, 7] rfl).app hK1
  have hK : va_K (dC, dI) vwCl [(cK, .int), (cS, .long), (cC1, .int), (cC2, .int), (ckM, .int), (cf, .int), (cg, .int), (cO, .long)] s := hK
  have hP : va_P (dC, dI) vwCl [(h0, .inr (11, oX w sg ro tr gX)), (w, .inr (10, oW kd gW 0 0)), (kd, .inl (cK, 10, .inl (fun _ => 0))), (sg, .inr (7, oS w sn gS 0)), (sn, .inl (cS, 40, .inr (.inl (fun _ => 0)))), (ro, .inr (6, oR w sg cu sp gR 0 0)), (cu, .inr (8, oB c1 gB1)), (c1, .inl (cC1, 10, .inl (fun _ => 0))), (sp, .inr (8, oB c2 gB2)), (c2, .inl (cC2, 10, .inl (fun _ => 0))), (tr, .inr (9, oT w sg ro gT 0 0 0 0)), (kdM, .inl (ckM, 10, .inl (fun _ => 0))), (fa, .inl (cf, 10, .inl (fun _ => 0))), (gw, .inl (cg, 10, .inl (fun _ => 0))), (ou, .inl (cO, 1, .inr (.inl (fun _ => 0)))), (m0, .inr (12, mM kdM gw fa gM 0 0 0 0 0 0 0 0 1))] H1098 := hP
  have hD : va_D A [(h0, .inr (11, oX w sg ro tr gX)), (w, .inr (10, oW kd gW 0 0)), (kd, .inl (cK, 10, .inl (fun _ => 0))), (sg, .inr (7, oS w sn gS 0)), (sn, .inl (cS, 40, .inr (.inl (fun _ => 0)))), (ro, .inr (6, oR w sg cu sp gR 0 0)), (cu, .inr (8, oB c1 gB1)), (c1, .inl (cC1, 10, .inl (fun _ => 0))), (sp, .inr (8, oB c2 gB2)), (c2, .inl (cC2, 10, .inl (fun _ => 0))), (tr, .inr (9, oT w sg ro gT 0 0 0 0)), (kdM, .inl (ckM, 10, .inl (fun _ => 0))), (fa, .inl (cf, 10, .inl (fun _ => 0))), (gw, .inl (cg, 10, .inl (fun _ => 0))), (ou, .inl (cO, 1, .inr (.inl (fun _ => 0)))), (m0, .inr (12, mM kdM gw fa gM 0 0 0 0 0 0 0 0 1))] := hD
  subst hw
  refine lv_istore (lv' := [(6, .int 0), (5, .int 1), (4, .int 0), (3, .ref ou), (2, .ref m0), (1, .ref h0), (0, .ref b)]) hx hb dL_law_505 hl (by decide) rfl (fun ls hl => ?_)
  refine lv_aload_n hx hb dL_law_507 rfl (lv_at hl 4 rfl) ?_
  have hPc := hP.sub (ws' := [(m0, .inr (12, mM kdM gw fa gM 0 0 0 0 0 0 0 0 1))]) [15] rfl
  have hDc := hD.sub (ws' := [(m0, .inr (12, mM kdM gw fa gM 0 0 0 0 0 0 0 0 1))]) [15] (by decide) rfl
  have hKc := hK.sub (tys' := []) [] rfl
  have hFc := roF hS hA
  refine va_calli (va_runV (As := []) (rest := []) ⟨hx, hb, hml, hown, hts⟩ (cu_X12_thrown l dC dI H1098.size m0 kdM gw fa gM 1 0 0) (cwV 0 hts (gV u_1392 u_1393 u_1394 u_14 u_1395) rfl rfl rfl (by decide +kernel) ⟨Nat.le_of_ble_eq_true rfl, Nat.le_of_ble_eq_true rfl⟩) ⟨gP_blind, va_recv hKc hPc (ci := 12) (q0 := 0) rfl rfl, gP_call hPc hKc hDc hE⟩ rfl rfl hl.1 rfl (lv_room (Nat.le_of_ble_eq_true rfl)) dL_law_508 ⟨(Nat.le_of_ble_eq_true rfl), (Nat.le_of_ble_eq_true rfl)⟩) hS (fun q _ h => hFc q h) hFc (fun r1102 u1100 t9 H1101 locs ht hvm hw hB hz1 hk1 hS => ?_)
  have hP := roP hP hk1
  subst hw
  refine lv_iload hx hb dL_law_511 (lv_at hl 1 rfl) ?_
  refine lv_icmp_eq (tgt := 518) hx hb dL_law_513 (by decide) (fun _ => ?_) (fun h9 => absurd (by decide) h9)
  refine lv_iload hx hb dL_law_518 (lv_at hl 1 rfl) ?_
  refine lv_if_ne (tgt := 542) hx hb dL_law_520 (by decide) (fun _ => ?_) (fun h9 => absurd h9 (by decide))
  refine lv_goto (tgt := 1877) hx hb dL_law_542 (by decide) ?_
  refine W.widen (k := 600002) (n := 7302232) (Nat.le_of_ble_eq_true rfl) (Nat.le_of_ble_eq_true rfl) ?_
  exact law_tail hfl hx hb hr hml hown hts hX hbl hlocks hE hZ hA hbA hAo hL8 hS (lv_sub hl [6, 2] rfl)
