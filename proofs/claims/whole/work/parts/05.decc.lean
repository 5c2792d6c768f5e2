theorem dX11_init_211 : decode cX11_init 211 = .ok (.putfield 85, 3) := by decide +kernel
theorem dX11_init_214 : decode cX11_init 214 = .ok (.aload_n 0, 1) := by decide +kernel
theorem dX11_init_215 : decode cX11_init 215 = .ok (.bipush 40, 2) := by decide +kernel
theorem dX11_init_217 : decode cX11_init 217 = .ok (.newarray .int, 2) := by decide +kernel
theorem dX11_init_219 : decode cX11_init 219 = .ok (.putfield 88, 3) := by decide +kernel
theorem dX11_init_222 : decode cX11_init 222 = .ok (.aload_n 0, 1) := by decide +kernel
theorem dX11_init_223 : decode cX11_init 223 = .ok (.bipush 40, 2) := by decide +kernel
theorem dX11_init_225 : decode cX11_init 225 = .ok (.newarray .int, 2) := by decide +kernel
theorem dX11_init_227 : decode cX11_init 227 = .ok (.putfield 91, 3) := by decide +kernel
theorem dX11_init_230 : decode cX11_init 230 = .ok (.aload_n 0, 1) := by decide +kernel
theorem dX11_init_231 : decode cX11_init 231 = .ok (.bipush 40, 2) := by decide +kernel
theorem dX11_init_233 : decode cX11_init 233 = .ok (.newarray .int, 2) := by decide +kernel
theorem dX11_init_235 : decode cX11_init 235 = .ok (.putfield 94, 3) := by decide +kernel
theorem dX11_init_238 : decode cX11_init 238 = .ok (.aload_n 0, 1) := by decide +kernel
theorem dX11_init_239 : decode cX11_init 239 = .ok (.sipush 150, 3) := by decide +kernel
theorem dX11_init_242 : decode cX11_init 242 = .ok (.newarray .int, 2) := by decide +kernel
theorem dX11_init_244 : decode cX11_init 244 = .ok (.putfield 97, 3) := by decide +kernel
theorem dX11_init_247 : decode cX11_init 247 = .ok (.aload_n 0, 1) := by decide +kernel
theorem dX11_init_248 : decode cX11_init 248 = .ok (.bipush 45, 2) := by decide +kernel
theorem dX11_init_250 : decode cX11_init 250 = .ok (.newarray .int, 2) := by decide +kernel
theorem dX11_init_252 : decode cX11_init 252 = .ok (.putfield 100, 3) := by decide +kernel
theorem dX11_init_255 : decode cX11_init 255 = .ok (.aload_n 0, 1) := by decide +kernel
theorem dX11_init_256 : decode cX11_init 256 = .ok (.bipush 12, 2) := by decide +kernel
theorem dX11_init_258 : decode cX11_init 258 = .ok (.newarray .int, 2) := by decide +kernel
theorem dX11_init_260 : decode cX11_init 260 = .ok (.putfield 103, 3) := by decide +kernel
theorem dX11_init_263 : decode cX11_init 263 = .ok (.aload_n 0, 1) := by decide +kernel
theorem dX11_init_264 : decode cX11_init 264 = .ok (.bipush 12, 2) := by decide +kernel
theorem dX11_init_266 : decode cX11_init 266 = .ok (.newarray .int, 2) := by decide +kernel
theorem dX11_init_268 : decode cX11_init 268 = .ok (.putfield 106, 3) := by decide +kernel
theorem dX11_init_271 : decode cX11_init 271 = .ok (.aload_n 0, 1) := by decide +kernel
theorem dX11_init_272 : decode cX11_init 272 = .ok (.bipush 12, 2) := by decide +kernel
theorem dX11_init_274 : decode cX11_init 274 = .ok (.newarray .int, 2) := by decide +kernel
theorem dX11_init_276 : decode cX11_init 276 = .ok (.putfield 109, 3) := by decide +kernel
theorem dX11_init_279 : decode cX11_init 279 = .ok (.aload_n 0, 1) := by decide +kernel
theorem dX11_init_280 : decode cX11_init 280 = .ok (.bipush 20, 2) := by decide +kernel
theorem dX11_init_282 : decode cX11_init 282 = .ok (.newarray .int, 2) := by decide +kernel
theorem dX11_init_284 : decode cX11_init 284 = .ok (.putfield 112, 3) := by decide +kernel
theorem dX11_init_287 : decode cX11_init 287 = .ok (.aload_n 0, 1) := by decide +kernel
theorem dX11_init_288 : decode cX11_init 288 = .ok (.sipush 200, 3) := by decide +kernel
theorem dX11_init_291 : decode cX11_init 291 = .ok (.newarray .long, 2) := by decide +kernel
theorem dX11_init_293 : decode cX11_init 293 = .ok (.putfield 115, 3) := by decide +kernel
theorem dX11_init_296 : decode cX11_init 296 = .ok (.aload_n 0, 1) := by decide +kernel
theorem dX11_init_297 : decode cX11_init 297 = .ok (.sipush 200, 3) := by decide +kernel
theorem dX11_init_300 : decode cX11_init 300 = .ok (.newarray .long, 2) := by decide +kernel
theorem dX11_init_302 : decode cX11_init 302 = .ok (.putfield 119, 3) := by decide +kernel
theorem dX11_init_305 : decode cX11_init 305 = .ok (.aload_n 0, 1) := by decide +kernel
theorem dX11_init_306 : decode cX11_init 306 = .ok (.bipush 6, 2) := by decide +kernel
theorem dX11_init_308 : decode cX11_init 308 = .ok (.newarray .int, 2) := by decide +kernel
theorem dX11_init_310 : decode cX11_init 310 = .ok (.putfield 122, 3) := by decide +kernel
theorem dX11_init_313 : decode cX11_init 313 = .ok (.aload_n 0, 1) := by decide +kernel
theorem dX11_init_314 : decode cX11_init 314 = .ok (.bipush 31, 2) := by decide +kernel
theorem dX11_init_316 : decode cX11_init 316 = .ok (.newarray .int, 2) := by decide +kernel
theorem dX11_init_318 : decode cX11_init 318 = .ok (.putfield 125, 3) := by decide +kernel
theorem dX11_init_321 : decode cX11_init 321 = .ok (.aload_n 0, 1) := by decide +kernel
theorem dX11_init_322 : decode cX11_init 322 = .ok (.iconst 5, 1) := by decide +kernel
theorem dX11_init_323 : decode cX11_init 323 = .ok (.newarray .long, 2) := by decide +kernel
theorem dX11_init_325 : decode cX11_init 325 = .ok (.putfield 128, 3) := by decide +kernel
theorem dX11_init_328 : decode cX11_init 328 = .ok (.aload_n 0, 1) := by decide +kernel
theorem dX11_init_329 : decode cX11_init 329 = .ok (.iconst 4, 1) := by decide +kernel
theorem dX11_init_330 : decode cX11_init 330 = .ok (.newarray .int, 2) := by decide +kernel
theorem dX11_init_332 : decode cX11_init 332 = .ok (.putfield 131, 3) := by decide +kernel
theorem dX11_init_335 : decode cX11_init 335 = .ok (.aload_n 0, 1) := by decide +kernel
theorem dX11_init_336 : decode cX11_init 336 = .ok (.iconst 4, 1) := by decide +kernel
theorem dX11_init_337 : decode cX11_init 337 = .ok (.newarray .long, 2) := by decide +kernel
theorem dX11_init_339 : decode cX11_init 339 = .ok (.putfield 134, 3) := by decide +kernel
theorem dX11_init_342 : decode cX11_init 342 = .ok (.aload_n 0, 1) := by decide +kernel
theorem dX11_init_343 : decode cX11_init 343 = .ok (.sipush 5000, 3) := by decide +kernel
theorem dX11_init_346 : decode cX11_init 346 = .ok (.newarray .int, 2) := by decide +kernel
theorem dX11_init_348 : decode cX11_init 348 = .ok (.putfield 137, 3) := by decide +kernel
theorem dX11_init_351 : decode cX11_init 351 = .ok (.return_, 1) := by decide +kernel
theorem dX11_in_0 : decode cX11_in 0 = .ok (.lload_n 0, 1) := by decide +kernel
theorem dX11_in_1 : decode cX11_in 1 = .ok (.lload_n 2, 1) := by decide +kernel
theorem dX11_in_2 : decode cX11_in 2 = .ok (.lcmp, 1) := by decide +kernel
theorem dX11_in_3 : decode cX11_in 3 = .ok (.ifCond .lt 14, 3) := by decide +kernel
theorem dX11_in_6 : decode cX11_in 6 = .ok (.lload_n 0, 1) := by decide +kernel
theorem dX11_in_7 : decode cX11_in 7 = .ok (.lload 4, 2) := by decide +kernel
theorem dX11_in_9 : decode cX11_in 9 = .ok (.lcmp, 1) := by decide +kernel
theorem dX11_in_10 : decode cX11_in 10 = .ok (.ifCond .gt 7, 3) := by decide +kernel
theorem dX11_in_13 : decode cX11_in 13 = .ok (.iconst 1, 1) := by decide +kernel
theorem dX11_in_14 : decode cX11_in 14 = .ok (.goto 4, 3) := by decide +kernel
theorem dX11_in_17 : decode cX11_in 17 = .ok (.iconst 0, 1) := by decide +kernel
theorem dX11_in_18 : decode cX11_in 18 = .ok (.ireturn, 1) := by decide +kernel
theorem dX11_feed_0 : decode cX11_feed 0 = .ok (.aload_n 0, 1) := by decide +kernel
theorem dX11_feed_1 : decode cX11_feed 1 = .ok (.getfield 140, 3) := by decide +kernel
theorem dX11_feed_4 : decode cX11_feed 4 = .ok (.bipush 20, 2) := by decide +kernel
theorem dX11_feed_6 : decode cX11_feed 6 = .ok (.iadd, 1) := by decide +kernel
theorem dX11_feed_7 : decode cX11_feed 7 = .ok (.sipush 200, 3) := by decide +kernel
theorem dX11_feed_10 : decode cX11_feed 10 = .ok (.if_icmp .le 5, 3) := by decide +kernel
theorem dX11_feed_13 : decode cX11_feed 13 = .ok (.iconst (-1), 1) := by decide +kernel
theorem dX11_feed_14 : decode cX11_feed 14 = .ok (.ireturn, 1) := by decide +kernel
theorem dX11_feed_15 : decode cX11_feed 15 = .ok (.iconst 0, 1) := by decide +kernel
theorem dX11_feed_16 : decode cX11_feed 16 = .ok (.istore 6, 2) := by decide +kernel
theorem dX11_feed_18 : decode cX11_feed 18 = .ok (.iload 6, 2) := by decide +kernel
theorem dX11_feed_20 : decode cX11_feed 20 = .ok (.bipush 20, 2) := by decide +kernel
theorem dX11_feed_22 : decode cX11_feed 22 = .ok (.if_icmp .ge 90, 3) := by decide +kernel
theorem dX11_feed_25 : decode cX11_feed 25 = .ok (.iload 6, 2) := by decide +kernel
theorem dX11_feed_27 : decode cX11_feed 27 = .ok (.iconst 4, 1) := by decide +kernel
theorem dX11_feed_28 : decode cX11_feed 28 = .ok (.if_icmp .ge 7, 3) := by decide +kernel
theorem dX11_feed_31 : decode cX11_feed 31 = .ok (.iload_n 1, 1) := by decide +kernel
theorem dX11_feed_32 : decode cX11_feed 32 = .ok (.goto 39, 3) := by decide +kernel
theorem dX11_feed_35 : decode cX11_feed 35 = .ok (.iload 6, 2) := by decide +kernel
theorem dX11_feed_37 : decode cX11_feed 37 = .ok (.bipush 8, 2) := by decide +kernel
theorem dX11_feed_39 : decode cX11_feed 39 = .ok (.if_icmp .ge 7, 3) := by decide +kernel
theorem dX11_feed_42 : decode cX11_feed 42 = .ok (.iload_n 2, 1) := by decide +kernel
theorem dX11_feed_43 : decode cX11_feed 43 = .ok (.goto 28, 3) := by decide +kernel
theorem dX11_feed_46 : decode cX11_feed 46 = .ok (.iload 6, 2) := by decide +kernel
theorem dX11_feed_48 : decode cX11_feed 48 = .ok (.bipush 12, 2) := by decide +kernel
theorem dX11_feed_50 : decode cX11_feed 50 = .ok (.if_icmp .ge 7, 3) := by decide +kernel
theorem dX11_feed_53 : decode cX11_feed 53 = .ok (.iload_n 3, 1) := by decide +kernel
theorem dX11_feed_54 : decode cX11_feed 54 = .ok (.goto 17, 3) := by decide +kernel
theorem dX11_feed_57 : decode cX11_feed 57 = .ok (.iload 6, 2) := by decide +kernel
theorem dX11_feed_59 : decode cX11_feed 59 = .ok (.bipush 16, 2) := by decide +kernel
theorem dX11_feed_61 : decode cX11_feed 61 = .ok (.if_icmp .ge 8, 3) := by decide +kernel
theorem dX11_feed_64 : decode cX11_feed 64 = .ok (.iload 4, 2) := by decide +kernel
theorem dX11_feed_66 : decode cX11_feed 66 = .ok (.goto 5, 3) := by decide +kernel
theorem dX11_feed_69 : decode cX11_feed 69 = .ok (.iload 5, 2) := by decide +kernel
theorem dX11_feed_71 : decode cX11_feed 71 = .ok (.istore 7, 2) := by decide +kernel
theorem dX11_feed_73 : decode cX11_feed 73 = .ok (.aload_n 0, 1) := by decide +kernel
theorem dX11_feed_74 : decode cX11_feed 74 = .ok (.getfield 9, 3) := by decide +kernel
theorem dX11_feed_77 : decode cX11_feed 77 = .ok (.aload_n 0, 1) := by decide +kernel
theorem dX11_feed_78 : decode cX11_feed 78 = .ok (.getfield 140, 3) := by decide +kernel
theorem dX11_feed_81 : decode cX11_feed 81 = .ok (.iload 7, 2) := by decide +kernel
theorem dX11_feed_83 : decode cX11_feed 83 = .ok (.bipush 24, 2) := by decide +kernel
theorem dX11_feed_85 : decode cX11_feed 85 = .ok (.bipush 8, 2) := by decide +kernel
theorem dX11_feed_87 : decode cX11_feed 87 = .ok (.iload 6, 2) := by decide +kernel
theorem dX11_feed_89 : decode cX11_feed 89 = .ok (.iconst 4, 1) := by decide +kernel
theorem dX11_feed_90 : decode cX11_feed 90 = .ok (.irem, 1) := by decide +kernel
theorem dX11_feed_91 : decode cX11_feed 91 = .ok (.imul, 1) := by decide +kernel
theorem dX11_feed_92 : decode cX11_feed 92 = .ok (.isub, 1) := by decide +kernel
theorem dX11_feed_93 : decode cX11_feed 93 = .ok (.ishr, 1) := by decide +kernel
theorem dX11_feed_94 : decode cX11_feed 94 = .ok (.i2b, 1) := by decide +kernel
theorem dX11_feed_95 : decode cX11_feed 95 = .ok (.bastore, 1) := by decide +kernel
theorem dX11_feed_96 : decode cX11_feed 96 = .ok (.aload_n 0, 1) := by decide +kernel
theorem dX11_feed_97 : decode cX11_feed 97 = .ok (.dup, 1) := by decide +kernel
theorem dX11_feed_98 : decode cX11_feed 98 = .ok (.getfield 140, 3) := by decide +kernel
theorem dX11_feed_101 : decode cX11_feed 101 = .ok (.iconst 1, 1) := by decide +kernel
theorem dX11_feed_102 : decode cX11_feed 102 = .ok (.iadd, 1) := by decide +kernel
theorem dX11_feed_103 : decode cX11_feed 103 = .ok (.putfield 140, 3) := by decide +kernel
theorem dX11_feed_106 : decode cX11_feed 106 = .ok (.iinc 6 1, 3) := by decide +kernel
theorem dX11_feed_109 : decode cX11_feed 109 = .ok (.goto (-91), 3) := by decide +kernel
theorem dX11_feed_112 : decode cX11_feed 112 = .ok (.aload_n 0, 1) := by decide +kernel
theorem dX11_feed_113 : decode cX11_feed 113 = .ok (.getfield 140, 3) := by decide +kernel
theorem dX11_feed_116 : decode cX11_feed 116 = .ok (.ireturn, 1) := by decide +kernel
theorem dX11_end_0 : decode cX11_end 0 = .ok (.iload_n 1, 1) := by decide +kernel
theorem dX11_end_1 : decode cX11_end 1 = .ok (.i2l, 1) := by decide +kernel
theorem dX11_end_2 : decode cX11_end 2 = .ok (.lconst 0, 1) := by decide +kernel
theorem dX11_end_3 : decode cX11_end 3 = .ok (.aload_n 0, 1) := by decide +kernel
theorem dX11_end_4 : decode cX11_end 4 = .ok (.getfield 140, 3) := by decide +kernel
theorem dX11_end_7 : decode cX11_end 7 = .ok (.i2l, 1) := by decide +kernel
theorem dX11_end_8 : decode cX11_end 8 = .ok (.invokestatic 143, 3) := by decide +kernel
theorem dX11_end_11 : decode cX11_end 11 = .ok (.ifCond .ne 5, 3) := by decide +kernel
theorem dX11_end_14 : decode cX11_end 14 = .ok (.iconst 0, 1) := by decide +kernel
theorem dX11_end_15 : decode cX11_end 15 = .ok (.ireturn, 1) := by decide +kernel
theorem dX11_end_16 : decode cX11_end 16 = .ok (.aload_n 0, 1) := by decide +kernel
theorem dX11_end_17 : decode cX11_end 17 = .ok (.iload_n 1, 1) := by decide +kernel
theorem dX11_end_18 : decode cX11_end 18 = .ok (.putfield 140, 3) := by decide +kernel
theorem dX11_end_21 : decode cX11_end 21 = .ok (.iconst 1, 1) := by decide +kernel
theorem dX11_end_22 : decode cX11_end 22 = .ok (.ireturn, 1) := by decide +kernel
theorem dX11_isLetter_0 : decode cX11_isLetter 0 = .ok (.iload_n 0, 1) := by decide +kernel
theorem dX11_isLetter_1 : decode cX11_isLetter 1 = .ok (.bipush 97, 2) := by decide +kernel
theorem dX11_isLetter_3 : decode cX11_isLetter 3 = .ok (.if_icmp .lt 13, 3) := by decide +kernel
theorem dX11_isLetter_6 : decode cX11_isLetter 6 = .ok (.iload_n 0, 1) := by decide +kernel
theorem dX11_isLetter_7 : decode cX11_isLetter 7 = .ok (.bipush 122, 2) := by decide +kernel
theorem dX11_isLetter_9 : decode cX11_isLetter 9 = .ok (.if_icmp .gt 7, 3) := by decide +kernel
theorem dX11_isLetter_12 : decode cX11_isLetter 12 = .ok (.iconst 1, 1) := by decide +kernel
theorem dX11_isLetter_13 : decode cX11_isLetter 13 = .ok (.goto 4, 3) := by decide +kernel
theorem dX11_isLetter_16 : decode cX11_isLetter 16 = .ok (.iconst 0, 1) := by decide +kernel
theorem dX11_isLetter_17 : decode cX11_isLetter 17 = .ok (.ireturn, 1) := by decide +kernel
theorem dX11_isDigit_0 : decode cX11_isDigit 0 = .ok (.iload_n 0, 1) := by decide +kernel
theorem dX11_isDigit_1 : decode cX11_isDigit 1 = .ok (.bipush 48, 2) := by decide +kernel
theorem dX11_isDigit_3 : decode cX11_isDigit 3 = .ok (.if_icmp .lt 13, 3) := by decide +kernel
theorem dX11_isDigit_6 : decode cX11_isDigit 6 = .ok (.iload_n 0, 1) := by decide +kernel
theorem dX11_isDigit_7 : decode cX11_isDigit 7 = .ok (.bipush 57, 2) := by decide +kernel
theorem dX11_isDigit_9 : decode cX11_isDigit 9 = .ok (.if_icmp .gt 7, 3) := by decide +kernel
theorem dX11_isDigit_12 : decode cX11_isDigit 12 = .ok (.iconst 1, 1) := by decide +kernel
theorem dX11_isDigit_13 : decode cX11_isDigit 13 = .ok (.goto 4, 3) := by decide +kernel
theorem dX11_isDigit_16 : decode cX11_isDigit 16 = .ok (.iconst 0, 1) := by decide +kernel
theorem dX11_isDigit_17 : decode cX11_isDigit 17 = .ok (.ireturn, 1) := by decide +kernel
theorem dX11_wordAt_0 : decode cX11_wordAt 0 = .ok (.iconst 0, 1) := by decide +kernel
theorem dX11_wordAt_1 : decode cX11_wordAt 1 = .ok (.istore_n 3, 1) := by decide +kernel
theorem dX11_wordAt_2 : decode cX11_wordAt 2 = .ok (.iconst 1, 1) := by decide +kernel
theorem dX11_wordAt_3 : decode cX11_wordAt 3 = .ok (.istore 4, 2) := by decide +kernel
theorem dX11_wordAt_5 : decode cX11_wordAt 5 = .ok (.iload 4, 2) := by decide +kernel
theorem dX11_wordAt_7 : decode cX11_wordAt 7 = .ok (.ldc 147, 2) := by decide +kernel
theorem dX11_wordAt_9 : decode cX11_wordAt 9 = .ok (.invokevirtual 149, 3) := by decide +kernel
theorem dX11_wordAt_12 : decode cX11_wordAt 12 = .ok (.if_icmp .ge 114, 3) := by decide +kernel
theorem dX11_wordAt_15 : decode cX11_wordAt 15 = .ok (.iconst 0, 1) := by decide +kernel
theorem dX11_wordAt_16 : decode cX11_wordAt 16 = .ok (.istore 5, 2) := by decide +kernel
theorem dX11_wordAt_18 : decode cX11_wordAt 18 = .ok (.ldc 147, 2) := by decide +kernel
theorem dX11_wordAt_20 : decode cX11_wordAt 20 = .ok (.iload 4, 2) := by decide +kernel
theorem dX11_wordAt_22 : decode cX11_wordAt 22 = .ok (.iload 5, 2) := by decide +kernel
theorem dX11_wordAt_24 : decode cX11_wordAt 24 = .ok (.iadd, 1) := by decide +kernel
theorem dX11_wordAt_25 : decode cX11_wordAt 25 = .ok (.invokevirtual 155, 3) := by decide +kernel
theorem dX11_wordAt_28 : decode cX11_wordAt 28 = .ok (.bipush 32, 2) := by decide +kernel
theorem dX11_wordAt_30 : decode cX11_wordAt 30 = .ok (.if_icmp .eq 9, 3) := by decide +kernel
theorem dX11_wordAt_33 : decode cX11_wordAt 33 = .ok (.iinc 5 1, 3) := by decide +kernel
theorem dX11_wordAt_36 : decode cX11_wordAt 36 = .ok (.goto (-18), 3) := by decide +kernel
theorem dX11_wordAt_39 : decode cX11_wordAt 39 = .ok (.iload 5, 2) := by decide +kernel
theorem dX11_wordAt_41 : decode cX11_wordAt 41 = .ok (.iload_n 2, 1) := by decide +kernel
theorem dX11_wordAt_42 : decode cX11_wordAt 42 = .ok (.iload_n 1, 1) := by decide +kernel
theorem dX11_wordAt_43 : decode cX11_wordAt 43 = .ok (.isub, 1) := by decide +kernel
theorem dX11_wordAt_44 : decode cX11_wordAt 44 = .ok (.if_icmp .ne 7, 3) := by decide +kernel
theorem dX11_wordAt_47 : decode cX11_wordAt 47 = .ok (.iconst 1, 1) := by decide +kernel
theorem dX11_wordAt_48 : decode cX11_wordAt 48 = .ok (.goto 4, 3) := by decide +kernel
theorem dX11_wordAt_51 : decode cX11_wordAt 51 = .ok (.iconst 0, 1) := by decide +kernel
theorem dX11_wordAt_52 : decode cX11_wordAt 52 = .ok (.istore 6, 2) := by decide +kernel
theorem dX11_wordAt_54 : decode cX11_wordAt 54 = .ok (.iconst 0, 1) := by decide +kernel
theorem dX11_wordAt_55 : decode cX11_wordAt 55 = .ok (.istore 7, 2) := by decide +kernel
theorem dX11_wordAt_57 : decode cX11_wordAt 57 = .ok (.iload 7, 2) := by decide +kernel
theorem dX11_wordAt_59 : decode cX11_wordAt 59 = .ok (.iload 5, 2) := by decide +kernel
theorem dX11_wordAt_61 : decode cX11_wordAt 61 = .ok (.if_icmp .ge 43, 3) := by decide +kernel
theorem dX11_wordAt_64 : decode cX11_wordAt 64 = .ok (.iload 6, 2) := by decide +kernel
theorem dX11_wordAt_66 : decode cX11_wordAt 66 = .ok (.ifCond .eq 38, 3) := by decide +kernel
theorem dX11_wordAt_69 : decode cX11_wordAt 69 = .ok (.ldc 147, 2) := by decide +kernel
theorem dX11_wordAt_71 : decode cX11_wordAt 71 = .ok (.iload 4, 2) := by decide +kernel
theorem dX11_wordAt_73 : decode cX11_wordAt 73 = .ok (.iload 7, 2) := by decide +kernel
theorem dX11_wordAt_75 : decode cX11_wordAt 75 = .ok (.iadd, 1) := by decide +kernel
theorem dX11_wordAt_76 : decode cX11_wordAt 76 = .ok (.invokevirtual 155, 3) := by decide +kernel
theorem dX11_wordAt_79 : decode cX11_wordAt 79 = .ok (.aload_n 0, 1) := by decide +kernel
theorem dX11_wordAt_80 : decode cX11_wordAt 80 = .ok (.getfield 9, 3) := by decide +kernel
theorem dX11_wordAt_83 : decode cX11_wordAt 83 = .ok (.iload_n 1, 1) := by decide +kernel
theorem dX11_wordAt_84 : decode cX11_wordAt 84 = .ok (.iload 7, 2) := by decide +kernel
theorem dX11_wordAt_86 : decode cX11_wordAt 86 = .ok (.iadd, 1) := by decide +kernel
theorem dX11_wordAt_87 : decode cX11_wordAt 87 = .ok (.baload, 1) := by decide +kernel
theorem dX11_wordAt_88 : decode cX11_wordAt 88 = .ok (.if_icmp .ne 7, 3) := by decide +kernel
theorem dX11_wordAt_91 : decode cX11_wordAt 91 = .ok (.iconst 1, 1) := by decide +kernel
theorem dX11_wordAt_92 : decode cX11_wordAt 92 = .ok (.goto 4, 3) := by decide +kernel
theorem dX11_wordAt_95 : decode cX11_wordAt 95 = .ok (.iconst 0, 1) := by decide +kernel
theorem dX11_wordAt_96 : decode cX11_wordAt 96 = .ok (.istore 6, 2) := by decide +kernel
theorem dX11_wordAt_98 : decode cX11_wordAt 98 = .ok (.iinc 7 1, 3) := by decide +kernel
theorem dX11_wordAt_101 : decode cX11_wordAt 101 = .ok (.goto (-44), 3) := by decide +kernel
theorem dX11_wordAt_104 : decode cX11_wordAt 104 = .ok (.iload 6, 2) := by decide +kernel
theorem dX11_wordAt_106 : decode cX11_wordAt 106 = .ok (.ifCond .eq 5, 3) := by decide +kernel
theorem dX11_wordAt_109 : decode cX11_wordAt 109 = .ok (.iload_n 3, 1) := by decide +kernel
theorem dX11_wordAt_110 : decode cX11_wordAt 110 = .ok (.ireturn, 1) := by decide +kernel
theorem dX11_wordAt_111 : decode cX11_wordAt 111 = .ok (.iinc 3 1, 3) := by decide +kernel
theorem dX11_wordAt_114 : decode cX11_wordAt 114 = .ok (.iload 4, 2) := by decide +kernel
theorem dX11_wordAt_116 : decode cX11_wordAt 116 = .ok (.iload 5, 2) := by decide +kernel
theorem dX11_wordAt_118 : decode cX11_wordAt 118 = .ok (.iconst 1, 1) := by decide +kernel
theorem dX11_wordAt_119 : decode cX11_wordAt 119 = .ok (.iadd, 1) := by decide +kernel
theorem dX11_wordAt_120 : decode cX11_wordAt 120 = .ok (.iadd, 1) := by decide +kernel
theorem dX11_wordAt_121 : decode cX11_wordAt 121 = .ok (.istore 4, 2) := by decide +kernel
theorem dX11_wordAt_123 : decode cX11_wordAt 123 = .ok (.goto (-118), 3) := by decide +kernel
theorem dX11_wordAt_126 : decode cX11_wordAt 126 = .ok (.iconst (-1), 1) := by decide +kernel
theorem dX11_wordAt_127 : decode cX11_wordAt 127 = .ok (.ireturn, 1) := by decide +kernel
theorem dX11_next_0 : decode cX11_next 0 = .ok (.aload_n 0, 1) := by decide +kernel
theorem dX11_next_1 : decode cX11_next 1 = .ok (.getfield 159, 3) := by decide +kernel
theorem dX11_next_4 : decode cX11_next 4 = .ok (.aload_n 0, 1) := by decide +kernel
theorem dX11_next_5 : decode cX11_next 5 = .ok (.getfield 140, 3) := by decide +kernel
theorem dX11_next_8 : decode cX11_next 8 = .ok (.if_icmp .ge 30, 3) := by decide +kernel
theorem dX11_next_11 : decode cX11_next 11 = .ok (.aload_n 0, 1) := by decide +kernel
theorem dX11_next_12 : decode cX11_next 12 = .ok (.getfield 9, 3) := by decide +kernel
theorem dX11_next_15 : decode cX11_next 15 = .ok (.aload_n 0, 1) := by decide +kernel
theorem dX11_next_16 : decode cX11_next 16 = .ok (.getfield 159, 3) := by decide +kernel
theorem dX11_next_19 : decode cX11_next 19 = .ok (.baload, 1) := by decide +kernel
theorem dX11_next_20 : decode cX11_next 20 = .ok (.bipush 32, 2) := by decide +kernel
theorem dX11_next_22 : decode cX11_next 22 = .ok (.if_icmp .ne 16, 3) := by decide +kernel
theorem dX11_next_25 : decode cX11_next 25 = .ok (.aload_n 0, 1) := by decide +kernel
theorem dX11_next_26 : decode cX11_next 26 = .ok (.dup, 1) := by decide +kernel
theorem dX11_next_27 : decode cX11_next 27 = .ok (.getfield 159, 3) := by decide +kernel
theorem dX11_next_30 : decode cX11_next 30 = .ok (.iconst 1, 1) := by decide +kernel
theorem dX11_next_31 : decode cX11_next 31 = .ok (.iadd, 1) := by decide +kernel
theorem dX11_next_32 : decode cX11_next 32 = .ok (.putfield 159, 3) := by decide +kernel
theorem dX11_next_35 : decode cX11_next 35 = .ok (.goto (-35), 3) := by decide +kernel
theorem dX11_next_38 : decode cX11_next 38 = .ok (.aload_n 0, 1) := by decide +kernel
theorem dX11_next_39 : decode cX11_next 39 = .ok (.aload_n 0, 1) := by decide +kernel
theorem dX11_next_40 : decode cX11_next 40 = .ok (.getfield 159, 3) := by decide +kernel
theorem dX11_next_43 : decode cX11_next 43 = .ok (.putfield 162, 3) := by decide +kernel
theorem dX11_next_46 : decode cX11_next 46 = .ok (.aload_n 0, 1) := by decide +kernel
theorem dX11_next_47 : decode cX11_next 47 = .ok (.iconst 0, 1) := by decide +kernel
theorem dX11_next_48 : decode cX11_next 48 = .ok (.putfield 165, 3) := by decide +kernel
theorem dX11_next_51 : decode cX11_next 51 = .ok (.aload_n 0, 1) := by decide +kernel
theorem dX11_next_52 : decode cX11_next 52 = .ok (.iconst 0, 1) := by decide +kernel
theorem dX11_next_53 : decode cX11_next 53 = .ok (.putfield 168, 3) := by decide +kernel
theorem dX11_next_56 : decode cX11_next 56 = .ok (.aload_n 0, 1) := by decide +kernel
theorem dX11_next_57 : decode cX11_next 57 = .ok (.getfield 159, 3) := by decide +kernel
theorem dX11_next_60 : decode cX11_next 60 = .ok (.aload_n 0, 1) := by decide +kernel
theorem dX11_next_61 : decode cX11_next 61 = .ok (.getfield 140, 3) := by decide +kernel
theorem dX11_next_64 : decode cX11_next 64 = .ok (.if_icmp .ne 4, 3) := by decide +kernel
theorem dX11_next_67 : decode cX11_next 67 = .ok (.return_, 1) := by decide +kernel
theorem dX11_next_68 : decode cX11_next 68 = .ok (.aload_n 0, 1) := by decide +kernel
theorem dX11_next_69 : decode cX11_next 69 = .ok (.getfield 9, 3) := by decide +kernel
theorem dX11_next_72 : decode cX11_next 72 = .ok (.aload_n 0, 1) := by decide +kernel
theorem dX11_next_73 : decode cX11_next 73 = .ok (.getfield 159, 3) := by decide +kernel
theorem dX11_next_76 : decode cX11_next 76 = .ok (.baload, 1) := by decide +kernel
theorem dX11_next_77 : decode cX11_next 77 = .ok (.istore_n 1, 1) := by decide +kernel
theorem dX11_next_78 : decode cX11_next 78 = .ok (.iload_n 1, 1) := by decide +kernel
theorem dX11_next_79 : decode cX11_next 79 = .ok (.invokestatic 171, 3) := by decide +kernel
theorem dX11_next_82 : decode cX11_next 82 = .ok (.ifCond .eq 66, 3) := by decide +kernel
theorem dX11_next_85 : decode cX11_next 85 = .ok (.aload_n 0, 1) := by decide +kernel
theorem dX11_next_86 : decode cX11_next 86 = .ok (.getfield 159, 3) := by decide +kernel
theorem dX11_next_89 : decode cX11_next 89 = .ok (.aload_n 0, 1) := by decide +kernel
theorem dX11_next_90 : decode cX11_next 90 = .ok (.getfield 140, 3) := by decide +kernel
theorem dX11_next_93 : decode cX11_next 93 = .ok (.if_icmp .ge 31, 3) := by decide +kernel
theorem dX11_next_96 : decode cX11_next 96 = .ok (.aload_n 0, 1) := by decide +kernel
theorem dX11_next_97 : decode cX11_next 97 = .ok (.getfield 9, 3) := by decide +kernel
theorem dX11_next_100 : decode cX11_next 100 = .ok (.aload_n 0, 1) := by decide +kernel
theorem dX11_next_101 : decode cX11_next 101 = .ok (.getfield 159, 3) := by decide +kernel
theorem dX11_next_104 : decode cX11_next 104 = .ok (.baload, 1) := by decide +kernel
theorem dX11_next_105 : decode cX11_next 105 = .ok (.invokestatic 171, 3) := by decide +kernel
theorem dX11_next_108 : decode cX11_next 108 = .ok (.ifCond .eq 16, 3) := by decide +kernel
theorem dX11_next_111 : decode cX11_next 111 = .ok (.aload_n 0, 1) := by decide +kernel
theorem dX11_next_112 : decode cX11_next 112 = .ok (.dup, 1) := by decide +kernel
theorem dX11_next_113 : decode cX11_next 113 = .ok (.getfield 159, 3) := by decide +kernel
theorem dX11_next_116 : decode cX11_next 116 = .ok (.iconst 1, 1) := by decide +kernel
theorem dX11_next_117 : decode cX11_next 117 = .ok (.iadd, 1) := by decide +kernel
theorem dX11_next_118 : decode cX11_next 118 = .ok (.putfield 159, 3) := by decide +kernel
theorem dX11_next_121 : decode cX11_next 121 = .ok (.goto (-36), 3) := by decide +kernel
theorem dX11_next_124 : decode cX11_next 124 = .ok (.aload_n 0, 1) := by decide +kernel
theorem dX11_next_125 : decode cX11_next 125 = .ok (.iconst 2, 1) := by decide +kernel
theorem dX11_next_126 : decode cX11_next 126 = .ok (.putfield 168, 3) := by decide +kernel
theorem dX11_next_129 : decode cX11_next 129 = .ok (.aload_n 0, 1) := by decide +kernel
theorem dX11_next_130 : decode cX11_next 130 = .ok (.aload_n 0, 1) := by decide +kernel
theorem dX11_next_131 : decode cX11_next 131 = .ok (.aload_n 0, 1) := by decide +kernel
theorem dX11_next_132 : decode cX11_next 132 = .ok (.getfield 162, 3) := by decide +kernel
theorem dX11_next_135 : decode cX11_next 135 = .ok (.aload_n 0, 1) := by decide +kernel
theorem dX11_next_136 : decode cX11_next 136 = .ok (.getfield 159, 3) := by decide +kernel
theorem dX11_next_139 : decode cX11_next 139 = .ok (.invokevirtual 175, 3) := by decide +kernel
theorem dX11_next_142 : decode cX11_next 142 = .ok (.putfield 165, 3) := by decide +kernel
theorem dX11_next_145 : decode cX11_next 145 = .ok (.goto 181, 3) := by decide +kernel
theorem dX11_next_148 : decode cX11_next 148 = .ok (.iload_n 1, 1) := by decide +kernel
theorem dX11_next_149 : decode cX11_next 149 = .ok (.invokestatic 179, 3) := by decide +kernel
theorem dX11_next_152 : decode cX11_next 152 = .ok (.ifCond .eq 90, 3) := by decide +kernel
theorem dX11_next_155 : decode cX11_next 155 = .ok (.aload_n 0, 1) := by decide +kernel
theorem dX11_next_156 : decode cX11_next 156 = .ok (.getfield 159, 3) := by decide +kernel
theorem dX11_next_159 : decode cX11_next 159 = .ok (.aload_n 0, 1) := by decide +kernel
theorem dX11_next_160 : decode cX11_next 160 = .ok (.getfield 140, 3) := by decide +kernel
theorem dX11_next_163 : decode cX11_next 163 = .ok (.if_icmp .ge 71, 3) := by decide +kernel
theorem dX11_next_166 : decode cX11_next 166 = .ok (.aload_n 0, 1) := by decide +kernel
theorem dX11_next_167 : decode cX11_next 167 = .ok (.getfield 9, 3) := by decide +kernel
theorem dX11_next_170 : decode cX11_next 170 = .ok (.aload_n 0, 1) := by decide +kernel
theorem dX11_next_171 : decode cX11_next 171 = .ok (.getfield 159, 3) := by decide +kernel
theorem dX11_next_174 : decode cX11_next 174 = .ok (.baload, 1) := by decide +kernel
theorem dX11_next_175 : decode cX11_next 175 = .ok (.invokestatic 179, 3) := by decide +kernel
theorem dX11_next_178 : decode cX11_next 178 = .ok (.ifCond .eq 56, 3) := by decide +kernel
theorem dX11_next_181 : decode cX11_next 181 = .ok (.aload_n 0, 1) := by decide +kernel
theorem dX11_next_182 : decode cX11_next 182 = .ok (.aload_n 0, 1) := by decide +kernel
theorem dX11_next_183 : decode cX11_next 183 = .ok (.getfield 165, 3) := by decide +kernel
theorem dX11_next_186 : decode cX11_next 186 = .ok (.ldc 182, 2) := by decide +kernel
theorem dX11_next_188 : decode cX11_next 188 = .ok (.if_icmp .le 10, 3) := by decide +kernel
theorem dX11_next_191 : decode cX11_next 191 = .ok (.aload_n 0, 1) := by decide +kernel
theorem dX11_next_192 : decode cX11_next 192 = .ok (.getfield 165, 3) := by decide +kernel
theorem dX11_next_195 : decode cX11_next 195 = .ok (.goto 23, 3) := by decide +kernel
theorem dX11_next_198 : decode cX11_next 198 = .ok (.bipush 10, 2) := by decide +kernel
theorem dX11_next_200 : decode cX11_next 200 = .ok (.aload_n 0, 1) := by decide +kernel
theorem dX11_next_201 : decode cX11_next 201 = .ok (.getfield 165, 3) := by decide +kernel
theorem dX11_next_204 : decode cX11_next 204 = .ok (.imul, 1) := by decide +kernel
theorem dX11_next_205 : decode cX11_next 205 = .ok (.aload_n 0, 1) := by decide +kernel
theorem dX11_next_206 : decode cX11_next 206 = .ok (.getfield 9, 3) := by decide +kernel
theorem dX11_next_209 : decode cX11_next 209 = .ok (.aload_n 0, 1) := by decide +kernel
theorem dX11_next_210 : decode cX11_next 210 = .ok (.getfield 159, 3) := by decide +kernel
theorem dX11_next_213 : decode cX11_next 213 = .ok (.baload, 1) := by decide +kernel
theorem dX11_next_214 : decode cX11_next 214 = .ok (.iadd, 1) := by decide +kernel
theorem dX11_next_215 : decode cX11_next 215 = .ok (.bipush 48, 2) := by decide +kernel
theorem dX11_next_217 : decode cX11_next 217 = .ok (.isub, 1) := by decide +kernel
theorem dX11_next_218 : decode cX11_next 218 = .ok (.putfield 165, 3) := by decide +kernel
theorem dX11_next_221 : decode cX11_next 221 = .ok (.aload_n 0, 1) := by decide +kernel
theorem dX11_next_222 : decode cX11_next 222 = .ok (.dup, 1) := by decide +kernel
theorem dX11_next_223 : decode cX11_next 223 = .ok (.getfield 159, 3) := by decide +kernel
theorem dX11_next_226 : decode cX11_next 226 = .ok (.iconst 1, 1) := by decide +kernel
theorem dX11_next_227 : decode cX11_next 227 = .ok (.iadd, 1) := by decide +kernel
theorem dX11_next_228 : decode cX11_next 228 = .ok (.putfield 159, 3) := by decide +kernel
theorem dX11_next_231 : decode cX11_next 231 = .ok (.goto (-76), 3) := by decide +kernel
theorem dX11_next_234 : decode cX11_next 234 = .ok (.aload_n 0, 1) := by decide +kernel
theorem dX11_next_235 : decode cX11_next 235 = .ok (.iconst 1, 1) := by decide +kernel
theorem dX11_next_236 : decode cX11_next 236 = .ok (.putfield 168, 3) := by decide +kernel
theorem dX11_next_239 : decode cX11_next 239 = .ok (.goto 87, 3) := by decide +kernel
theorem dX11_next_242 : decode cX11_next 242 = .ok (.aload_n 0, 1) := by decide +kernel
theorem dX11_next_243 : decode cX11_next 243 = .ok (.iload_n 1, 1) := by decide +kernel
theorem dX11_next_244 : decode cX11_next 244 = .ok (.bipush 43, 2) := by decide +kernel
theorem dX11_next_246 : decode cX11_next 246 = .ok (.if_icmp .eq 57, 3) := by decide +kernel
theorem dX11_next_249 : decode cX11_next 249 = .ok (.iload_n 1, 1) := by decide +kernel
theorem dX11_next_250 : decode cX11_next 250 = .ok (.bipush 45, 2) := by decide +kernel
theorem dX11_next_252 : decode cX11_next 252 = .ok (.if_icmp .eq 51, 3) := by decide +kernel
theorem dX11_next_255 : decode cX11_next 255 = .ok (.iload_n 1, 1) := by decide +kernel
theorem dX11_next_256 : decode cX11_next 256 = .ok (.bipush 42, 2) := by decide +kernel
theorem dX11_next_258 : decode cX11_next 258 = .ok (.if_icmp .eq 45, 3) := by decide +kernel
theorem dX11_next_261 : decode cX11_next 261 = .ok (.iload_n 1, 1) := by decide +kernel
theorem dX11_next_262 : decode cX11_next 262 = .ok (.bipush 47, 2) := by decide +kernel
theorem dX11_next_264 : decode cX11_next 264 = .ok (.if_icmp .eq 39, 3) := by decide +kernel
theorem dX11_next_267 : decode cX11_next 267 = .ok (.iload_n 1, 1) := by decide +kernel
theorem dX11_next_268 : decode cX11_next 268 = .ok (.bipush 40, 2) := by decide +kernel
theorem dX11_next_270 : decode cX11_next 270 = .ok (.if_icmp .eq 33, 3) := by decide +kernel
theorem dX11_next_273 : decode cX11_next 273 = .ok (.iload_n 1, 1) := by decide +kernel
theorem dX11_next_274 : decode cX11_next 274 = .ok (.bipush 41, 2) := by decide +kernel
theorem dX11_next_276 : decode cX11_next 276 = .ok (.if_icmp .eq 27, 3) := by decide +kernel
theorem dX11_next_279 : decode cX11_next 279 = .ok (.iload_n 1, 1) := by decide +kernel
theorem dX11_next_280 : decode cX11_next 280 = .ok (.bipush 44, 2) := by decide +kernel
theorem dX11_next_282 : decode cX11_next 282 = .ok (.if_icmp .eq 21, 3) := by decide +kernel
theorem dX11_next_285 : decode cX11_next 285 = .ok (.iload_n 1, 1) := by decide +kernel
theorem dX11_next_286 : decode cX11_next 286 = .ok (.bipush 60, 2) := by decide +kernel
theorem dX11_next_288 : decode cX11_next 288 = .ok (.if_icmp .eq 15, 3) := by decide +kernel
theorem dX11_next_291 : decode cX11_next 291 = .ok (.iload_n 1, 1) := by decide +kernel
theorem dX11_next_292 : decode cX11_next 292 = .ok (.bipush 62, 2) := by decide +kernel
theorem dX11_next_294 : decode cX11_next 294 = .ok (.if_icmp .eq 9, 3) := by decide +kernel
theorem dX11_next_297 : decode cX11_next 297 = .ok (.iload_n 1, 1) := by decide +kernel
theorem dX11_next_298 : decode cX11_next 298 = .ok (.bipush 61, 2) := by decide +kernel
theorem dX11_next_300 : decode cX11_next 300 = .ok (.if_icmp .ne 7, 3) := by decide +kernel
theorem dX11_next_303 : decode cX11_next 303 = .ok (.iconst 3, 1) := by decide +kernel
theorem dX11_next_304 : decode cX11_next 304 = .ok (.goto 4, 3) := by decide +kernel
theorem dX11_next_307 : decode cX11_next 307 = .ok (.iconst 4, 1) := by decide +kernel
theorem dX11_next_308 : decode cX11_next 308 = .ok (.putfield 168, 3) := by decide +kernel
theorem dX11_next_311 : decode cX11_next 311 = .ok (.aload_n 0, 1) := by decide +kernel
theorem dX11_next_312 : decode cX11_next 312 = .ok (.iload_n 1, 1) := by decide +kernel
theorem dX11_next_313 : decode cX11_next 313 = .ok (.putfield 165, 3) := by decide +kernel
theorem dX11_next_316 : decode cX11_next 316 = .ok (.aload_n 0, 1) := by decide +kernel
theorem dX11_next_317 : decode cX11_next 317 = .ok (.dup, 1) := by decide +kernel
theorem dX11_next_318 : decode cX11_next 318 = .ok (.getfield 159, 3) := by decide +kernel
theorem dX11_next_321 : decode cX11_next 321 = .ok (.iconst 1, 1) := by decide +kernel
theorem dX11_next_322 : decode cX11_next 322 = .ok (.iadd, 1) := by decide +kernel
theorem dX11_next_323 : decode cX11_next 323 = .ok (.putfield 159, 3) := by decide +kernel
theorem dX11_next_326 : decode cX11_next 326 = .ok (.return_, 1) := by decide +kernel
theorem dX11_isSign_0 : decode cX11_isSign 0 = .ok (.aload_n 0, 1) := by decide +kernel
theorem dX11_isSign_1 : decode cX11_isSign 1 = .ok (.getfield 168, 3) := by decide +kernel
theorem dX11_isSign_4 : decode cX11_isSign 4 = .ok (.iconst 3, 1) := by decide +kernel
theorem dX11_isSign_5 : decode cX11_isSign 5 = .ok (.if_icmp .ne 15, 3) := by decide +kernel
theorem dX11_isSign_8 : decode cX11_isSign 8 = .ok (.aload_n 0, 1) := by decide +kernel
theorem dX11_isSign_9 : decode cX11_isSign 9 = .ok (.getfield 165, 3) := by decide +kernel
theorem dX11_isSign_12 : decode cX11_isSign 12 = .ok (.iload_n 1, 1) := by decide +kernel
theorem dX11_isSign_13 : decode cX11_isSign 13 = .ok (.if_icmp .ne 7, 3) := by decide +kernel
theorem dX11_isSign_16 : decode cX11_isSign 16 = .ok (.iconst 1, 1) := by decide +kernel
theorem dX11_isSign_17 : decode cX11_isSign 17 = .ok (.goto 4, 3) := by decide +kernel
theorem dX11_isSign_20 : decode cX11_isSign 20 = .ok (.iconst 0, 1) := by decide +kernel
theorem dX11_isSign_21 : decode cX11_isSign 21 = .ok (.ireturn, 1) := by decide +kernel
theorem dX11_isWord_0 : decode cX11_isWord 0 = .ok (.aload_n 0, 1) := by decide +kernel
theorem dX11_isWord_1 : decode cX11_isWord 1 = .ok (.getfield 168, 3) := by decide +kernel
theorem dX11_isWord_4 : decode cX11_isWord 4 = .ok (.iconst 2, 1) := by decide +kernel
theorem dX11_isWord_5 : decode cX11_isWord 5 = .ok (.if_icmp .ne 15, 3) := by decide +kernel
theorem dX11_isWord_8 : decode cX11_isWord 8 = .ok (.aload_n 0, 1) := by decide +kernel
theorem dX11_isWord_9 : decode cX11_isWord 9 = .ok (.getfield 165, 3) := by decide +kernel
theorem dX11_isWord_12 : decode cX11_isWord 12 = .ok (.iload_n 1, 1) := by decide +kernel
theorem dX11_isWord_13 : decode cX11_isWord 13 = .ok (.if_icmp .ne 7, 3) := by decide +kernel
theorem dX11_isWord_16 : decode cX11_isWord 16 = .ok (.iconst 1, 1) := by decide +kernel
theorem dX11_isWord_17 : decode cX11_isWord 17 = .ok (.goto 4, 3) := by decide +kernel
theorem dX11_isWord_20 : decode cX11_isWord 20 = .ok (.iconst 0, 1) := by decide +kernel
theorem dX11_isWord_21 : decode cX11_isWord 21 = .ok (.ireturn, 1) := by decide +kernel
theorem dX11_push_0 : decode cX11_push 0 = .ok (.aload_n 0, 1) := by decide +kernel
theorem dX11_push_1 : decode cX11_push 1 = .ok (.getfield 13, 3) := by decide +kernel
theorem dX11_push_4 : decode cX11_push 4 = .ok (.aload_n 0, 1) := by decide +kernel
theorem dX11_push_5 : decode cX11_push 5 = .ok (.getfield 183, 3) := by decide +kernel
theorem dX11_push_8 : decode cX11_push 8 = .ok (.iload_n 1, 1) := by decide +kernel
theorem dX11_push_9 : decode cX11_push 9 = .ok (.iastore, 1) := by decide +kernel
theorem dX11_push_10 : decode cX11_push 10 = .ok (.aload_n 0, 1) := by decide +kernel
theorem dX11_push_11 : decode cX11_push 11 = .ok (.dup, 1) := by decide +kernel
theorem dX11_push_12 : decode cX11_push 12 = .ok (.getfield 183, 3) := by decide +kernel
theorem dX11_push_15 : decode cX11_push 15 = .ok (.iconst 1, 1) := by decide +kernel
theorem dX11_push_16 : decode cX11_push 16 = .ok (.iadd, 1) := by decide +kernel
theorem dX11_push_17 : decode cX11_push 17 = .ok (.putfield 183, 3) := by decide +kernel
theorem dX11_push_20 : decode cX11_push 20 = .ok (.return_, 1) := by decide +kernel
theorem dX11_emits_0 : decode cX11_emits 0 = .ok (.aload_n 0, 1) := by decide +kernel
theorem dX11_emits_1 : decode cX11_emits 1 = .ok (.getfield 17, 3) := by decide +kernel
theorem dX11_emits_4 : decode cX11_emits 4 = .ok (.aload_n 0, 1) := by decide +kernel
theorem dX11_emits_5 : decode cX11_emits 5 = .ok (.getfield 186, 3) := by decide +kernel
theorem dX11_emits_8 : decode cX11_emits 8 = .ok (.iload_n 1, 1) := by decide +kernel
theorem dX11_emits_9 : decode cX11_emits 9 = .ok (.iastore, 1) := by decide +kernel
theorem dX11_emits_10 : decode cX11_emits 10 = .ok (.aload_n 0, 1) := by decide +kernel
theorem dX11_emits_11 : decode cX11_emits 11 = .ok (.getfield 20, 3) := by decide +kernel
theorem dX11_emits_14 : decode cX11_emits 14 = .ok (.aload_n 0, 1) := by decide +kernel
theorem dX11_emits_15 : decode cX11_emits 15 = .ok (.getfield 186, 3) := by decide +kernel
theorem dX11_emits_18 : decode cX11_emits 18 = .ok (.iload_n 2, 1) := by decide +kernel
theorem dX11_emits_19 : decode cX11_emits 19 = .ok (.iastore, 1) := by decide +kernel
theorem dX11_emits_20 : decode cX11_emits 20 = .ok (.aload_n 0, 1) := by decide +kernel
theorem dX11_emits_21 : decode cX11_emits 21 = .ok (.dup, 1) := by decide +kernel
theorem dX11_emits_22 : decode cX11_emits 22 = .ok (.getfield 186, 3) := by decide +kernel
theorem dX11_emits_25 : decode cX11_emits 25 = .ok (.iconst 1, 1) := by decide +kernel
theorem dX11_emits_26 : decode cX11_emits 26 = .ok (.iadd, 1) := by decide +kernel
theorem dX11_emits_27 : decode cX11_emits 27 = .ok (.putfield 186, 3) := by decide +kernel
theorem dX11_emits_30 : decode cX11_emits 30 = .ok (.return_, 1) := by decide +kernel
theorem dX11_takes_0 : decode cX11_takes 0 = .ok (.aload_n 0, 1) := by decide +kernel
theorem dX11_takes_1 : decode cX11_takes 1 = .ok (.invokevirtual 189, 3) := by decide +kernel
theorem dX11_takes_4 : decode cX11_takes 4 = .ok (.iconst 1, 1) := by decide +kernel
theorem dX11_takes_5 : decode cX11_takes 5 = .ok (.ireturn, 1) := by decide +kernel
theorem dX11_deeper_0 : decode cX11_deeper 0 = .ok (.aload_n 0, 1) := by decide +kernel
theorem dX11_deeper_1 : decode cX11_deeper 1 = .ok (.getfield 192, 3) := by decide +kernel
theorem dX11_deeper_4 : decode cX11_deeper 4 = .ok (.bipush 10, 2) := by decide +kernel
theorem dX11_deeper_6 : decode cX11_deeper 6 = .ok (.if_icmp .ne 5, 3) := by decide +kernel
theorem dX11_deeper_9 : decode cX11_deeper 9 = .ok (.iconst 0, 1) := by decide +kernel
theorem dX11_deeper_10 : decode cX11_deeper 10 = .ok (.ireturn, 1) := by decide +kernel
theorem dX11_deeper_11 : decode cX11_deeper 11 = .ok (.aload_n 0, 1) := by decide +kernel
theorem dX11_deeper_12 : decode cX11_deeper 12 = .ok (.dup, 1) := by decide +kernel
theorem dX11_deeper_13 : decode cX11_deeper 13 = .ok (.getfield 192, 3) := by decide +kernel
theorem dX11_deeper_16 : decode cX11_deeper 16 = .ok (.iconst 1, 1) := by decide +kernel
theorem dX11_deeper_17 : decode cX11_deeper 17 = .ok (.iadd, 1) := by decide +kernel
theorem dX11_deeper_18 : decode cX11_deeper 18 = .ok (.putfield 192, 3) := by decide +kernel
theorem dX11_deeper_21 : decode cX11_deeper 21 = .ok (.aload_n 0, 1) := by decide +kernel
theorem dX11_deeper_22 : decode cX11_deeper 22 = .ok (.bipush 6, 2) := by decide +kernel
theorem dX11_deeper_24 : decode cX11_deeper 24 = .ok (.invokevirtual 195, 3) := by decide +kernel
theorem dX11_deeper_27 : decode cX11_deeper 27 = .ok (.iconst 1, 1) := by decide +kernel
theorem dX11_deeper_28 : decode cX11_deeper 28 = .ok (.ireturn, 1) := by decide +kernel
theorem dX11_steps_0 : decode cX11_steps 0 = .ok (.iload_n 1, 1) := by decide +kernel
theorem dX11_steps_1 : decode cX11_steps 1 = .ok (.sipush 1000, 3) := by decide +kernel
theorem dX11_steps_4 : decode cX11_steps 4 = .ok (.if_icmp .lt 15, 3) := by decide +kernel
theorem dX11_steps_7 : decode cX11_steps 7 = .ok (.aload_n 0, 1) := by decide +kernel
theorem dX11_steps_8 : decode cX11_steps 8 = .ok (.iload_n 1, 1) := by decide +kernel
theorem dX11_steps_9 : decode cX11_steps 9 = .ok (.sipush 1000, 3) := by decide +kernel
theorem dX11_steps_12 : decode cX11_steps 12 = .ok (.isub, 1) := by decide +kernel
theorem dX11_steps_13 : decode cX11_steps 13 = .ok (.iconst 0, 1) := by decide +kernel
theorem dX11_steps_14 : decode cX11_steps 14 = .ok (.invokevirtual 199, 3) := by decide +kernel
theorem dX11_steps_17 : decode cX11_steps 17 = .ok (.iconst 1, 1) := by decide +kernel
theorem dX11_steps_18 : decode cX11_steps 18 = .ok (.ireturn, 1) := by decide +kernel
theorem dX11_steps_19 : decode cX11_steps 19 = .ok (.iload_n 1, 1) := by decide +kernel
theorem dX11_steps_20 : decode cX11_steps 20 = .ok (.sipush 300, 3) := by decide +kernel
theorem dX11_steps_23 : decode cX11_steps 23 = .ok (.if_icmp .lt 28, 3) := by decide +kernel
theorem dX11_steps_26 : decode cX11_steps 26 = .ok (.aload_n 0, 1) := by decide +kernel
theorem dX11_steps_27 : decode cX11_steps 27 = .ok (.iload_n 1, 1) := by decide +kernel
theorem dX11_steps_28 : decode cX11_steps 28 = .ok (.sipush 300, 3) := by decide +kernel
theorem dX11_steps_31 : decode cX11_steps 31 = .ok (.isub, 1) := by decide +kernel
theorem dX11_steps_32 : decode cX11_steps 32 = .ok (.invokevirtual 203, 3) := by decide +kernel
theorem dX11_steps_35 : decode cX11_steps 35 = .ok (.ifCond .eq 14, 3) := by decide +kernel
theorem dX11_steps_38 : decode cX11_steps 38 = .ok (.aload_n 0, 1) := by decide +kernel
theorem dX11_steps_39 : decode cX11_steps 39 = .ok (.invokevirtual 206, 3) := by decide +kernel
theorem dX11_steps_42 : decode cX11_steps 42 = .ok (.ifCond .eq 7, 3) := by decide +kernel
theorem dX11_steps_45 : decode cX11_steps 45 = .ok (.iconst 1, 1) := by decide +kernel
theorem dX11_steps_46 : decode cX11_steps 46 = .ok (.goto 4, 3) := by decide +kernel
theorem dX11_steps_49 : decode cX11_steps 49 = .ok (.iconst 0, 1) := by decide +kernel
theorem dX11_steps_50 : decode cX11_steps 50 = .ok (.ireturn, 1) := by decide +kernel
theorem dX11_steps_51 : decode cX11_steps 51 = .ok (.iload_n 1, 1) := by decide +kernel
theorem dX11_steps_52 : decode cX11_steps 52 = .ok (.bipush 100, 2) := by decide +kernel
theorem dX11_steps_54 : decode cX11_steps 54 = .ok (.if_icmp .lt 27, 3) := by decide +kernel
theorem dX11_steps_57 : decode cX11_steps 57 = .ok (.aload_n 0, 1) := by decide +kernel
theorem dX11_steps_58 : decode cX11_steps 58 = .ok (.iload_n 1, 1) := by decide +kernel
theorem dX11_steps_59 : decode cX11_steps 59 = .ok (.bipush 100, 2) := by decide +kernel
theorem dX11_steps_61 : decode cX11_steps 61 = .ok (.isub, 1) := by decide +kernel
theorem dX11_steps_62 : decode cX11_steps 62 = .ok (.invokevirtual 210, 3) := by decide +kernel
theorem dX11_steps_65 : decode cX11_steps 65 = .ok (.ifCond .eq 14, 3) := by decide +kernel
theorem dX11_steps_68 : decode cX11_steps 68 = .ok (.aload_n 0, 1) := by decide +kernel
theorem dX11_steps_69 : decode cX11_steps 69 = .ok (.invokevirtual 206, 3) := by decide +kernel
theorem dX11_steps_72 : decode cX11_steps 72 = .ok (.ifCond .eq 7, 3) := by decide +kernel
theorem dX11_steps_75 : decode cX11_steps 75 = .ok (.iconst 1, 1) := by decide +kernel
theorem dX11_steps_76 : decode cX11_steps 76 = .ok (.goto 4, 3) := by decide +kernel
theorem dX11_steps_79 : decode cX11_steps 79 = .ok (.iconst 0, 1) := by decide +kernel
theorem dX11_steps_80 : decode cX11_steps 80 = .ok (.ireturn, 1) := by decide +kernel
theorem dX11_steps_81 : decode cX11_steps 81 = .ok (.iload_n 1, 1) := by decide +kernel
theorem dX11_steps_82 : decode cX11_steps 82 = .ok (.tableswitch 112 0 6 #[42, 55, 62, 75, 82, 95, 100], 42) := by decide +kernel
theorem dX11_steps_124 : decode cX11_steps 124 = .ok (.aload_n 0, 1) := by decide +kernel
theorem dX11_steps_125 : decode cX11_steps 125 = .ok (.getfield 168, 3) := by decide +kernel
theorem dX11_steps_128 : decode cX11_steps 128 = .ok (.ifCond .ne 7, 3) := by decide +kernel
theorem dX11_steps_131 : decode cX11_steps 131 = .ok (.iconst 1, 1) := by decide +kernel
theorem dX11_steps_132 : decode cX11_steps 132 = .ok (.goto 4, 3) := by decide +kernel
theorem dX11_steps_135 : decode cX11_steps 135 = .ok (.iconst 0, 1) := by decide +kernel
theorem dX11_steps_136 : decode cX11_steps 136 = .ok (.ireturn, 1) := by decide +kernel
theorem dX11_steps_137 : decode cX11_steps 137 = .ok (.aload_n 0, 1) := by decide +kernel
theorem dX11_steps_138 : decode cX11_steps 138 = .ok (.iconst 2, 1) := by decide +kernel
theorem dX11_steps_139 : decode cX11_steps 139 = .ok (.iconst 3, 1) := by decide +kernel
theorem dX11_steps_140 : decode cX11_steps 140 = .ok (.invokevirtual 213, 3) := by decide +kernel
theorem dX11_steps_143 : decode cX11_steps 143 = .ok (.ireturn, 1) := by decide +kernel
theorem dX11_steps_144 : decode cX11_steps 144 = .ok (.aload_n 0, 1) := by decide +kernel
theorem dX11_steps_145 : decode cX11_steps 145 = .ok (.bipush 43, 2) := by decide +kernel
theorem dX11_steps_147 : decode cX11_steps 147 = .ok (.iconst 2, 1) := by decide +kernel
theorem dX11_steps_148 : decode cX11_steps 148 = .ok (.bipush 45, 2) := by decide +kernel
theorem dX11_steps_150 : decode cX11_steps 150 = .ok (.iconst 3, 1) := by decide +kernel
theorem dX11_steps_151 : decode cX11_steps 151 = .ok (.iconst 2, 1) := by decide +kernel
theorem dX11_steps_152 : decode cX11_steps 152 = .ok (.iconst 3, 1) := by decide +kernel
theorem dX11_steps_153 : decode cX11_steps 153 = .ok (.invokevirtual 217, 3) := by decide +kernel
theorem dX11_steps_156 : decode cX11_steps 156 = .ok (.ireturn, 1) := by decide +kernel
theorem dX11_steps_157 : decode cX11_steps 157 = .ok (.aload_n 0, 1) := by decide +kernel
theorem dX11_steps_158 : decode cX11_steps 158 = .ok (.iconst 4, 1) := by decide +kernel
theorem dX11_steps_159 : decode cX11_steps 159 = .ok (.iconst 5, 1) := by decide +kernel
theorem dX11_steps_160 : decode cX11_steps 160 = .ok (.invokevirtual 213, 3) := by decide +kernel
theorem dX11_steps_163 : decode cX11_steps 163 = .ok (.ireturn, 1) := by decide +kernel
theorem dX11_steps_164 : decode cX11_steps 164 = .ok (.aload_n 0, 1) := by decide +kernel
theorem dX11_steps_165 : decode cX11_steps 165 = .ok (.bipush 42, 2) := by decide +kernel
theorem dX11_steps_167 : decode cX11_steps 167 = .ok (.iconst 4, 1) := by decide +kernel
theorem dX11_steps_168 : decode cX11_steps 168 = .ok (.bipush 47, 2) := by decide +kernel
theorem dX11_steps_170 : decode cX11_steps 170 = .ok (.iconst 5, 1) := by decide +kernel
theorem dX11_steps_171 : decode cX11_steps 171 = .ok (.iconst 4, 1) := by decide +kernel
theorem dX11_steps_172 : decode cX11_steps 172 = .ok (.iconst 5, 1) := by decide +kernel
theorem dX11_steps_173 : decode cX11_steps 173 = .ok (.invokevirtual 217, 3) := by decide +kernel
theorem dX11_steps_176 : decode cX11_steps 176 = .ok (.ireturn, 1) := by decide +kernel
theorem dX11_steps_177 : decode cX11_steps 177 = .ok (.aload_n 0, 1) := by decide +kernel
theorem dX11_steps_178 : decode cX11_steps 178 = .ok (.invokevirtual 221, 3) := by decide +kernel
theorem dX11_steps_181 : decode cX11_steps 181 = .ok (.ireturn, 1) := by decide +kernel
theorem dX11_steps_182 : decode cX11_steps 182 = .ok (.aload_n 0, 1) := by decide +kernel
theorem dX11_steps_183 : decode cX11_steps 183 = .ok (.dup, 1) := by decide +kernel
theorem dX11_steps_184 : decode cX11_steps 184 = .ok (.getfield 192, 3) := by decide +kernel
theorem dX11_steps_187 : decode cX11_steps 187 = .ok (.iconst 1, 1) := by decide +kernel
theorem dX11_steps_188 : decode cX11_steps 188 = .ok (.isub, 1) := by decide +kernel
theorem dX11_steps_189 : decode cX11_steps 189 = .ok (.putfield 192, 3) := by decide +kernel
theorem dX11_steps_192 : decode cX11_steps 192 = .ok (.iconst 1, 1) := by decide +kernel
theorem dX11_steps_193 : decode cX11_steps 193 = .ok (.ireturn, 1) := by decide +kernel
theorem dX11_steps_194 : decode cX11_steps 194 = .ok (.aload_n 0, 1) := by decide +kernel
theorem dX11_steps_195 : decode cX11_steps 195 = .ok (.invokevirtual 224, 3) := by decide +kernel
theorem dX11_steps_198 : decode cX11_steps 198 = .ok (.ireturn, 1) := by decide +kernel
theorem dX11_both_0 : decode cX11_both 0 = .ok (.aload_n 0, 1) := by decide +kernel
theorem dX11_both_1 : decode cX11_both 1 = .ok (.iload_n 1, 1) := by decide +kernel
theorem dX11_both_2 : decode cX11_both 2 = .ok (.invokevirtual 195, 3) := by decide +kernel
theorem dX11_both_5 : decode cX11_both 5 = .ok (.aload_n 0, 1) := by decide +kernel
theorem dX11_both_6 : decode cX11_both 6 = .ok (.iload_n 2, 1) := by decide +kernel
theorem dX11_both_7 : decode cX11_both 7 = .ok (.invokevirtual 195, 3) := by decide +kernel
theorem dX11_both_10 : decode cX11_both 10 = .ok (.iconst 1, 1) := by decide +kernel
theorem dX11_both_11 : decode cX11_both 11 = .ok (.ireturn, 1) := by decide +kernel
theorem dX11_more_0 : decode cX11_more 0 = .ok (.aload_n 0, 1) := by decide +kernel
theorem dX11_more_1 : decode cX11_more 1 = .ok (.iload_n 1, 1) := by decide +kernel
theorem dX11_more_2 : decode cX11_more 2 = .ok (.invokevirtual 210, 3) := by decide +kernel
theorem dX11_more_5 : decode cX11_more 5 = .ok (.istore 7, 2) := by decide +kernel
theorem dX11_more_7 : decode cX11_more 7 = .ok (.iload 7, 2) := by decide +kernel
theorem dX11_more_9 : decode cX11_more 9 = .ok (.ifCond .ne 13, 3) := by decide +kernel
theorem dX11_more_12 : decode cX11_more 12 = .ok (.aload_n 0, 1) := by decide +kernel
theorem dX11_more_13 : decode cX11_more 13 = .ok (.iload_n 3, 1) := by decide +kernel
theorem dX11_more_14 : decode cX11_more 14 = .ok (.invokevirtual 210, 3) := by decide +kernel
theorem dX11_more_17 : decode cX11_more 17 = .ok (.ifCond .ne 5, 3) := by decide +kernel
theorem dX11_more_20 : decode cX11_more 20 = .ok (.iconst 1, 1) := by decide +kernel
theorem dX11_more_21 : decode cX11_more 21 = .ok (.ireturn, 1) := by decide +kernel
theorem dX11_more_22 : decode cX11_more 22 = .ok (.aload_n 0, 1) := by decide +kernel
theorem dX11_more_23 : decode cX11_more 23 = .ok (.invokevirtual 189, 3) := by decide +kernel
theorem dX11_more_26 : decode cX11_more 26 = .ok (.aload_n 0, 1) := by decide +kernel
theorem dX11_more_27 : decode cX11_more 27 = .ok (.iload 5, 2) := by decide +kernel
theorem dX11_more_29 : decode cX11_more 29 = .ok (.invokevirtual 195, 3) := by decide +kernel
theorem dX11_more_32 : decode cX11_more 32 = .ok (.aload_n 0, 1) := by decide +kernel
theorem dX11_more_33 : decode cX11_more 33 = .ok (.sipush 1000, 3) := by decide +kernel
theorem dX11_more_36 : decode cX11_more 36 = .ok (.iload 7, 2) := by decide +kernel
theorem dX11_more_38 : decode cX11_more 38 = .ok (.ifCond .eq 7, 3) := by decide +kernel
theorem dX11_more_41 : decode cX11_more 41 = .ok (.iload_n 2, 1) := by decide +kernel
theorem dX11_more_42 : decode cX11_more 42 = .ok (.goto 5, 3) := by decide +kernel
theorem dX11_more_45 : decode cX11_more 45 = .ok (.iload 4, 2) := by decide +kernel
theorem dX11_more_47 : decode cX11_more 47 = .ok (.iadd, 1) := by decide +kernel
theorem dX11_more_48 : decode cX11_more 48 = .ok (.invokevirtual 195, 3) := by decide +kernel
theorem dX11_more_51 : decode cX11_more 51 = .ok (.aload_n 0, 1) := by decide +kernel
theorem dX11_more_52 : decode cX11_more 52 = .ok (.iload 6, 2) := by decide +kernel
theorem dX11_more_54 : decode cX11_more 54 = .ok (.invokevirtual 195, 3) := by decide +kernel
theorem dX11_more_57 : decode cX11_more 57 = .ok (.iconst 1, 1) := by decide +kernel
theorem dX11_more_58 : decode cX11_more 58 = .ok (.ireturn, 1) := by decide +kernel
theorem dX11_compares_0 : decode cX11_compares 0 = .ok (.aload_n 0, 1) := by decide +kernel
theorem dX11_compares_1 : decode cX11_compares 1 = .ok (.bipush 60, 2) := by decide +kernel
theorem dX11_compares_3 : decode cX11_compares 3 = .ok (.invokevirtual 210, 3) := by decide +kernel
theorem dX11_compares_6 : decode cX11_compares 6 = .ok (.ifCond .ne 23, 3) := by decide +kernel
theorem dX11_compares_9 : decode cX11_compares 9 = .ok (.aload_n 0, 1) := by decide +kernel
theorem dX11_compares_10 : decode cX11_compares 10 = .ok (.bipush 62, 2) := by decide +kernel
theorem dX11_compares_12 : decode cX11_compares 12 = .ok (.invokevirtual 210, 3) := by decide +kernel
theorem dX11_compares_15 : decode cX11_compares 15 = .ok (.ifCond .ne 14, 3) := by decide +kernel
theorem dX11_compares_18 : decode cX11_compares 18 = .ok (.aload_n 0, 1) := by decide +kernel
theorem dX11_compares_19 : decode cX11_compares 19 = .ok (.bipush 61, 2) := by decide +kernel
theorem dX11_compares_21 : decode cX11_compares 21 = .ok (.invokevirtual 210, 3) := by decide +kernel
theorem dX11_compares_24 : decode cX11_compares 24 = .ok (.ifCond .ne 5, 3) := by decide +kernel
theorem dX11_compares_27 : decode cX11_compares 27 = .ok (.iconst 0, 1) := by decide +kernel
theorem dX11_compares_28 : decode cX11_compares 28 = .ok (.ireturn, 1) := by decide +kernel
theorem dX11_compares_29 : decode cX11_compares 29 = .ok (.aload_n 0, 1) := by decide +kernel
theorem dX11_compares_30 : decode cX11_compares 30 = .ok (.sipush 1000, 3) := by decide +kernel
theorem dX11_compares_33 : decode cX11_compares 33 = .ok (.aload_n 0, 1) := by decide +kernel
theorem dX11_compares_34 : decode cX11_compares 34 = .ok (.bipush 60, 2) := by decide +kernel
theorem dX11_compares_36 : decode cX11_compares 36 = .ok (.invokevirtual 210, 3) := by decide +kernel
theorem dX11_compares_39 : decode cX11_compares 39 = .ok (.ifCond .eq 8, 3) := by decide +kernel
theorem dX11_compares_42 : decode cX11_compares 42 = .ok (.bipush 11, 2) := by decide +kernel
theorem dX11_compares_44 : decode cX11_compares 44 = .ok (.goto 19, 3) := by decide +kernel
theorem dX11_compares_47 : decode cX11_compares 47 = .ok (.aload_n 0, 1) := by decide +kernel
theorem dX11_compares_48 : decode cX11_compares 48 = .ok (.bipush 62, 2) := by decide +kernel
theorem dX11_compares_50 : decode cX11_compares 50 = .ok (.invokevirtual 210, 3) := by decide +kernel
theorem dX11_compares_53 : decode cX11_compares 53 = .ok (.ifCond .eq 8, 3) := by decide +kernel
theorem dX11_compares_56 : decode cX11_compares 56 = .ok (.bipush 12, 2) := by decide +kernel
theorem dX11_compares_58 : decode cX11_compares 58 = .ok (.goto 5, 3) := by decide +kernel
theorem dX11_compares_61 : decode cX11_compares 61 = .ok (.bipush 13, 2) := by decide +kernel
theorem dX11_compares_63 : decode cX11_compares 63 = .ok (.iadd, 1) := by decide +kernel
theorem dX11_compares_64 : decode cX11_compares 64 = .ok (.invokevirtual 195, 3) := by decide +kernel
theorem dX11_compares_67 : decode cX11_compares 67 = .ok (.aload_n 0, 1) := by decide +kernel
theorem dX11_compares_68 : decode cX11_compares 68 = .ok (.iconst 1, 1) := by decide +kernel
theorem dX11_compares_69 : decode cX11_compares 69 = .ok (.invokevirtual 195, 3) := by decide +kernel
theorem dX11_compares_72 : decode cX11_compares 72 = .ok (.aload_n 0, 1) := by decide +kernel
theorem dX11_compares_73 : decode cX11_compares 73 = .ok (.sipush 307, 3) := by decide +kernel
theorem dX11_compares_76 : decode cX11_compares 76 = .ok (.invokevirtual 195, 3) := by decide +kernel
theorem dX11_compares_79 : decode cX11_compares 79 = .ok (.aload_n 0, 1) := by decide +kernel
theorem dX11_compares_80 : decode cX11_compares 80 = .ok (.iconst 1, 1) := by decide +kernel
theorem dX11_compares_81 : decode cX11_compares 81 = .ok (.invokevirtual 195, 3) := by decide +kernel
theorem dX11_compares_84 : decode cX11_compares 84 = .ok (.aload_n 0, 1) := by decide +kernel
theorem dX11_compares_85 : decode cX11_compares 85 = .ok (.sipush 306, 3) := by decide +kernel
theorem dX11_compares_88 : decode cX11_compares 88 = .ok (.invokevirtual 195, 3) := by decide +kernel
theorem dX11_compares_91 : decode cX11_compares 91 = .ok (.aload_n 0, 1) := by decide +kernel
theorem dX11_compares_92 : decode cX11_compares 92 = .ok (.iconst 1, 1) := by decide +kernel
theorem dX11_compares_93 : decode cX11_compares 93 = .ok (.invokevirtual 195, 3) := by decide +kernel
theorem dX11_compares_96 : decode cX11_compares 96 = .ok (.aload_n 0, 1) := by decide +kernel
theorem dX11_compares_97 : decode cX11_compares 97 = .ok (.invokevirtual 206, 3) := by decide +kernel
theorem dX11_compares_100 : decode cX11_compares 100 = .ok (.ireturn, 1) := by decide +kernel
theorem dX11_factor_0 : decode cX11_factor 0 = .ok (.aload_n 0, 1) := by decide +kernel
theorem dX11_factor_1 : decode cX11_factor 1 = .ok (.getfield 168, 3) := by decide +kernel
theorem dX11_factor_4 : decode cX11_factor 4 = .ok (.iconst 1, 1) := by decide +kernel
theorem dX11_factor_5 : decode cX11_factor 5 = .ok (.if_icmp .ne 28, 3) := by decide +kernel
theorem dX11_factor_8 : decode cX11_factor 8 = .ok (.aload_n 0, 1) := by decide +kernel
theorem dX11_factor_9 : decode cX11_factor 9 = .ok (.getfield 165, 3) := by decide +kernel
theorem dX11_factor_12 : decode cX11_factor 12 = .ok (.ldc 227, 2) := by decide +kernel
theorem dX11_factor_14 : decode cX11_factor 14 = .ok (.if_icmp .le 5, 3) := by decide +kernel
theorem dX11_factor_17 : decode cX11_factor 17 = .ok (.iconst 0, 1) := by decide +kernel
theorem dX11_factor_18 : decode cX11_factor 18 = .ok (.ireturn, 1) := by decide +kernel
theorem dX11_factor_19 : decode cX11_factor 19 = .ok (.aload_n 0, 1) := by decide +kernel
theorem dX11_factor_20 : decode cX11_factor 20 = .ok (.iconst 0, 1) := by decide +kernel
theorem dX11_factor_21 : decode cX11_factor 21 = .ok (.aload_n 0, 1) := by decide +kernel
theorem dX11_factor_22 : decode cX11_factor 22 = .ok (.getfield 165, 3) := by decide +kernel
theorem dX11_factor_25 : decode cX11_factor 25 = .ok (.invokevirtual 199, 3) := by decide +kernel
theorem dX11_factor_28 : decode cX11_factor 28 = .ok (.aload_n 0, 1) := by decide +kernel
theorem dX11_factor_29 : decode cX11_factor 29 = .ok (.invokevirtual 206, 3) := by decide +kernel
theorem dX11_factor_32 : decode cX11_factor 32 = .ok (.ireturn, 1) := by decide +kernel
theorem dX11_factor_33 : decode cX11_factor 33 = .ok (.aload_n 0, 1) := by decide +kernel
theorem dX11_factor_34 : decode cX11_factor 34 = .ok (.iconst 0, 1) := by decide +kernel
theorem dX11_factor_35 : decode cX11_factor 35 = .ok (.invokevirtual 203, 3) := by decide +kernel
theorem dX11_factor_38 : decode cX11_factor 38 = .ok (.ifCond .eq 14, 3) := by decide +kernel
theorem dX11_factor_41 : decode cX11_factor 41 = .ok (.aload_n 0, 1) := by decide +kernel
theorem dX11_factor_42 : decode cX11_factor 42 = .ok (.iconst 1, 1) := by decide +kernel
theorem dX11_factor_43 : decode cX11_factor 43 = .ok (.iconst 0, 1) := by decide +kernel
theorem dX11_factor_44 : decode cX11_factor 44 = .ok (.invokevirtual 199, 3) := by decide +kernel
theorem dX11_factor_47 : decode cX11_factor 47 = .ok (.aload_n 0, 1) := by decide +kernel
theorem dX11_factor_48 : decode cX11_factor 48 = .ok (.invokevirtual 206, 3) := by decide +kernel
theorem dX11_factor_51 : decode cX11_factor 51 = .ok (.ireturn, 1) := by decide +kernel
theorem dX11_factor_52 : decode cX11_factor 52 = .ok (.aload_n 0, 1) := by decide +kernel
theorem dX11_factor_53 : decode cX11_factor 53 = .ok (.bipush 40, 2) := by decide +kernel
theorem dX11_factor_55 : decode cX11_factor 55 = .ok (.invokevirtual 210, 3) := by decide +kernel
theorem dX11_factor_58 : decode cX11_factor 58 = .ok (.ifCond .ne 35, 3) := by decide +kernel
theorem dX11_factor_61 : decode cX11_factor 61 = .ok (.aload_n 0, 1) := by decide +kernel
theorem dX11_factor_62 : decode cX11_factor 62 = .ok (.bipush 45, 2) := by decide +kernel
theorem dX11_factor_64 : decode cX11_factor 64 = .ok (.invokevirtual 210, 3) := by decide +kernel
theorem dX11_factor_67 : decode cX11_factor 67 = .ok (.ifCond .ne 26, 3) := by decide +kernel
theorem dX11_factor_70 : decode cX11_factor 70 = .ok (.aload_n 0, 1) := by decide +kernel
theorem dX11_factor_71 : decode cX11_factor 71 = .ok (.getfield 168, 3) := by decide +kernel
theorem dX11_factor_74 : decode cX11_factor 74 = .ok (.iconst 2, 1) := by decide +kernel
theorem dX11_factor_75 : decode cX11_factor 75 = .ok (.if_icmp .ne 22, 3) := by decide +kernel
theorem dX11_factor_78 : decode cX11_factor 78 = .ok (.aload_n 0, 1) := by decide +kernel
theorem dX11_factor_79 : decode cX11_factor 79 = .ok (.getfield 165, 3) := by decide +kernel
theorem dX11_factor_82 : decode cX11_factor 82 = .ok (.i2l, 1) := by decide +kernel
theorem dX11_factor_83 : decode cX11_factor 83 = .ok (.lconst 1, 1) := by decide +kernel
theorem dX11_factor_84 : decode cX11_factor 84 = .ok (.ldc2_w 228, 3) := by decide +kernel
theorem dX11_factor_87 : decode cX11_factor 87 = .ok (.invokestatic 143, 3) := by decide +kernel
theorem dX11_factor_90 : decode cX11_factor 90 = .ok (.ifCond .eq 7, 3) := by decide +kernel
theorem dX11_factor_93 : decode cX11_factor 93 = .ok (.iconst 1, 1) := by decide +kernel
theorem dX11_factor_94 : decode cX11_factor 94 = .ok (.goto 4, 3) := by decide +kernel
theorem dX11_factor_97 : decode cX11_factor 97 = .ok (.iconst 0, 1) := by decide +kernel
theorem dX11_factor_98 : decode cX11_factor 98 = .ok (.istore_n 1, 1) := by decide +kernel
theorem dX11_factor_99 : decode cX11_factor 99 = .ok (.iload_n 1, 1) := by decide +kernel
theorem dX11_factor_100 : decode cX11_factor 100 = .ok (.ifCond .eq 10, 3) := by decide +kernel
theorem dX11_factor_103 : decode cX11_factor 103 = .ok (.aload_n 0, 1) := by decide +kernel
theorem dX11_factor_104 : decode cX11_factor 104 = .ok (.invokevirtual 230, 3) := by decide +kernel
theorem dX11_factor_107 : decode cX11_factor 107 = .ok (.ifCond .ne 5, 3) := by decide +kernel
theorem dX11_factor_110 : decode cX11_factor 110 = .ok (.iconst 0, 1) := by decide +kernel
theorem dX11_factor_111 : decode cX11_factor 111 = .ok (.ireturn, 1) := by decide +kernel
theorem dX11_factor_112 : decode cX11_factor 112 = .ok (.aload_n 0, 1) := by decide +kernel
theorem dX11_factor_113 : decode cX11_factor 113 = .ok (.bipush 40, 2) := by decide +kernel
theorem dX11_factor_115 : decode cX11_factor 115 = .ok (.invokevirtual 210, 3) := by decide +kernel
theorem dX11_factor_118 : decode cX11_factor 118 = .ok (.ifCond .eq 18, 3) := by decide +kernel
theorem dX11_factor_121 : decode cX11_factor 121 = .ok (.aload_n 0, 1) := by decide +kernel
theorem dX11_factor_122 : decode cX11_factor 122 = .ok (.sipush 141, 3) := by decide +kernel
theorem dX11_factor_125 : decode cX11_factor 125 = .ok (.invokevirtual 195, 3) := by decide +kernel
theorem dX11_factor_128 : decode cX11_factor 128 = .ok (.aload_n 0, 1) := by decide +kernel
theorem dX11_factor_129 : decode cX11_factor 129 = .ok (.iconst 1, 1) := by decide +kernel
theorem dX11_factor_130 : decode cX11_factor 130 = .ok (.invokevirtual 195, 3) := by decide +kernel
theorem dX11_factor_133 : decode cX11_factor 133 = .ok (.goto 149, 3) := by decide +kernel
theorem dX11_factor_136 : decode cX11_factor 136 = .ok (.aload_n 0, 1) := by decide +kernel
theorem dX11_factor_137 : decode cX11_factor 137 = .ok (.bipush 45, 2) := by decide +kernel
theorem dX11_factor_139 : decode cX11_factor 139 = .ok (.invokevirtual 210, 3) := by decide +kernel
theorem dX11_factor_142 : decode cX11_factor 142 = .ok (.ifCond .ne 19, 3) := by decide +kernel
theorem dX11_factor_145 : decode cX11_factor 145 = .ok (.aload_n 0, 1) := by decide +kernel
theorem dX11_factor_146 : decode cX11_factor 146 = .ok (.iconst 1, 1) := by decide +kernel
theorem dX11_factor_147 : decode cX11_factor 147 = .ok (.invokevirtual 203, 3) := by decide +kernel
theorem dX11_factor_150 : decode cX11_factor 150 = .ok (.ifCond .ne 11, 3) := by decide +kernel
theorem dX11_factor_153 : decode cX11_factor 153 = .ok (.aload_n 0, 1) := by decide +kernel
theorem dX11_factor_154 : decode cX11_factor 154 = .ok (.iconst 2, 1) := by decide +kernel
theorem dX11_factor_155 : decode cX11_factor 155 = .ok (.invokevirtual 203, 3) := by decide +kernel
theorem dX11_factor_158 : decode cX11_factor 158 = .ok (.ifCond .eq 48, 3) := by decide +kernel
theorem dX11_factor_161 : decode cX11_factor 161 = .ok (.aload_n 0, 1) := by decide +kernel
theorem dX11_factor_162 : decode cX11_factor 162 = .ok (.sipush 1000, 3) := by decide +kernel
theorem dX11_factor_165 : decode cX11_factor 165 = .ok (.aload_n 0, 1) := by decide +kernel
theorem dX11_factor_166 : decode cX11_factor 166 = .ok (.bipush 45, 2) := by decide +kernel
theorem dX11_factor_168 : decode cX11_factor 168 = .ok (.invokevirtual 210, 3) := by decide +kernel
theorem dX11_factor_171 : decode cX11_factor 171 = .ok (.ifCond .eq 8, 3) := by decide +kernel
theorem dX11_factor_174 : decode cX11_factor 174 = .ok (.bipush 6, 2) := by decide +kernel
theorem dX11_factor_176 : decode cX11_factor 176 = .ok (.goto 18, 3) := by decide +kernel
theorem dX11_factor_179 : decode cX11_factor 179 = .ok (.aload_n 0, 1) := by decide +kernel
theorem dX11_factor_180 : decode cX11_factor 180 = .ok (.iconst 1, 1) := by decide +kernel
theorem dX11_factor_181 : decode cX11_factor 181 = .ok (.invokevirtual 203, 3) := by decide +kernel
theorem dX11_factor_184 : decode cX11_factor 184 = .ok (.ifCond .eq 8, 3) := by decide +kernel
theorem dX11_factor_187 : decode cX11_factor 187 = .ok (.bipush 7, 2) := by decide +kernel
theorem dX11_factor_189 : decode cX11_factor 189 = .ok (.goto 5, 3) := by decide +kernel
theorem dX11_factor_192 : decode cX11_factor 192 = .ok (.bipush 8, 2) := by decide +kernel
theorem dX11_factor_194 : decode cX11_factor 194 = .ok (.iadd, 1) := by decide +kernel
theorem dX11_factor_195 : decode cX11_factor 195 = .ok (.invokevirtual 195, 3) := by decide +kernel
theorem dX11_factor_198 : decode cX11_factor 198 = .ok (.aload_n 0, 1) := by decide +kernel
theorem dX11_factor_199 : decode cX11_factor 199 = .ok (.iconst 5, 1) := by decide +kernel
theorem dX11_factor_200 : decode cX11_factor 200 = .ok (.invokevirtual 195, 3) := by decide +kernel
theorem dX11_factor_203 : decode cX11_factor 203 = .ok (.goto 79, 3) := by decide +kernel
theorem dX11_factor_206 : decode cX11_factor 206 = .ok (.aload_n 0, 1) := by decide +kernel
theorem dX11_factor_207 : decode cX11_factor 207 = .ok (.iconst 5, 1) := by decide +kernel
theorem dX11_factor_208 : decode cX11_factor 208 = .ok (.invokevirtual 203, 3) := by decide +kernel
theorem dX11_factor_211 : decode cX11_factor 211 = .ok (.ifCond .eq 17, 3) := by decide +kernel
theorem dX11_factor_214 : decode cX11_factor 214 = .ok (.aload_n 0, 1) := by decide +kernel
theorem dX11_factor_215 : decode cX11_factor 215 = .ok (.bipush 7, 2) := by decide +kernel
theorem dX11_factor_217 : decode cX11_factor 217 = .ok (.invokevirtual 195, 3) := by decide +kernel
theorem dX11_factor_220 : decode cX11_factor 220 = .ok (.aload_n 0, 1) := by decide +kernel
theorem dX11_factor_221 : decode cX11_factor 221 = .ok (.iconst 1, 1) := by decide +kernel
theorem dX11_factor_222 : decode cX11_factor 222 = .ok (.invokevirtual 195, 3) := by decide +kernel
theorem dX11_factor_225 : decode cX11_factor 225 = .ok (.goto 57, 3) := by decide +kernel
theorem dX11_factor_228 : decode cX11_factor 228 = .ok (.aload_n 0, 1) := by decide +kernel
theorem dX11_factor_229 : decode cX11_factor 229 = .ok (.sipush 1000, 3) := by decide +kernel
theorem dX11_factor_232 : decode cX11_factor 232 = .ok (.aload_n 0, 1) := by decide +kernel
theorem dX11_factor_233 : decode cX11_factor 233 = .ok (.iconst 3, 1) := by decide +kernel
theorem dX11_factor_234 : decode cX11_factor 234 = .ok (.invokevirtual 203, 3) := by decide +kernel
theorem dX11_factor_237 : decode cX11_factor 237 = .ok (.ifCond .eq 8, 3) := by decide +kernel
theorem dX11_factor_240 : decode cX11_factor 240 = .ok (.bipush 9, 2) := by decide +kernel
theorem dX11_factor_242 : decode cX11_factor 242 = .ok (.goto 5, 3) := by decide +kernel
theorem dX11_factor_245 : decode cX11_factor 245 = .ok (.bipush 10, 2) := by decide +kernel
theorem dX11_factor_247 : decode cX11_factor 247 = .ok (.iadd, 1) := by decide +kernel
theorem dX11_factor_248 : decode cX11_factor 248 = .ok (.invokevirtual 195, 3) := by decide +kernel
theorem dX11_factor_251 : decode cX11_factor 251 = .ok (.aload_n 0, 1) := by decide +kernel
theorem dX11_factor_252 : decode cX11_factor 252 = .ok (.sipush 141, 3) := by decide +kernel
theorem dX11_factor_255 : decode cX11_factor 255 = .ok (.invokevirtual 195, 3) := by decide +kernel
theorem dX11_factor_258 : decode cX11_factor 258 = .ok (.aload_n 0, 1) := by decide +kernel
theorem dX11_factor_259 : decode cX11_factor 259 = .ok (.iconst 1, 1) := by decide +kernel
theorem dX11_factor_260 : decode cX11_factor 260 = .ok (.invokevirtual 195, 3) := by decide +kernel
theorem dX11_factor_263 : decode cX11_factor 263 = .ok (.aload_n 0, 1) := by decide +kernel
theorem dX11_factor_264 : decode cX11_factor 264 = .ok (.sipush 144, 3) := by decide +kernel
theorem dX11_factor_267 : decode cX11_factor 267 = .ok (.invokevirtual 195, 3) := by decide +kernel
theorem dX11_factor_270 : decode cX11_factor 270 = .ok (.aload_n 0, 1) := by decide +kernel
theorem dX11_factor_271 : decode cX11_factor 271 = .ok (.iconst 1, 1) := by decide +kernel
theorem dX11_factor_272 : decode cX11_factor 272 = .ok (.invokevirtual 195, 3) := by decide +kernel
theorem dX11_factor_275 : decode cX11_factor 275 = .ok (.aload_n 0, 1) := by decide +kernel
theorem dX11_factor_276 : decode cX11_factor 276 = .ok (.sipush 140, 3) := by decide +kernel
theorem dX11_factor_279 : decode cX11_factor 279 = .ok (.invokevirtual 195, 3) := by decide +kernel
theorem dX11_factor_282 : decode cX11_factor 282 = .ok (.aload_n 0, 1) := by decide +kernel
theorem dX11_factor_283 : decode cX11_factor 283 = .ok (.invokevirtual 206, 3) := by decide +kernel
theorem dX11_factor_286 : decode cX11_factor 286 = .ok (.ireturn, 1) := by decide +kernel
theorem dX11_reads_0 : decode cX11_reads 0 = .ok (.aload_n 0, 1) := by decide +kernel
theorem dX11_reads_1 : decode cX11_reads 1 = .ok (.iconst 0, 1) := by decide +kernel
theorem dX11_reads_2 : decode cX11_reads 2 = .ok (.putfield 159, 3) := by decide +kernel
theorem dX11_reads_5 : decode cX11_reads 5 = .ok (.aload_n 0, 1) := by decide +kernel
theorem dX11_reads_6 : decode cX11_reads 6 = .ok (.iconst 0, 1) := by decide +kernel
theorem dX11_reads_7 : decode cX11_reads 7 = .ok (.putfield 183, 3) := by decide +kernel
theorem dX11_reads_10 : decode cX11_reads 10 = .ok (.aload_n 0, 1) := by decide +kernel
theorem dX11_reads_11 : decode cX11_reads 11 = .ok (.iconst 0, 1) := by decide +kernel
theorem dX11_reads_12 : decode cX11_reads 12 = .ok (.putfield 192, 3) := by decide +kernel
theorem dX11_reads_15 : decode cX11_reads 15 = .ok (.aload_n 0, 1) := by decide +kernel
theorem dX11_reads_16 : decode cX11_reads 16 = .ok (.iconst 0, 1) := by decide +kernel
theorem dX11_reads_17 : decode cX11_reads 17 = .ok (.putfield 186, 3) := by decide +kernel
theorem dX11_reads_20 : decode cX11_reads 20 = .ok (.aload_n 0, 1) := by decide +kernel
theorem dX11_reads_21 : decode cX11_reads 21 = .ok (.invokevirtual 189, 3) := by decide +kernel
theorem dX11_reads_24 : decode cX11_reads 24 = .ok (.aload_n 0, 1) := by decide +kernel
theorem dX11_reads_25 : decode cX11_reads 25 = .ok (.iconst 0, 1) := by decide +kernel
theorem dX11_reads_26 : decode cX11_reads 26 = .ok (.invokevirtual 195, 3) := by decide +kernel
theorem dX11_reads_29 : decode cX11_reads 29 = .ok (.aload_n 0, 1) := by decide +kernel
theorem dX11_reads_30 : decode cX11_reads 30 = .ok (.iconst 1, 1) := by decide +kernel
theorem dX11_reads_31 : decode cX11_reads 31 = .ok (.invokevirtual 195, 3) := by decide +kernel
theorem dX11_reads_34 : decode cX11_reads 34 = .ok (.aload_n 0, 1) := by decide +kernel
theorem dX11_reads_35 : decode cX11_reads 35 = .ok (.getfield 183, 3) := by decide +kernel
theorem dX11_reads_38 : decode cX11_reads 38 = .ok (.ifCond .le 34, 3) := by decide +kernel
theorem dX11_reads_41 : decode cX11_reads 41 = .ok (.aload_n 0, 1) := by decide +kernel
theorem dX11_reads_42 : decode cX11_reads 42 = .ok (.dup, 1) := by decide +kernel
theorem dX11_reads_43 : decode cX11_reads 43 = .ok (.getfield 183, 3) := by decide +kernel
theorem dX11_reads_46 : decode cX11_reads 46 = .ok (.iconst 1, 1) := by decide +kernel
theorem dX11_reads_47 : decode cX11_reads 47 = .ok (.isub, 1) := by decide +kernel
theorem dX11_reads_48 : decode cX11_reads 48 = .ok (.putfield 183, 3) := by decide +kernel
theorem dX11_reads_51 : decode cX11_reads 51 = .ok (.aload_n 0, 1) := by decide +kernel
theorem dX11_reads_52 : decode cX11_reads 52 = .ok (.aload_n 0, 1) := by decide +kernel
theorem dX11_reads_53 : decode cX11_reads 53 = .ok (.getfield 13, 3) := by decide +kernel
theorem dX11_reads_56 : decode cX11_reads 56 = .ok (.aload_n 0, 1) := by decide +kernel
theorem dX11_reads_57 : decode cX11_reads 57 = .ok (.getfield 183, 3) := by decide +kernel
theorem dX11_reads_60 : decode cX11_reads 60 = .ok (.iaload, 1) := by decide +kernel
theorem dX11_reads_61 : decode cX11_reads 61 = .ok (.invokevirtual 233, 3) := by decide +kernel
theorem dX11_reads_64 : decode cX11_reads 64 = .ok (.ifCond .ne (-30), 3) := by decide +kernel
theorem dX11_reads_67 : decode cX11_reads 67 = .ok (.aload_n 0, 1) := by decide +kernel
theorem dX11_reads_68 : decode cX11_reads 68 = .ok (.getfield 162, 3) := by decide +kernel
theorem dX11_reads_71 : decode cX11_reads 71 = .ok (.ireturn, 1) := by decide +kernel
theorem dX11_reads_72 : decode cX11_reads 72 = .ok (.iconst (-1), 1) := by decide +kernel
theorem dX11_reads_73 : decode cX11_reads 73 = .ok (.ireturn, 1) := by decide +kernel
theorem dX11_fault_0 : decode cX11_fault 0 = .ok (.aload_n 0, 1) := by decide +kernel
theorem dX11_fault_1 : decode cX11_fault 1 = .ok (.invokevirtual 236, 3) := by decide +kernel
theorem dX11_fault_4 : decode cX11_fault 4 = .ok (.ireturn, 1) := by decide +kernel
theorem dX11_sheet_0 : decode cX11_sheet 0 = .ok (.aload_n 0, 1) := by decide +kernel
theorem dX11_sheet_1 : decode cX11_sheet 1 = .ok (.getfield 239, 3) := by decide +kernel
theorem dX11_sheet_4 : decode cX11_sheet 4 = .ok (.bipush 10, 2) := by decide +kernel
theorem dX11_sheet_6 : decode cX11_sheet 6 = .ok (.if_icmp .eq 11, 3) := by decide +kernel
theorem dX11_sheet_9 : decode cX11_sheet 9 = .ok (.aload_n 0, 1) := by decide +kernel
theorem dX11_sheet_10 : decode cX11_sheet 10 = .ok (.invokevirtual 236, 3) := by decide +kernel
theorem dX11_sheet_13 : decode cX11_sheet 13 = .ok (.iconst (-1), 1) := by decide +kernel
theorem dX11_sheet_14 : decode cX11_sheet 14 = .ok (.if_icmp .eq 5, 3) := by decide +kernel
theorem dX11_sheet_17 : decode cX11_sheet 17 = .ok (.iconst (-1), 1) := by decide +kernel
theorem dX11_sheet_18 : decode cX11_sheet 18 = .ok (.ireturn, 1) := by decide +kernel
theorem dX11_sheet_19 : decode cX11_sheet 19 = .ok (.iconst 0, 1) := by decide +kernel
theorem dX11_sheet_20 : decode cX11_sheet 20 = .ok (.istore_n 1, 1) := by decide +kernel
theorem dX11_sheet_21 : decode cX11_sheet 21 = .ok (.iload_n 1, 1) := by decide +kernel
theorem dX11_sheet_22 : decode cX11_sheet 22 = .ok (.aload_n 0, 1) := by decide +kernel
theorem dX11_sheet_23 : decode cX11_sheet 23 = .ok (.getfield 186, 3) := by decide +kernel
theorem dX11_sheet_26 : decode cX11_sheet 26 = .ok (.if_icmp .ge 51, 3) := by decide +kernel
theorem dX11_sheet_29 : decode cX11_sheet 29 = .ok (.aload_n 0, 1) := by decide +kernel
theorem dX11_sheet_30 : decode cX11_sheet 30 = .ok (.getfield 23, 3) := by decide +kernel
theorem dX11_sheet_33 : decode cX11_sheet 33 = .ok (.sipush 200, 3) := by decide +kernel
theorem dX11_sheet_36 : decode cX11_sheet 36 = .ok (.aload_n 0, 1) := by decide +kernel
theorem dX11_sheet_37 : decode cX11_sheet 37 = .ok (.getfield 239, 3) := by decide +kernel
theorem dX11_sheet_40 : decode cX11_sheet 40 = .ok (.imul, 1) := by decide +kernel
theorem dX11_sheet_41 : decode cX11_sheet 41 = .ok (.iload_n 1, 1) := by decide +kernel
theorem dX11_sheet_42 : decode cX11_sheet 42 = .ok (.iadd, 1) := by decide +kernel
theorem dX11_sheet_43 : decode cX11_sheet 43 = .ok (.aload_n 0, 1) := by decide +kernel
theorem dX11_sheet_44 : decode cX11_sheet 44 = .ok (.getfield 17, 3) := by decide +kernel
theorem dX11_sheet_47 : decode cX11_sheet 47 = .ok (.iload_n 1, 1) := by decide +kernel
theorem dX11_sheet_48 : decode cX11_sheet 48 = .ok (.iaload, 1) := by decide +kernel
theorem dX11_sheet_49 : decode cX11_sheet 49 = .ok (.iastore, 1) := by decide +kernel
theorem dX11_sheet_50 : decode cX11_sheet 50 = .ok (.aload_n 0, 1) := by decide +kernel
theorem dX11_sheet_51 : decode cX11_sheet 51 = .ok (.getfield 26, 3) := by decide +kernel
theorem dX11_sheet_54 : decode cX11_sheet 54 = .ok (.sipush 200, 3) := by decide +kernel
theorem dX11_sheet_57 : decode cX11_sheet 57 = .ok (.aload_n 0, 1) := by decide +kernel
theorem dX11_sheet_58 : decode cX11_sheet 58 = .ok (.getfield 239, 3) := by decide +kernel
theorem dX11_sheet_61 : decode cX11_sheet 61 = .ok (.imul, 1) := by decide +kernel
theorem dX11_sheet_62 : decode cX11_sheet 62 = .ok (.iload_n 1, 1) := by decide +kernel
theorem dX11_sheet_63 : decode cX11_sheet 63 = .ok (.iadd, 1) := by decide +kernel
theorem dX11_sheet_64 : decode cX11_sheet 64 = .ok (.aload_n 0, 1) := by decide +kernel
theorem dX11_sheet_65 : decode cX11_sheet 65 = .ok (.getfield 20, 3) := by decide +kernel
theorem dX11_sheet_68 : decode cX11_sheet 68 = .ok (.iload_n 1, 1) := by decide +kernel
theorem dX11_sheet_69 : decode cX11_sheet 69 = .ok (.iaload, 1) := by decide +kernel
theorem dX11_sheet_70 : decode cX11_sheet 70 = .ok (.iastore, 1) := by decide +kernel
theorem dX11_sheet_71 : decode cX11_sheet 71 = .ok (.iinc 1 1, 3) := by decide +kernel
theorem dX11_sheet_74 : decode cX11_sheet 74 = .ok (.goto (-53), 3) := by decide +kernel
theorem dX11_sheet_77 : decode cX11_sheet 77 = .ok (.aload_n 0, 1) := by decide +kernel
theorem dX11_sheet_78 : decode cX11_sheet 78 = .ok (.getfield 29, 3) := by decide +kernel
theorem dX11_sheet_81 : decode cX11_sheet 81 = .ok (.aload_n 0, 1) := by decide +kernel
theorem dX11_sheet_82 : decode cX11_sheet 82 = .ok (.getfield 239, 3) := by decide +kernel
theorem dX11_sheet_85 : decode cX11_sheet 85 = .ok (.aload_n 0, 1) := by decide +kernel
theorem dX11_sheet_86 : decode cX11_sheet 86 = .ok (.getfield 186, 3) := by decide +kernel
theorem dX11_sheet_89 : decode cX11_sheet 89 = .ok (.iastore, 1) := by decide +kernel
theorem dX11_sheet_90 : decode cX11_sheet 90 = .ok (.aload_n 0, 1) := by decide +kernel
theorem dX11_sheet_91 : decode cX11_sheet 91 = .ok (.iconst 0, 1) := by decide +kernel
theorem dX11_sheet_92 : decode cX11_sheet 92 = .ok (.putfield 140, 3) := by decide +kernel
theorem dX11_sheet_95 : decode cX11_sheet 95 = .ok (.aload_n 0, 1) := by decide +kernel
theorem dX11_sheet_96 : decode cX11_sheet 96 = .ok (.dup, 1) := by decide +kernel
theorem dX11_sheet_97 : decode cX11_sheet 97 = .ok (.getfield 239, 3) := by decide +kernel
theorem dX11_sheet_100 : decode cX11_sheet 100 = .ok (.iconst 1, 1) := by decide +kernel
theorem dX11_sheet_101 : decode cX11_sheet 101 = .ok (.iadd, 1) := by decide +kernel
theorem dX11_sheet_102 : decode cX11_sheet 102 = .ok (.putfield 239, 3) := by decide +kernel
theorem dX11_sheet_105 : decode cX11_sheet 105 = .ok (.aload_n 0, 1) := by decide +kernel
theorem dX11_sheet_106 : decode cX11_sheet 106 = .ok (.getfield 239, 3) := by decide +kernel
theorem dX11_sheet_109 : decode cX11_sheet 109 = .ok (.iconst 1, 1) := by decide +kernel
theorem dX11_sheet_110 : decode cX11_sheet 110 = .ok (.isub, 1) := by decide +kernel
theorem dX11_sheet_111 : decode cX11_sheet 111 = .ok (.ireturn, 1) := by decide +kernel
theorem dX11_common_0 : decode cX11_common 0 = .ok (.lload_n 0, 1) := by decide +kernel
theorem dX11_common_1 : decode cX11_common 1 = .ok (.lconst 0, 1) := by decide +kernel
theorem dX11_common_2 : decode cX11_common 2 = .ok (.lcmp, 1) := by decide +kernel
theorem dX11_common_3 : decode cX11_common 3 = .ok (.ifCond .ge 8, 3) := by decide +kernel
theorem dX11_common_6 : decode cX11_common 6 = .ok (.lload_n 0, 1) := by decide +kernel
theorem dX11_common_7 : decode cX11_common 7 = .ok (.lneg, 1) := by decide +kernel
theorem dX11_common_8 : decode cX11_common 8 = .ok (.goto 4, 3) := by decide +kernel
theorem dX11_common_11 : decode cX11_common 11 = .ok (.lload_n 0, 1) := by decide +kernel
theorem dX11_common_12 : decode cX11_common 12 = .ok (.lstore 4, 2) := by decide +kernel
theorem dX11_common_14 : decode cX11_common 14 = .ok (.lload_n 2, 1) := by decide +kernel
theorem dX11_common_15 : decode cX11_common 15 = .ok (.lconst 0, 1) := by decide +kernel
theorem dX11_common_16 : decode cX11_common 16 = .ok (.lcmp, 1) := by decide +kernel
theorem dX11_common_17 : decode cX11_common 17 = .ok (.ifCond .ge 8, 3) := by decide +kernel
theorem dX11_common_20 : decode cX11_common 20 = .ok (.lload_n 2, 1) := by decide +kernel
theorem dX11_common_21 : decode cX11_common 21 = .ok (.lneg, 1) := by decide +kernel
theorem dX11_common_22 : decode cX11_common 22 = .ok (.goto 4, 3) := by decide +kernel
theorem dX11_common_25 : decode cX11_common 25 = .ok (.lload_n 2, 1) := by decide +kernel
theorem dX11_common_26 : decode cX11_common 26 = .ok (.lstore 6, 2) := by decide +kernel
theorem dX11_common_28 : decode cX11_common 28 = .ok (.lload 6, 2) := by decide +kernel
theorem dX11_common_30 : decode cX11_common 30 = .ok (.lconst 0, 1) := by decide +kernel
theorem dX11_common_31 : decode cX11_common 31 = .ok (.lcmp, 1) := by decide +kernel
theorem dX11_common_32 : decode cX11_common 32 = .ok (.ifCond .eq 21, 3) := by decide +kernel
theorem dX11_common_35 : decode cX11_common 35 = .ok (.lload 4, 2) := by decide +kernel
theorem dX11_common_37 : decode cX11_common 37 = .ok (.lload 6, 2) := by decide +kernel
theorem dX11_common_39 : decode cX11_common 39 = .ok (.lrem, 1) := by decide +kernel
theorem dX11_common_40 : decode cX11_common 40 = .ok (.lstore 8, 2) := by decide +kernel
theorem dX11_common_42 : decode cX11_common 42 = .ok (.lload 6, 2) := by decide +kernel
theorem dX11_common_44 : decode cX11_common 44 = .ok (.lstore 4, 2) := by decide +kernel
theorem dX11_common_46 : decode cX11_common 46 = .ok (.lload 8, 2) := by decide +kernel
theorem dX11_common_48 : decode cX11_common 48 = .ok (.lstore 6, 2) := by decide +kernel
theorem dX11_common_50 : decode cX11_common 50 = .ok (.goto (-22), 3) := by decide +kernel
theorem dX11_common_53 : decode cX11_common 53 = .ok (.lload 4, 2) := by decide +kernel
theorem dX11_common_55 : decode cX11_common 55 = .ok (.lreturn, 1) := by decide +kernel
theorem dX11_puts_0 : decode cX11_puts 0 = .ok (.aload_n 0, 1) := by decide +kernel
theorem dX11_puts_1 : decode cX11_puts 1 = .ok (.getfield 115, 3) := by decide +kernel
theorem dX11_puts_4 : decode cX11_puts 4 = .ok (.iload_n 1, 1) := by decide +kernel
theorem dX11_puts_5 : decode cX11_puts 5 = .ok (.lconst 0, 1) := by decide +kernel
theorem dX11_puts_6 : decode cX11_puts 6 = .ok (.lastore, 1) := by decide +kernel
theorem dX11_puts_7 : decode cX11_puts 7 = .ok (.aload_n 0, 1) := by decide +kernel
theorem dX11_puts_8 : decode cX11_puts 8 = .ok (.getfield 119, 3) := by decide +kernel
theorem dX11_puts_11 : decode cX11_puts 11 = .ok (.iload_n 1, 1) := by decide +kernel
theorem dX11_puts_12 : decode cX11_puts 12 = .ok (.lconst 0, 1) := by decide +kernel
theorem dX11_puts_13 : decode cX11_puts 13 = .ok (.lastore, 1) := by decide +kernel
theorem dX11_puts_14 : decode cX11_puts 14 = .ok (.lload 4, 2) := by decide +kernel
theorem dX11_puts_16 : decode cX11_puts 16 = .ok (.lconst 0, 1) := by decide +kernel
theorem dX11_puts_17 : decode cX11_puts 17 = .ok (.lcmp, 1) := by decide +kernel
theorem dX11_puts_18 : decode cX11_puts 18 = .ok (.ifCond .ne 4, 3) := by decide +kernel
theorem dX11_puts_21 : decode cX11_puts 21 = .ok (.return_, 1) := by decide +kernel
theorem dX11_puts_22 : decode cX11_puts 22 = .ok (.lload_n 2, 1) := by decide +kernel
theorem dX11_puts_23 : decode cX11_puts 23 = .ok (.lload 4, 2) := by decide +kernel
theorem dX11_puts_25 : decode cX11_puts 25 = .ok (.invokestatic 242, 3) := by decide +kernel
theorem dX11_puts_28 : decode cX11_puts 28 = .ok (.lstore 6, 2) := by decide +kernel
theorem dX11_puts_30 : decode cX11_puts 30 = .ok (.lload 4, 2) := by decide +kernel
theorem dX11_puts_32 : decode cX11_puts 32 = .ok (.lconst 0, 1) := by decide +kernel
theorem dX11_puts_33 : decode cX11_puts 33 = .ok (.lcmp, 1) := by decide +kernel
theorem dX11_puts_34 : decode cX11_puts 34 = .ok (.ifCond .ge 11, 3) := by decide +kernel
theorem dX11_puts_37 : decode cX11_puts 37 = .ok (.lload_n 2, 1) := by decide +kernel
theorem dX11_puts_38 : decode cX11_puts 38 = .ok (.lneg, 1) := by decide +kernel
theorem dX11_puts_39 : decode cX11_puts 39 = .ok (.lload 6, 2) := by decide +kernel
theorem dX11_puts_41 : decode cX11_puts 41 = .ok (.ldiv, 1) := by decide +kernel
theorem dX11_puts_42 : decode cX11_puts 42 = .ok (.goto 7, 3) := by decide +kernel
theorem dX11_puts_45 : decode cX11_puts 45 = .ok (.lload_n 2, 1) := by decide +kernel
theorem dX11_puts_46 : decode cX11_puts 46 = .ok (.lload 6, 2) := by decide +kernel
theorem dX11_puts_48 : decode cX11_puts 48 = .ok (.ldiv, 1) := by decide +kernel
theorem dX11_puts_49 : decode cX11_puts 49 = .ok (.lstore 8, 2) := by decide +kernel
theorem dX11_puts_51 : decode cX11_puts 51 = .ok (.lload 4, 2) := by decide +kernel
theorem dX11_puts_53 : decode cX11_puts 53 = .ok (.lconst 0, 1) := by decide +kernel
theorem dX11_puts_54 : decode cX11_puts 54 = .ok (.lcmp, 1) := by decide +kernel
theorem dX11_puts_55 : decode cX11_puts 55 = .ok (.ifCond .ge 12, 3) := by decide +kernel
theorem dX11_puts_58 : decode cX11_puts 58 = .ok (.lload 4, 2) := by decide +kernel
theorem dX11_puts_60 : decode cX11_puts 60 = .ok (.lneg, 1) := by decide +kernel
theorem dX11_puts_61 : decode cX11_puts 61 = .ok (.lload 6, 2) := by decide +kernel
theorem dX11_puts_63 : decode cX11_puts 63 = .ok (.ldiv, 1) := by decide +kernel
theorem dX11_puts_64 : decode cX11_puts 64 = .ok (.goto 8, 3) := by decide +kernel
theorem dX11_puts_67 : decode cX11_puts 67 = .ok (.lload 4, 2) := by decide +kernel
theorem dX11_puts_69 : decode cX11_puts 69 = .ok (.lload 6, 2) := by decide +kernel
theorem dX11_puts_71 : decode cX11_puts 71 = .ok (.ldiv, 1) := by decide +kernel
theorem dX11_puts_72 : decode cX11_puts 72 = .ok (.lstore 10, 2) := by decide +kernel
theorem dX11_puts_74 : decode cX11_puts 74 = .ok (.lload 8, 2) := by decide +kernel
theorem dX11_puts_76 : decode cX11_puts 76 = .ok (.ldc2_w 246, 3) := by decide +kernel
theorem dX11_puts_79 : decode cX11_puts 79 = .ok (.ldc2_w 248, 3) := by decide +kernel
theorem dX11_puts_82 : decode cX11_puts 82 = .ok (.invokestatic 143, 3) := by decide +kernel
theorem dX11_puts_85 : decode cX11_puts 85 = .ok (.ifCond .eq 12, 3) := by decide +kernel
theorem dX11_puts_88 : decode cX11_puts 88 = .ok (.lload 10, 2) := by decide +kernel
theorem dX11_puts_90 : decode cX11_puts 90 = .ok (.ldc2_w 248, 3) := by decide +kernel
theorem dX11_puts_93 : decode cX11_puts 93 = .ok (.lcmp, 1) := by decide +kernel
theorem dX11_puts_94 : decode cX11_puts 94 = .ok (.ifCond .le 4, 3) := by decide +kernel
theorem dX11_puts_97 : decode cX11_puts 97 = .ok (.return_, 1) := by decide +kernel
theorem dX11_puts_98 : decode cX11_puts 98 = .ok (.aload_n 0, 1) := by decide +kernel
theorem dX11_puts_99 : decode cX11_puts 99 = .ok (.getfield 115, 3) := by decide +kernel
theorem dX11_puts_102 : decode cX11_puts 102 = .ok (.iload_n 1, 1) := by decide +kernel
theorem dX11_puts_103 : decode cX11_puts 103 = .ok (.lload 8, 2) := by decide +kernel
theorem dX11_puts_105 : decode cX11_puts 105 = .ok (.lastore, 1) := by decide +kernel
theorem dX11_puts_106 : decode cX11_puts 106 = .ok (.aload_n 0, 1) := by decide +kernel
theorem dX11_puts_107 : decode cX11_puts 107 = .ok (.getfield 119, 3) := by decide +kernel
theorem dX11_puts_110 : decode cX11_puts 110 = .ok (.iload_n 1, 1) := by decide +kernel
theorem dX11_puts_111 : decode cX11_puts 111 = .ok (.lload 10, 2) := by decide +kernel
theorem dX11_puts_113 : decode cX11_puts 113 = .ok (.lastore, 1) := by decide +kernel
theorem dX11_puts_114 : decode cX11_puts 114 = .ok (.return_, 1) := by decide +kernel
theorem dX11_floor_0 : decode cX11_floor 0 = .ok (.lload_n 0, 1) := by decide +kernel
theorem dX11_floor_1 : decode cX11_floor 1 = .ok (.lconst 0, 1) := by decide +kernel
theorem dX11_floor_2 : decode cX11_floor 2 = .ok (.lcmp, 1) := by decide +kernel
theorem dX11_floor_3 : decode cX11_floor 3 = .ok (.ifCond .lt 9, 3) := by decide +kernel
theorem dX11_floor_6 : decode cX11_floor 6 = .ok (.lload_n 0, 1) := by decide +kernel
theorem dX11_floor_7 : decode cX11_floor 7 = .ok (.lload_n 2, 1) := by decide +kernel
theorem dX11_floor_8 : decode cX11_floor 8 = .ok (.ldiv, 1) := by decide +kernel
theorem dX11_floor_9 : decode cX11_floor 9 = .ok (.goto 12, 3) := by decide +kernel
theorem dX11_floor_12 : decode cX11_floor 12 = .ok (.lload_n 0, 1) := by decide +kernel
theorem dX11_floor_13 : decode cX11_floor 13 = .ok (.lneg, 1) := by decide +kernel
theorem dX11_floor_14 : decode cX11_floor 14 = .ok (.lload_n 2, 1) := by decide +kernel
theorem dX11_floor_15 : decode cX11_floor 15 = .ok (.ladd, 1) := by decide +kernel
theorem dX11_floor_16 : decode cX11_floor 16 = .ok (.lconst 1, 1) := by decide +kernel
theorem dX11_floor_17 : decode cX11_floor 17 = .ok (.lsub, 1) := by decide +kernel
theorem dX11_floor_18 : decode cX11_floor 18 = .ok (.lload_n 2, 1) := by decide +kernel
theorem dX11_floor_19 : decode cX11_floor 19 = .ok (.ldiv, 1) := by decide +kernel
theorem dX11_floor_20 : decode cX11_floor 20 = .ok (.lneg, 1) := by decide +kernel
theorem dX11_floor_21 : decode cX11_floor 21 = .ok (.lreturn, 1) := by decide +kernel
theorem dX11_rootOf_0 : decode cX11_rootOf 0 = .ok (.lconst 0, 1) := by decide +kernel
theorem dX11_rootOf_1 : decode cX11_rootOf 1 = .ok (.lstore_n 2, 1) := by decide +kernel
theorem dX11_rootOf_2 : decode cX11_rootOf 2 = .ok (.ldc2_w 250, 3) := by decide +kernel
theorem dX11_rootOf_5 : decode cX11_rootOf 5 = .ok (.lstore 4, 2) := by decide +kernel
theorem dX11_rootOf_7 : decode cX11_rootOf 7 = .ok (.lload 4, 2) := by decide +kernel
theorem dX11_rootOf_9 : decode cX11_rootOf 9 = .ok (.lconst 0, 1) := by decide +kernel
theorem dX11_rootOf_10 : decode cX11_rootOf 10 = .ok (.lcmp, 1) := by decide +kernel
theorem dX11_rootOf_11 : decode cX11_rootOf 11 = .ok (.ifCond .le 33, 3) := by decide +kernel
theorem dX11_rootOf_14 : decode cX11_rootOf 14 = .ok (.lload_n 2, 1) := by decide +kernel
theorem dX11_rootOf_15 : decode cX11_rootOf 15 = .ok (.lload 4, 2) := by decide +kernel
theorem dX11_rootOf_17 : decode cX11_rootOf 17 = .ok (.ladd, 1) := by decide +kernel
theorem dX11_rootOf_18 : decode cX11_rootOf 18 = .ok (.lload_n 2, 1) := by decide +kernel
theorem dX11_rootOf_19 : decode cX11_rootOf 19 = .ok (.lload 4, 2) := by decide +kernel
theorem dX11_rootOf_21 : decode cX11_rootOf 21 = .ok (.ladd, 1) := by decide +kernel
theorem dX11_rootOf_22 : decode cX11_rootOf 22 = .ok (.lmul, 1) := by decide +kernel
theorem dX11_rootOf_23 : decode cX11_rootOf 23 = .ok (.lload_n 0, 1) := by decide +kernel
theorem dX11_rootOf_24 : decode cX11_rootOf 24 = .ok (.lcmp, 1) := by decide +kernel
theorem dX11_rootOf_25 : decode cX11_rootOf 25 = .ok (.ifCond .gt 8, 3) := by decide +kernel
theorem dX11_rootOf_28 : decode cX11_rootOf 28 = .ok (.lload_n 2, 1) := by decide +kernel
theorem dX11_rootOf_29 : decode cX11_rootOf 29 = .ok (.lload 4, 2) := by decide +kernel
theorem dX11_rootOf_31 : decode cX11_rootOf 31 = .ok (.ladd, 1) := by decide +kernel
theorem dX11_rootOf_32 : decode cX11_rootOf 32 = .ok (.lstore_n 2, 1) := by decide +kernel
theorem dX11_rootOf_33 : decode cX11_rootOf 33 = .ok (.lload 4, 2) := by decide +kernel
theorem dX11_rootOf_35 : decode cX11_rootOf 35 = .ok (.ldc2_w 252, 3) := by decide +kernel
theorem dX11_rootOf_38 : decode cX11_rootOf 38 = .ok (.ldiv, 1) := by decide +kernel
theorem dX11_rootOf_39 : decode cX11_rootOf 39 = .ok (.lstore 4, 2) := by decide +kernel
theorem dX11_rootOf_41 : decode cX11_rootOf 41 = .ok (.goto (-34), 3) := by decide +kernel
theorem dX11_rootOf_44 : decode cX11_rootOf 44 = .ok (.lload_n 2, 1) := by decide +kernel
theorem dX11_rootOf_45 : decode cX11_rootOf 45 = .ok (.lreturn, 1) := by decide +kernel
theorem dX11_one_0 : decode cX11_one 0 = .ok (.aload_n 0, 1) := by decide +kernel
theorem dX11_one_1 : decode cX11_one 1 = .ok (.getfield 254, 3) := by decide +kernel
theorem dX11_one_4 : decode cX11_one 4 = .ok (.iconst 1, 1) := by decide +kernel
theorem dX11_one_5 : decode cX11_one 5 = .ok (.isub, 1) := by decide +kernel
theorem dX11_one_6 : decode cX11_one 6 = .ok (.istore_n 2, 1) := by decide +kernel
theorem dX11_one_7 : decode cX11_one 7 = .ok (.aload_n 0, 1) := by decide +kernel
theorem dX11_one_8 : decode cX11_one 8 = .ok (.getfield 119, 3) := by decide +kernel
theorem dX11_one_11 : decode cX11_one 11 = .ok (.iload_n 2, 1) := by decide +kernel
theorem dX11_one_12 : decode cX11_one 12 = .ok (.laload, 1) := by decide +kernel
theorem dX11_one_13 : decode cX11_one 13 = .ok (.lconst 0, 1) := by decide +kernel
theorem dX11_one_14 : decode cX11_one 14 = .ok (.lcmp, 1) := by decide +kernel
theorem dX11_one_15 : decode cX11_one 15 = .ok (.ifCond .ne 4, 3) := by decide +kernel
theorem dX11_one_18 : decode cX11_one 18 = .ok (.return_, 1) := by decide +kernel
theorem dX11_one_19 : decode cX11_one 19 = .ok (.iload_n 1, 1) := by decide +kernel
theorem dX11_one_20 : decode cX11_one 20 = .ok (.bipush 6, 2) := by decide +kernel
theorem dX11_one_22 : decode cX11_one 22 = .ok (.if_icmp .ne 24, 3) := by decide +kernel
theorem dX11_one_25 : decode cX11_one 25 = .ok (.aload_n 0, 1) := by decide +kernel
theorem dX11_one_26 : decode cX11_one 26 = .ok (.iload_n 2, 1) := by decide +kernel
theorem dX11_one_27 : decode cX11_one 27 = .ok (.aload_n 0, 1) := by decide +kernel
theorem dX11_one_28 : decode cX11_one 28 = .ok (.getfield 115, 3) := by decide +kernel
theorem dX11_one_31 : decode cX11_one 31 = .ok (.iload_n 2, 1) := by decide +kernel
theorem dX11_one_32 : decode cX11_one 32 = .ok (.laload, 1) := by decide +kernel
theorem dX11_one_33 : decode cX11_one 33 = .ok (.lneg, 1) := by decide +kernel
theorem dX11_one_34 : decode cX11_one 34 = .ok (.aload_n 0, 1) := by decide +kernel
theorem dX11_one_35 : decode cX11_one 35 = .ok (.getfield 119, 3) := by decide +kernel
theorem dX11_one_38 : decode cX11_one 38 = .ok (.iload_n 2, 1) := by decide +kernel
theorem dX11_one_39 : decode cX11_one 39 = .ok (.laload, 1) := by decide +kernel
theorem dX11_one_40 : decode cX11_one 40 = .ok (.invokevirtual 257, 3) := by decide +kernel
theorem dX11_one_43 : decode cX11_one 43 = .ok (.goto 82, 3) := by decide +kernel
theorem dX11_one_46 : decode cX11_one 46 = .ok (.iload_n 1, 1) := by decide +kernel
theorem dX11_one_47 : decode cX11_one 47 = .ok (.bipush 8, 2) := by decide +kernel
theorem dX11_one_49 : decode cX11_one 49 = .ok (.if_icmp .ne 27, 3) := by decide +kernel
theorem dX11_one_52 : decode cX11_one 52 = .ok (.aload_n 0, 1) := by decide +kernel
theorem dX11_one_53 : decode cX11_one 53 = .ok (.iload_n 2, 1) := by decide +kernel
theorem dX11_one_54 : decode cX11_one 54 = .ok (.aload_n 0, 1) := by decide +kernel
theorem dX11_one_55 : decode cX11_one 55 = .ok (.getfield 115, 3) := by decide +kernel
theorem dX11_one_58 : decode cX11_one 58 = .ok (.iload_n 2, 1) := by decide +kernel
theorem dX11_one_59 : decode cX11_one 59 = .ok (.laload, 1) := by decide +kernel
theorem dX11_one_60 : decode cX11_one 60 = .ok (.aload_n 0, 1) := by decide +kernel
theorem dX11_one_61 : decode cX11_one 61 = .ok (.getfield 119, 3) := by decide +kernel
theorem dX11_one_64 : decode cX11_one 64 = .ok (.iload_n 2, 1) := by decide +kernel
theorem dX11_one_65 : decode cX11_one 65 = .ok (.laload, 1) := by decide +kernel
theorem dX11_one_66 : decode cX11_one 66 = .ok (.invokestatic 261, 3) := by decide +kernel
theorem dX11_one_69 : decode cX11_one 69 = .ok (.lconst 1, 1) := by decide +kernel
theorem dX11_one_70 : decode cX11_one 70 = .ok (.invokevirtual 257, 3) := by decide +kernel
theorem dX11_one_73 : decode cX11_one 73 = .ok (.goto 52, 3) := by decide +kernel
theorem dX11_one_76 : decode cX11_one 76 = .ok (.aload_n 0, 1) := by decide +kernel
theorem dX11_one_77 : decode cX11_one 77 = .ok (.getfield 115, 3) := by decide +kernel
theorem dX11_one_80 : decode cX11_one 80 = .ok (.iload_n 2, 1) := by decide +kernel
theorem dX11_one_81 : decode cX11_one 81 = .ok (.laload, 1) := by decide +kernel
theorem dX11_one_82 : decode cX11_one 82 = .ok (.lconst 0, 1) := by decide +kernel
theorem dX11_one_83 : decode cX11_one 83 = .ok (.lcmp, 1) := by decide +kernel
theorem dX11_one_84 : decode cX11_one 84 = .ok (.ifCond .ge 13, 3) := by decide +kernel
theorem dX11_one_87 : decode cX11_one 87 = .ok (.aload_n 0, 1) := by decide +kernel
theorem dX11_one_88 : decode cX11_one 88 = .ok (.getfield 119, 3) := by decide +kernel
theorem dX11_one_91 : decode cX11_one 91 = .ok (.iload_n 2, 1) := by decide +kernel
theorem dX11_one_92 : decode cX11_one 92 = .ok (.lconst 0, 1) := by decide +kernel
theorem dX11_one_93 : decode cX11_one 93 = .ok (.lastore, 1) := by decide +kernel
theorem dX11_one_94 : decode cX11_one 94 = .ok (.goto 31, 3) := by decide +kernel
theorem dX11_one_97 : decode cX11_one 97 = .ok (.aload_n 0, 1) := by decide +kernel
theorem dX11_one_98 : decode cX11_one 98 = .ok (.iload_n 2, 1) := by decide +kernel
theorem dX11_one_99 : decode cX11_one 99 = .ok (.aload_n 0, 1) := by decide +kernel
theorem dX11_one_100 : decode cX11_one 100 = .ok (.getfield 115, 3) := by decide +kernel
theorem dX11_one_103 : decode cX11_one 103 = .ok (.iload_n 2, 1) := by decide +kernel
theorem dX11_one_104 : decode cX11_one 104 = .ok (.laload, 1) := by decide +kernel
theorem dX11_one_105 : decode cX11_one 105 = .ok (.ldc2_w 264, 3) := by decide +kernel
theorem dX11_one_108 : decode cX11_one 108 = .ok (.lmul, 1) := by decide +kernel
theorem dX11_one_109 : decode cX11_one 109 = .ok (.aload_n 0, 1) := by decide +kernel
theorem dX11_one_110 : decode cX11_one 110 = .ok (.getfield 119, 3) := by decide +kernel
theorem dX11_one_113 : decode cX11_one 113 = .ok (.iload_n 2, 1) := by decide +kernel
theorem dX11_one_114 : decode cX11_one 114 = .ok (.laload, 1) := by decide +kernel
theorem dX11_one_115 : decode cX11_one 115 = .ok (.ldiv, 1) := by decide +kernel
theorem dX11_one_116 : decode cX11_one 116 = .ok (.invokestatic 266, 3) := by decide +kernel
theorem dX11_one_119 : decode cX11_one 119 = .ok (.ldc2_w 270, 3) := by decide +kernel
theorem dX11_one_122 : decode cX11_one 122 = .ok (.invokevirtual 257, 3) := by decide +kernel
theorem dX11_one_125 : decode cX11_one 125 = .ok (.return_, 1) := by decide +kernel
theorem dX11_two_0 : decode cX11_two 0 = .ok (.aload_n 0, 1) := by decide +kernel
theorem dX11_two_1 : decode cX11_two 1 = .ok (.dup, 1) := by decide +kernel
theorem dX11_two_2 : decode cX11_two 2 = .ok (.getfield 254, 3) := by decide +kernel
theorem dX11_two_5 : decode cX11_two 5 = .ok (.iconst 1, 1) := by decide +kernel
theorem dX11_two_6 : decode cX11_two 6 = .ok (.isub, 1) := by decide +kernel
theorem dX11_two_7 : decode cX11_two 7 = .ok (.putfield 254, 3) := by decide +kernel
theorem dX11_two_10 : decode cX11_two 10 = .ok (.aload_n 0, 1) := by decide +kernel
theorem dX11_two_11 : decode cX11_two 11 = .ok (.getfield 254, 3) := by decide +kernel
theorem dX11_two_14 : decode cX11_two 14 = .ok (.iconst 1, 1) := by decide +kernel
theorem dX11_two_15 : decode cX11_two 15 = .ok (.isub, 1) := by decide +kernel
theorem dX11_two_16 : decode cX11_two 16 = .ok (.istore_n 2, 1) := by decide +kernel
theorem dX11_two_17 : decode cX11_two 17 = .ok (.aload_n 0, 1) := by decide +kernel
theorem dX11_two_18 : decode cX11_two 18 = .ok (.getfield 254, 3) := by decide +kernel
theorem dX11_two_21 : decode cX11_two 21 = .ok (.istore_n 3, 1) := by decide +kernel
theorem dX11_two_22 : decode cX11_two 22 = .ok (.aload_n 0, 1) := by decide +kernel
theorem dX11_two_23 : decode cX11_two 23 = .ok (.getfield 119, 3) := by decide +kernel
theorem dX11_two_26 : decode cX11_two 26 = .ok (.iload_n 2, 1) := by decide +kernel
theorem dX11_two_27 : decode cX11_two 27 = .ok (.laload, 1) := by decide +kernel
theorem dX11_two_28 : decode cX11_two 28 = .ok (.lconst 0, 1) := by decide +kernel
theorem dX11_two_29 : decode cX11_two 29 = .ok (.lcmp, 1) := by decide +kernel
theorem dX11_two_30 : decode cX11_two 30 = .ok (.ifCond .eq 14, 3) := by decide +kernel
theorem dX11_two_33 : decode cX11_two 33 = .ok (.aload_n 0, 1) := by decide +kernel
theorem dX11_two_34 : decode cX11_two 34 = .ok (.getfield 119, 3) := by decide +kernel
theorem dX11_two_37 : decode cX11_two 37 = .ok (.iload_n 3, 1) := by decide +kernel
theorem dX11_two_38 : decode cX11_two 38 = .ok (.laload, 1) := by decide +kernel
theorem dX11_two_39 : decode cX11_two 39 = .ok (.lconst 0, 1) := by decide +kernel
theorem dX11_two_40 : decode cX11_two 40 = .ok (.lcmp, 1) := by decide +kernel
theorem dX11_two_41 : decode cX11_two 41 = .ok (.ifCond .ne 11, 3) := by decide +kernel
theorem dX11_two_44 : decode cX11_two 44 = .ok (.aload_n 0, 1) := by decide +kernel
theorem dX11_two_45 : decode cX11_two 45 = .ok (.getfield 119, 3) := by decide +kernel
theorem dX11_two_48 : decode cX11_two 48 = .ok (.iload_n 2, 1) := by decide +kernel
theorem dX11_two_49 : decode cX11_two 49 = .ok (.lconst 0, 1) := by decide +kernel
theorem dX11_two_50 : decode cX11_two 50 = .ok (.lastore, 1) := by decide +kernel
theorem dX11_two_51 : decode cX11_two 51 = .ok (.return_, 1) := by decide +kernel
theorem dX11_two_52 : decode cX11_two 52 = .ok (.aload_n 0, 1) := by decide +kernel
theorem dX11_two_53 : decode cX11_two 53 = .ok (.getfield 115, 3) := by decide +kernel
theorem dX11_two_56 : decode cX11_two 56 = .ok (.iload_n 2, 1) := by decide +kernel
theorem dX11_two_57 : decode cX11_two 57 = .ok (.laload, 1) := by decide +kernel
theorem dX11_two_58 : decode cX11_two 58 = .ok (.lstore 4, 2) := by decide +kernel
theorem dX11_two_60 : decode cX11_two 60 = .ok (.aload_n 0, 1) := by decide +kernel
theorem dX11_two_61 : decode cX11_two 61 = .ok (.getfield 119, 3) := by decide +kernel
theorem dX11_two_64 : decode cX11_two 64 = .ok (.iload_n 2, 1) := by decide +kernel
theorem dX11_two_65 : decode cX11_two 65 = .ok (.laload, 1) := by decide +kernel
theorem dX11_two_66 : decode cX11_two 66 = .ok (.lstore 6, 2) := by decide +kernel
theorem dX11_two_68 : decode cX11_two 68 = .ok (.aload_n 0, 1) := by decide +kernel
theorem dX11_two_69 : decode cX11_two 69 = .ok (.getfield 115, 3) := by decide +kernel
theorem dX11_two_72 : decode cX11_two 72 = .ok (.iload_n 3, 1) := by decide +kernel
theorem dX11_two_73 : decode cX11_two 73 = .ok (.laload, 1) := by decide +kernel
theorem dX11_two_74 : decode cX11_two 74 = .ok (.lstore 8, 2) := by decide +kernel
theorem dX11_two_76 : decode cX11_two 76 = .ok (.aload_n 0, 1) := by decide +kernel
theorem dX11_two_77 : decode cX11_two 77 = .ok (.getfield 119, 3) := by decide +kernel
theorem dX11_two_80 : decode cX11_two 80 = .ok (.iload_n 3, 1) := by decide +kernel
theorem dX11_two_81 : decode cX11_two 81 = .ok (.laload, 1) := by decide +kernel
theorem dX11_two_82 : decode cX11_two 82 = .ok (.lstore 10, 2) := by decide +kernel
theorem dX11_two_84 : decode cX11_two 84 = .ok (.lload 4, 2) := by decide +kernel
theorem dX11_two_86 : decode cX11_two 86 = .ok (.lload 10, 2) := by decide +kernel
theorem dX11_two_88 : decode cX11_two 88 = .ok (.lmul, 1) := by decide +kernel
theorem dX11_two_89 : decode cX11_two 89 = .ok (.lload 8, 2) := by decide +kernel
theorem dX11_two_91 : decode cX11_two 91 = .ok (.lload 6, 2) := by decide +kernel
theorem dX11_two_93 : decode cX11_two 93 = .ok (.lmul, 1) := by decide +kernel
theorem dX11_two_94 : decode cX11_two 94 = .ok (.lcmp, 1) := by decide +kernel
theorem dX11_two_95 : decode cX11_two 95 = .ok (.ifCond .ge 7, 3) := by decide +kernel
theorem dX11_two_98 : decode cX11_two 98 = .ok (.iconst 1, 1) := by decide +kernel
theorem dX11_two_99 : decode cX11_two 99 = .ok (.goto 4, 3) := by decide +kernel
theorem dX11_two_102 : decode cX11_two 102 = .ok (.iconst 0, 1) := by decide +kernel
theorem dX11_two_103 : decode cX11_two 103 = .ok (.istore 12, 2) := by decide +kernel
theorem dX11_two_105 : decode cX11_two 105 = .ok (.iload_n 1, 1) := by decide +kernel
theorem dX11_two_106 : decode cX11_two 106 = .ok (.tableswitch 114 2 5 #[30, 54, 78, 96], 30) := by decide +kernel
theorem dX11_two_136 : decode cX11_two 136 = .ok (.aload_n 0, 1) := by decide +kernel
theorem dX11_two_137 : decode cX11_two 137 = .ok (.iload_n 2, 1) := by decide +kernel
theorem dX11_two_138 : decode cX11_two 138 = .ok (.lload 4, 2) := by decide +kernel
theorem dX11_two_140 : decode cX11_two 140 = .ok (.lload 10, 2) := by decide +kernel
theorem dX11_two_142 : decode cX11_two 142 = .ok (.lmul, 1) := by decide +kernel
theorem dX11_two_143 : decode cX11_two 143 = .ok (.lload 8, 2) := by decide +kernel
theorem dX11_two_145 : decode cX11_two 145 = .ok (.lload 6, 2) := by decide +kernel
theorem dX11_two_147 : decode cX11_two 147 = .ok (.lmul, 1) := by decide +kernel
theorem dX11_two_148 : decode cX11_two 148 = .ok (.ladd, 1) := by decide +kernel
theorem dX11_two_149 : decode cX11_two 149 = .ok (.lload 6, 2) := by decide +kernel
theorem dX11_two_151 : decode cX11_two 151 = .ok (.lload 10, 2) := by decide +kernel
theorem dX11_two_153 : decode cX11_two 153 = .ok (.lmul, 1) := by decide +kernel
theorem dX11_two_154 : decode cX11_two 154 = .ok (.invokevirtual 257, 3) := by decide +kernel
theorem dX11_two_157 : decode cX11_two 157 = .ok (.goto 109, 3) := by decide +kernel
theorem dX11_two_160 : decode cX11_two 160 = .ok (.aload_n 0, 1) := by decide +kernel
theorem dX11_two_161 : decode cX11_two 161 = .ok (.iload_n 2, 1) := by decide +kernel
theorem dX11_two_162 : decode cX11_two 162 = .ok (.lload 4, 2) := by decide +kernel
theorem dX11_two_164 : decode cX11_two 164 = .ok (.lload 10, 2) := by decide +kernel
theorem dX11_two_166 : decode cX11_two 166 = .ok (.lmul, 1) := by decide +kernel
theorem dX11_two_167 : decode cX11_two 167 = .ok (.lload 8, 2) := by decide +kernel
theorem dX11_two_169 : decode cX11_two 169 = .ok (.lload 6, 2) := by decide +kernel
theorem dX11_two_171 : decode cX11_two 171 = .ok (.lmul, 1) := by decide +kernel
theorem dX11_two_172 : decode cX11_two 172 = .ok (.lsub, 1) := by decide +kernel
theorem dX11_two_173 : decode cX11_two 173 = .ok (.lload 6, 2) := by decide +kernel
theorem dX11_two_175 : decode cX11_two 175 = .ok (.lload 10, 2) := by decide +kernel
theorem dX11_two_177 : decode cX11_two 177 = .ok (.lmul, 1) := by decide +kernel
theorem dX11_two_178 : decode cX11_two 178 = .ok (.invokevirtual 257, 3) := by decide +kernel
theorem dX11_two_181 : decode cX11_two 181 = .ok (.goto 85, 3) := by decide +kernel
theorem dX11_two_184 : decode cX11_two 184 = .ok (.aload_n 0, 1) := by decide +kernel
theorem dX11_two_185 : decode cX11_two 185 = .ok (.iload_n 2, 1) := by decide +kernel
theorem dX11_two_186 : decode cX11_two 186 = .ok (.lload 4, 2) := by decide +kernel
theorem dX11_two_188 : decode cX11_two 188 = .ok (.lload 8, 2) := by decide +kernel
theorem dX11_two_190 : decode cX11_two 190 = .ok (.lmul, 1) := by decide +kernel
theorem dX11_two_191 : decode cX11_two 191 = .ok (.lload 6, 2) := by decide +kernel
theorem dX11_two_193 : decode cX11_two 193 = .ok (.lload 10, 2) := by decide +kernel
theorem dX11_two_195 : decode cX11_two 195 = .ok (.lmul, 1) := by decide +kernel
theorem dX11_two_196 : decode cX11_two 196 = .ok (.invokevirtual 257, 3) := by decide +kernel
theorem dX11_two_199 : decode cX11_two 199 = .ok (.goto 67, 3) := by decide +kernel
theorem dX11_two_202 : decode cX11_two 202 = .ok (.aload_n 0, 1) := by decide +kernel
theorem dX11_two_203 : decode cX11_two 203 = .ok (.iload_n 2, 1) := by decide +kernel
theorem dX11_two_204 : decode cX11_two 204 = .ok (.lload 4, 2) := by decide +kernel
theorem dX11_two_206 : decode cX11_two 206 = .ok (.lload 10, 2) := by decide +kernel
theorem dX11_two_208 : decode cX11_two 208 = .ok (.lmul, 1) := by decide +kernel
theorem dX11_two_209 : decode cX11_two 209 = .ok (.lload 6, 2) := by decide +kernel
theorem dX11_two_211 : decode cX11_two 211 = .ok (.lload 8, 2) := by decide +kernel
theorem dX11_two_213 : decode cX11_two 213 = .ok (.lmul, 1) := by decide +kernel
theorem dX11_two_214 : decode cX11_two 214 = .ok (.invokevirtual 257, 3) := by decide +kernel
theorem dX11_two_217 : decode cX11_two 217 = .ok (.goto 49, 3) := by decide +kernel
theorem dX11_two_220 : decode cX11_two 220 = .ok (.iload_n 1, 1) := by decide +kernel
theorem dX11_two_221 : decode cX11_two 221 = .ok (.bipush 9, 2) := by decide +kernel
theorem dX11_two_223 : decode cX11_two 223 = .ok (.if_icmp .ne 7, 3) := by decide +kernel
theorem dX11_two_226 : decode cX11_two 226 = .ok (.iconst 1, 1) := by decide +kernel
theorem dX11_two_227 : decode cX11_two 227 = .ok (.goto 4, 3) := by decide +kernel
theorem dX11_two_230 : decode cX11_two 230 = .ok (.iconst 0, 1) := by decide +kernel
theorem dX11_two_231 : decode cX11_two 231 = .ok (.iload 12, 2) := by decide +kernel
theorem dX11_two_233 : decode cX11_two 233 = .ok (.if_icmp .eq 33, 3) := by decide +kernel
theorem dX11_two_236 : decode cX11_two 236 = .ok (.lload 4, 2) := by decide +kernel
theorem dX11_two_238 : decode cX11_two 238 = .ok (.lload 10, 2) := by decide +kernel
theorem dX11_two_240 : decode cX11_two 240 = .ok (.lmul, 1) := by decide +kernel
theorem dX11_two_241 : decode cX11_two 241 = .ok (.lload 8, 2) := by decide +kernel
theorem dX11_two_243 : decode cX11_two 243 = .ok (.lload 6, 2) := by decide +kernel
theorem dX11_two_245 : decode cX11_two 245 = .ok (.lmul, 1) := by decide +kernel
theorem dX11_two_246 : decode cX11_two 246 = .ok (.lcmp, 1) := by decide +kernel
theorem dX11_two_247 : decode cX11_two 247 = .ok (.ifCond .eq 19, 3) := by decide +kernel
theorem dX11_two_250 : decode cX11_two 250 = .ok (.aload_n 0, 1) := by decide +kernel
theorem dX11_two_251 : decode cX11_two 251 = .ok (.getfield 115, 3) := by decide +kernel
theorem dX11_two_254 : decode cX11_two 254 = .ok (.iload_n 2, 1) := by decide +kernel
theorem dX11_two_255 : decode cX11_two 255 = .ok (.lload 8, 2) := by decide +kernel
theorem dX11_two_257 : decode cX11_two 257 = .ok (.lastore, 1) := by decide +kernel
theorem dX11_two_258 : decode cX11_two 258 = .ok (.aload_n 0, 1) := by decide +kernel
theorem dX11_two_259 : decode cX11_two 259 = .ok (.getfield 119, 3) := by decide +kernel
theorem dX11_two_262 : decode cX11_two 262 = .ok (.iload_n 2, 1) := by decide +kernel
theorem dX11_two_263 : decode cX11_two 263 = .ok (.lload 10, 2) := by decide +kernel
theorem dX11_two_265 : decode cX11_two 265 = .ok (.lastore, 1) := by decide +kernel
theorem dX11_two_266 : decode cX11_two 266 = .ok (.return_, 1) := by decide +kernel
theorem dX11_chooses_0 : decode cX11_chooses 0 = .ok (.aload_n 0, 1) := by decide +kernel
theorem dX11_chooses_1 : decode cX11_chooses 1 = .ok (.dup, 1) := by decide +kernel
theorem dX11_chooses_2 : decode cX11_chooses 2 = .ok (.getfield 254, 3) := by decide +kernel
theorem dX11_chooses_5 : decode cX11_chooses 5 = .ok (.iconst 3, 1) := by decide +kernel
theorem dX11_chooses_6 : decode cX11_chooses 6 = .ok (.isub, 1) := by decide +kernel
theorem dX11_chooses_7 : decode cX11_chooses 7 = .ok (.putfield 254, 3) := by decide +kernel
theorem dX11_chooses_10 : decode cX11_chooses 10 = .ok (.aload_n 0, 1) := by decide +kernel
theorem dX11_chooses_11 : decode cX11_chooses 11 = .ok (.getfield 254, 3) := by decide +kernel
theorem dX11_chooses_14 : decode cX11_chooses 14 = .ok (.iconst 1, 1) := by decide +kernel
theorem dX11_chooses_15 : decode cX11_chooses 15 = .ok (.isub, 1) := by decide +kernel
theorem dX11_chooses_16 : decode cX11_chooses 16 = .ok (.istore_n 2, 1) := by decide +kernel
theorem dX11_chooses_17 : decode cX11_chooses 17 = .ok (.aload_n 0, 1) := by decide +kernel
theorem dX11_chooses_18 : decode cX11_chooses 18 = .ok (.getfield 119, 3) := by decide +kernel
theorem dX11_chooses_21 : decode cX11_chooses 21 = .ok (.iload_n 2, 1) := by decide +kernel
theorem dX11_chooses_22 : decode cX11_chooses 22 = .ok (.laload, 1) := by decide +kernel
theorem dX11_chooses_23 : decode cX11_chooses 23 = .ok (.lconst 0, 1) := by decide +kernel
theorem dX11_chooses_24 : decode cX11_chooses 24 = .ok (.lcmp, 1) := by decide +kernel
theorem dX11_chooses_25 : decode cX11_chooses 25 = .ok (.ifCond .eq 16, 3) := by decide +kernel
theorem dX11_chooses_28 : decode cX11_chooses 28 = .ok (.aload_n 0, 1) := by decide +kernel
theorem dX11_chooses_29 : decode cX11_chooses 29 = .ok (.getfield 119, 3) := by decide +kernel
theorem dX11_chooses_32 : decode cX11_chooses 32 = .ok (.iload_n 2, 1) := by decide +kernel
theorem dX11_chooses_33 : decode cX11_chooses 33 = .ok (.iconst 1, 1) := by decide +kernel
theorem dX11_chooses_34 : decode cX11_chooses 34 = .ok (.iadd, 1) := by decide +kernel
theorem dX11_chooses_35 : decode cX11_chooses 35 = .ok (.laload, 1) := by decide +kernel
theorem dX11_chooses_36 : decode cX11_chooses 36 = .ok (.lconst 0, 1) := by decide +kernel
theorem dX11_chooses_37 : decode cX11_chooses 37 = .ok (.lcmp, 1) := by decide +kernel
theorem dX11_chooses_38 : decode cX11_chooses 38 = .ok (.ifCond .ne 11, 3) := by decide +kernel
theorem dX11_chooses_41 : decode cX11_chooses 41 = .ok (.aload_n 0, 1) := by decide +kernel
theorem dX11_chooses_42 : decode cX11_chooses 42 = .ok (.getfield 119, 3) := by decide +kernel
theorem dX11_chooses_45 : decode cX11_chooses 45 = .ok (.iload_n 2, 1) := by decide +kernel
theorem dX11_chooses_46 : decode cX11_chooses 46 = .ok (.lconst 0, 1) := by decide +kernel
theorem dX11_chooses_47 : decode cX11_chooses 47 = .ok (.lastore, 1) := by decide +kernel
theorem dX11_chooses_48 : decode cX11_chooses 48 = .ok (.return_, 1) := by decide +kernel
theorem dX11_chooses_49 : decode cX11_chooses 49 = .ok (.aload_n 0, 1) := by decide +kernel
theorem dX11_chooses_50 : decode cX11_chooses 50 = .ok (.getfield 115, 3) := by decide +kernel
theorem dX11_chooses_53 : decode cX11_chooses 53 = .ok (.iload_n 2, 1) := by decide +kernel
theorem dX11_chooses_54 : decode cX11_chooses 54 = .ok (.laload, 1) := by decide +kernel
theorem dX11_chooses_55 : decode cX11_chooses 55 = .ok (.aload_n 0, 1) := by decide +kernel
theorem dX11_chooses_56 : decode cX11_chooses 56 = .ok (.getfield 119, 3) := by decide +kernel
theorem dX11_chooses_59 : decode cX11_chooses 59 = .ok (.iload_n 2, 1) := by decide +kernel
theorem dX11_chooses_60 : decode cX11_chooses 60 = .ok (.iconst 1, 1) := by decide +kernel
theorem dX11_chooses_61 : decode cX11_chooses 61 = .ok (.iadd, 1) := by decide +kernel
theorem dX11_chooses_62 : decode cX11_chooses 62 = .ok (.laload, 1) := by decide +kernel
theorem dX11_chooses_63 : decode cX11_chooses 63 = .ok (.lmul, 1) := by decide +kernel
theorem dX11_chooses_64 : decode cX11_chooses 64 = .ok (.lstore_n 3, 1) := by decide +kernel
theorem dX11_chooses_65 : decode cX11_chooses 65 = .ok (.aload_n 0, 1) := by decide +kernel
theorem dX11_chooses_66 : decode cX11_chooses 66 = .ok (.getfield 115, 3) := by decide +kernel
theorem dX11_chooses_69 : decode cX11_chooses 69 = .ok (.iload_n 2, 1) := by decide +kernel
theorem dX11_chooses_70 : decode cX11_chooses 70 = .ok (.iconst 1, 1) := by decide +kernel
theorem dX11_chooses_71 : decode cX11_chooses 71 = .ok (.iadd, 1) := by decide +kernel
theorem dX11_chooses_72 : decode cX11_chooses 72 = .ok (.laload, 1) := by decide +kernel
theorem dX11_chooses_73 : decode cX11_chooses 73 = .ok (.aload_n 0, 1) := by decide +kernel
theorem dX11_chooses_74 : decode cX11_chooses 74 = .ok (.getfield 119, 3) := by decide +kernel
theorem dX11_chooses_77 : decode cX11_chooses 77 = .ok (.iload_n 2, 1) := by decide +kernel
theorem dX11_chooses_78 : decode cX11_chooses 78 = .ok (.laload, 1) := by decide +kernel
theorem dX11_chooses_79 : decode cX11_chooses 79 = .ok (.lmul, 1) := by decide +kernel
theorem dX11_chooses_80 : decode cX11_chooses 80 = .ok (.lstore 5, 2) := by decide +kernel
theorem dX11_chooses_82 : decode cX11_chooses 82 = .ok (.iload_n 1, 1) := by decide +kernel
theorem dX11_chooses_83 : decode cX11_chooses 83 = .ok (.bipush 11, 2) := by decide +kernel
theorem dX11_chooses_85 : decode cX11_chooses 85 = .ok (.if_icmp .ne 18, 3) := by decide +kernel
theorem dX11_chooses_88 : decode cX11_chooses 88 = .ok (.lload_n 3, 1) := by decide +kernel
theorem dX11_chooses_89 : decode cX11_chooses 89 = .ok (.lload 5, 2) := by decide +kernel
theorem dX11_chooses_91 : decode cX11_chooses 91 = .ok (.lcmp, 1) := by decide +kernel
theorem dX11_chooses_92 : decode cX11_chooses 92 = .ok (.ifCond .ge 7, 3) := by decide +kernel
theorem dX11_chooses_95 : decode cX11_chooses 95 = .ok (.iconst 1, 1) := by decide +kernel
theorem dX11_chooses_96 : decode cX11_chooses 96 = .ok (.goto 40, 3) := by decide +kernel
theorem dX11_chooses_99 : decode cX11_chooses 99 = .ok (.iconst 0, 1) := by decide +kernel
theorem dX11_chooses_100 : decode cX11_chooses 100 = .ok (.goto 36, 3) := by decide +kernel
theorem dX11_chooses_103 : decode cX11_chooses 103 = .ok (.iload_n 1, 1) := by decide +kernel
theorem dX11_chooses_104 : decode cX11_chooses 104 = .ok (.bipush 12, 2) := by decide +kernel
theorem dX11_chooses_106 : decode cX11_chooses 106 = .ok (.if_icmp .ne 18, 3) := by decide +kernel
theorem dX11_chooses_109 : decode cX11_chooses 109 = .ok (.lload_n 3, 1) := by decide +kernel
theorem dX11_chooses_110 : decode cX11_chooses 110 = .ok (.lload 5, 2) := by decide +kernel
theorem dX11_chooses_112 : decode cX11_chooses 112 = .ok (.lcmp, 1) := by decide +kernel
theorem dX11_chooses_113 : decode cX11_chooses 113 = .ok (.ifCond .le 7, 3) := by decide +kernel
theorem dX11_chooses_116 : decode cX11_chooses 116 = .ok (.iconst 1, 1) := by decide +kernel
theorem dX11_chooses_117 : decode cX11_chooses 117 = .ok (.goto 19, 3) := by decide +kernel
theorem dX11_chooses_120 : decode cX11_chooses 120 = .ok (.iconst 0, 1) := by decide +kernel
theorem dX11_chooses_121 : decode cX11_chooses 121 = .ok (.goto 15, 3) := by decide +kernel
theorem dX11_chooses_124 : decode cX11_chooses 124 = .ok (.lload_n 3, 1) := by decide +kernel
theorem dX11_chooses_125 : decode cX11_chooses 125 = .ok (.lload 5, 2) := by decide +kernel
theorem dX11_chooses_127 : decode cX11_chooses 127 = .ok (.lcmp, 1) := by decide +kernel
theorem dX11_chooses_128 : decode cX11_chooses 128 = .ok (.ifCond .ne 7, 3) := by decide +kernel
theorem dX11_chooses_131 : decode cX11_chooses 131 = .ok (.iconst 1, 1) := by decide +kernel
theorem dX11_chooses_132 : decode cX11_chooses 132 = .ok (.goto 4, 3) := by decide +kernel
theorem dX11_chooses_135 : decode cX11_chooses 135 = .ok (.iconst 0, 1) := by decide +kernel
theorem dX11_chooses_136 : decode cX11_chooses 136 = .ok (.istore 7, 2) := by decide +kernel
theorem dX11_chooses_138 : decode cX11_chooses 138 = .ok (.aload_n 0, 1) := by decide +kernel
theorem dX11_chooses_139 : decode cX11_chooses 139 = .ok (.getfield 115, 3) := by decide +kernel
theorem dX11_chooses_142 : decode cX11_chooses 142 = .ok (.iload_n 2, 1) := by decide +kernel
theorem dX11_chooses_143 : decode cX11_chooses 143 = .ok (.aload_n 0, 1) := by decide +kernel
theorem dX11_chooses_144 : decode cX11_chooses 144 = .ok (.getfield 115, 3) := by decide +kernel
theorem dX11_chooses_147 : decode cX11_chooses 147 = .ok (.iload 7, 2) := by decide +kernel
theorem dX11_chooses_149 : decode cX11_chooses 149 = .ok (.ifCond .eq 9, 3) := by decide +kernel
theorem dX11_chooses_152 : decode cX11_chooses 152 = .ok (.iload_n 2, 1) := by decide +kernel
theorem dX11_chooses_153 : decode cX11_chooses 153 = .ok (.iconst 2, 1) := by decide +kernel
theorem dX11_chooses_154 : decode cX11_chooses 154 = .ok (.iadd, 1) := by decide +kernel
theorem dX11_chooses_155 : decode cX11_chooses 155 = .ok (.goto 6, 3) := by decide +kernel
theorem dX11_chooses_158 : decode cX11_chooses 158 = .ok (.iload_n 2, 1) := by decide +kernel
theorem dX11_chooses_159 : decode cX11_chooses 159 = .ok (.iconst 3, 1) := by decide +kernel
theorem dX11_chooses_160 : decode cX11_chooses 160 = .ok (.iadd, 1) := by decide +kernel
theorem dX11_chooses_161 : decode cX11_chooses 161 = .ok (.laload, 1) := by decide +kernel
theorem dX11_chooses_162 : decode cX11_chooses 162 = .ok (.lastore, 1) := by decide +kernel
theorem dX11_chooses_163 : decode cX11_chooses 163 = .ok (.aload_n 0, 1) := by decide +kernel
theorem dX11_chooses_164 : decode cX11_chooses 164 = .ok (.getfield 119, 3) := by decide +kernel
theorem dX11_chooses_167 : decode cX11_chooses 167 = .ok (.iload_n 2, 1) := by decide +kernel
theorem dX11_chooses_168 : decode cX11_chooses 168 = .ok (.aload_n 0, 1) := by decide +kernel
theorem dX11_chooses_169 : decode cX11_chooses 169 = .ok (.getfield 119, 3) := by decide +kernel
theorem dX11_chooses_172 : decode cX11_chooses 172 = .ok (.iload 7, 2) := by decide +kernel
theorem dX11_chooses_174 : decode cX11_chooses 174 = .ok (.ifCond .eq 9, 3) := by decide +kernel
theorem dX11_chooses_177 : decode cX11_chooses 177 = .ok (.iload_n 2, 1) := by decide +kernel
theorem dX11_chooses_178 : decode cX11_chooses 178 = .ok (.iconst 2, 1) := by decide +kernel
theorem dX11_chooses_179 : decode cX11_chooses 179 = .ok (.iadd, 1) := by decide +kernel
theorem dX11_chooses_180 : decode cX11_chooses 180 = .ok (.goto 6, 3) := by decide +kernel
theorem dX11_chooses_183 : decode cX11_chooses 183 = .ok (.iload_n 2, 1) := by decide +kernel
theorem dX11_chooses_184 : decode cX11_chooses 184 = .ok (.iconst 3, 1) := by decide +kernel
theorem dX11_chooses_185 : decode cX11_chooses 185 = .ok (.iadd, 1) := by decide +kernel
theorem dX11_chooses_186 : decode cX11_chooses 186 = .ok (.laload, 1) := by decide +kernel
theorem dX11_chooses_187 : decode cX11_chooses 187 = .ok (.lastore, 1) := by decide +kernel
theorem dX11_chooses_188 : decode cX11_chooses 188 = .ok (.return_, 1) := by decide +kernel
theorem dX11_works_0 : decode cX11_works 0 = .ok (.aload_n 0, 1) := by decide +kernel
theorem dX11_works_1 : decode cX11_works 1 = .ok (.iconst 0, 1) := by decide +kernel
theorem dX11_works_2 : decode cX11_works 2 = .ok (.putfield 254, 3) := by decide +kernel
theorem dX11_works_5 : decode cX11_works 5 = .ok (.sipush 200, 3) := by decide +kernel
theorem dX11_works_8 : decode cX11_works 8 = .ok (.iload_n 1, 1) := by decide +kernel
theorem dX11_works_9 : decode cX11_works 9 = .ok (.imul, 1) := by decide +kernel
theorem dX11_works_10 : decode cX11_works 10 = .ok (.istore 6, 2) := by decide +kernel
theorem dX11_works_12 : decode cX11_works 12 = .ok (.iload 6, 2) := by decide +kernel
theorem dX11_works_14 : decode cX11_works 14 = .ok (.sipush 200, 3) := by decide +kernel
theorem dX11_works_17 : decode cX11_works 17 = .ok (.iload_n 1, 1) := by decide +kernel
theorem dX11_works_18 : decode cX11_works 18 = .ok (.imul, 1) := by decide +kernel
theorem dX11_works_19 : decode cX11_works 19 = .ok (.aload_n 0, 1) := by decide +kernel
theorem dX11_works_20 : decode cX11_works 20 = .ok (.getfield 29, 3) := by decide +kernel
theorem dX11_works_23 : decode cX11_works 23 = .ok (.iload_n 1, 1) := by decide +kernel
theorem dX11_works_24 : decode cX11_works 24 = .ok (.iaload, 1) := by decide +kernel
theorem dX11_works_25 : decode cX11_works 25 = .ok (.iadd, 1) := by decide +kernel
theorem dX11_works_26 : decode cX11_works 26 = .ok (.if_icmp .ge 119, 3) := by decide +kernel
theorem dX11_works_29 : decode cX11_works 29 = .ok (.aload_n 0, 1) := by decide +kernel
theorem dX11_works_30 : decode cX11_works 30 = .ok (.getfield 23, 3) := by decide +kernel
theorem dX11_works_33 : decode cX11_works 33 = .ok (.iload 6, 2) := by decide +kernel
theorem dX11_works_35 : decode cX11_works 35 = .ok (.iaload, 1) := by decide +kernel
theorem dX11_works_36 : decode cX11_works 36 = .ok (.istore 7, 2) := by decide +kernel
theorem dX11_works_38 : decode cX11_works 38 = .ok (.iload 7, 2) := by decide +kernel
theorem dX11_works_40 : decode cX11_works 40 = .ok (.iconst 1, 1) := by decide +kernel
theorem dX11_works_41 : decode cX11_works 41 = .ok (.if_icmp .gt 53, 3) := by decide +kernel
theorem dX11_works_44 : decode cX11_works 44 = .ok (.iload 7, 2) := by decide +kernel
theorem dX11_works_46 : decode cX11_works 46 = .ok (.iconst 1, 1) := by decide +kernel
theorem dX11_works_47 : decode cX11_works 47 = .ok (.if_icmp .ne 17, 3) := by decide +kernel
theorem dX11_works_50 : decode cX11_works 50 = .ok (.aload_n 0, 1) := by decide +kernel
theorem dX11_works_51 : decode cX11_works 51 = .ok (.aload_n 0, 1) := by decide +kernel
theorem dX11_works_52 : decode cX11_works 52 = .ok (.getfield 254, 3) := by decide +kernel
theorem dX11_works_55 : decode cX11_works 55 = .ok (.lload_n 2, 1) := by decide +kernel
theorem dX11_works_56 : decode cX11_works 56 = .ok (.lload 4, 2) := by decide +kernel
theorem dX11_works_58 : decode cX11_works 58 = .ok (.invokevirtual 257, 3) := by decide +kernel
theorem dX11_works_61 : decode cX11_works 61 = .ok (.goto 20, 3) := by decide +kernel
theorem dX11_works_64 : decode cX11_works 64 = .ok (.aload_n 0, 1) := by decide +kernel
theorem dX11_works_65 : decode cX11_works 65 = .ok (.aload_n 0, 1) := by decide +kernel
theorem dX11_works_66 : decode cX11_works 66 = .ok (.getfield 254, 3) := by decide +kernel
theorem dX11_works_69 : decode cX11_works 69 = .ok (.aload_n 0, 1) := by decide +kernel
theorem dX11_works_70 : decode cX11_works 70 = .ok (.getfield 26, 3) := by decide +kernel
theorem dX11_works_73 : decode cX11_works 73 = .ok (.iload 6, 2) := by decide +kernel
theorem dX11_works_75 : decode cX11_works 75 = .ok (.iaload, 1) := by decide +kernel
theorem dX11_works_76 : decode cX11_works 76 = .ok (.i2l, 1) := by decide +kernel
theorem dX11_works_77 : decode cX11_works 77 = .ok (.lconst 1, 1) := by decide +kernel
theorem dX11_works_78 : decode cX11_works 78 = .ok (.invokevirtual 257, 3) := by decide +kernel
theorem dX11_works_81 : decode cX11_works 81 = .ok (.aload_n 0, 1) := by decide +kernel
theorem dX11_works_82 : decode cX11_works 82 = .ok (.dup, 1) := by decide +kernel
theorem dX11_works_83 : decode cX11_works 83 = .ok (.getfield 254, 3) := by decide +kernel
theorem dX11_works_86 : decode cX11_works 86 = .ok (.iconst 1, 1) := by decide +kernel
theorem dX11_works_87 : decode cX11_works 87 = .ok (.iadd, 1) := by decide +kernel
theorem dX11_works_88 : decode cX11_works 88 = .ok (.putfield 254, 3) := by decide +kernel
theorem dX11_works_91 : decode cX11_works 91 = .ok (.goto 48, 3) := by decide +kernel
theorem dX11_works_94 : decode cX11_works 94 = .ok (.iload 7, 2) := by decide +kernel
theorem dX11_works_96 : decode cX11_works 96 = .ok (.bipush 11, 2) := by decide +kernel
theorem dX11_works_98 : decode cX11_works 98 = .ok (.if_icmp .lt 12, 3) := by decide +kernel
theorem dX11_works_101 : decode cX11_works 101 = .ok (.aload_n 0, 1) := by decide +kernel
theorem dX11_works_102 : decode cX11_works 102 = .ok (.iload 7, 2) := by decide +kernel
theorem dX11_works_104 : decode cX11_works 104 = .ok (.invokevirtual 272, 3) := by decide +kernel
theorem dX11_works_107 : decode cX11_works 107 = .ok (.goto 32, 3) := by decide +kernel
theorem dX11_works_110 : decode cX11_works 110 = .ok (.iload 7, 2) := by decide +kernel
theorem dX11_works_112 : decode cX11_works 112 = .ok (.bipush 6, 2) := by decide +kernel
theorem dX11_works_114 : decode cX11_works 114 = .ok (.if_icmp .lt 19, 3) := by decide +kernel
theorem dX11_works_117 : decode cX11_works 117 = .ok (.iload 7, 2) := by decide +kernel
theorem dX11_works_119 : decode cX11_works 119 = .ok (.bipush 8, 2) := by decide +kernel
theorem dX11_works_121 : decode cX11_works 121 = .ok (.if_icmp .gt 12, 3) := by decide +kernel
theorem dX11_works_124 : decode cX11_works 124 = .ok (.aload_n 0, 1) := by decide +kernel
theorem dX11_works_125 : decode cX11_works 125 = .ok (.iload 7, 2) := by decide +kernel
theorem dX11_works_127 : decode cX11_works 127 = .ok (.invokevirtual 275, 3) := by decide +kernel
theorem dX11_works_130 : decode cX11_works 130 = .ok (.goto 9, 3) := by decide +kernel
theorem dX11_works_133 : decode cX11_works 133 = .ok (.aload_n 0, 1) := by decide +kernel
theorem dX11_works_134 : decode cX11_works 134 = .ok (.iload 7, 2) := by decide +kernel
theorem dX11_works_136 : decode cX11_works 136 = .ok (.invokevirtual 278, 3) := by decide +kernel
theorem dX11_works_139 : decode cX11_works 139 = .ok (.iinc 6 1, 3) := by decide +kernel
theorem dX11_works_142 : decode cX11_works 142 = .ok (.goto (-130), 3) := by decide +kernel
theorem dX11_works_145 : decode cX11_works 145 = .ok (.return_, 1) := by decide +kernel
theorem dX11_value_0 : decode cX11_value 0 = .ok (.iload_n 1, 1) := by decide +kernel
theorem dX11_value_1 : decode cX11_value 1 = .ok (.i2l, 1) := by decide +kernel
theorem dX11_value_2 : decode cX11_value 2 = .ok (.lconst 0, 1) := by decide +kernel
theorem dX11_value_3 : decode cX11_value 3 = .ok (.aload_n 0, 1) := by decide +kernel
theorem dX11_value_4 : decode cX11_value 4 = .ok (.getfield 239, 3) := by decide +kernel
theorem dX11_value_7 : decode cX11_value 7 = .ok (.iconst 1, 1) := by decide +kernel
theorem dX11_value_8 : decode cX11_value 8 = .ok (.isub, 1) := by decide +kernel
theorem dX11_value_9 : decode cX11_value 9 = .ok (.i2l, 1) := by decide +kernel
theorem dX11_value_10 : decode cX11_value 10 = .ok (.invokestatic 143, 3) := by decide +kernel
theorem dX11_value_13 : decode cX11_value 13 = .ok (.ifCond .eq 26, 3) := by decide +kernel
theorem dX11_value_16 : decode cX11_value 16 = .ok (.iload_n 3, 1) := by decide +kernel
theorem dX11_value_17 : decode cX11_value 17 = .ok (.i2l, 1) := by decide +kernel
theorem dX11_value_18 : decode cX11_value 18 = .ok (.lconst 1, 1) := by decide +kernel
theorem dX11_value_19 : decode cX11_value 19 = .ok (.ldc2_w 281, 3) := by decide +kernel
theorem dX11_value_22 : decode cX11_value 22 = .ok (.invokestatic 143, 3) := by decide +kernel
theorem dX11_value_25 : decode cX11_value 25 = .ok (.ifCond .eq 14, 3) := by decide +kernel
theorem dX11_value_28 : decode cX11_value 28 = .ok (.iload 4, 2) := by decide +kernel
theorem dX11_value_30 : decode cX11_value 30 = .ok (.i2l, 1) := by decide +kernel
theorem dX11_value_31 : decode cX11_value 31 = .ok (.lconst 0, 1) := by decide +kernel
theorem dX11_value_32 : decode cX11_value 32 = .ok (.lconst 1, 1) := by decide +kernel
theorem dX11_value_33 : decode cX11_value 33 = .ok (.invokestatic 143, 3) := by decide +kernel
theorem dX11_value_36 : decode cX11_value 36 = .ok (.ifCond .ne 7, 3) := by decide +kernel
theorem dX11_value_39 : decode cX11_value 39 = .ok (.ldc_w 283, 3) := by decide +kernel
theorem dX11_value_42 : decode cX11_value 42 = .ok (.ireturn, 1) := by decide +kernel
theorem dX11_value_43 : decode cX11_value 43 = .ok (.aload_n 0, 1) := by decide +kernel
theorem dX11_value_44 : decode cX11_value 44 = .ok (.iconst 0, 1) := by decide +kernel
theorem dX11_value_45 : decode cX11_value 45 = .ok (.iload_n 2, 1) := by decide +kernel
theorem dX11_value_46 : decode cX11_value 46 = .ok (.i2l, 1) := by decide +kernel
theorem dX11_value_47 : decode cX11_value 47 = .ok (.iload_n 3, 1) := by decide +kernel
theorem dX11_value_48 : decode cX11_value 48 = .ok (.i2l, 1) := by decide +kernel
theorem dX11_value_49 : decode cX11_value 49 = .ok (.invokevirtual 257, 3) := by decide +kernel
theorem dX11_value_52 : decode cX11_value 52 = .ok (.aload_n 0, 1) := by decide +kernel
theorem dX11_value_53 : decode cX11_value 53 = .ok (.getfield 119, 3) := by decide +kernel
theorem dX11_value_56 : decode cX11_value 56 = .ok (.iconst 0, 1) := by decide +kernel
theorem dX11_value_57 : decode cX11_value 57 = .ok (.laload, 1) := by decide +kernel
theorem dX11_value_58 : decode cX11_value 58 = .ok (.lconst 0, 1) := by decide +kernel
theorem dX11_value_59 : decode cX11_value 59 = .ok (.lcmp, 1) := by decide +kernel
theorem dX11_value_60 : decode cX11_value 60 = .ok (.ifCond .ne 7, 3) := by decide +kernel
theorem dX11_value_63 : decode cX11_value 63 = .ok (.ldc_w 283, 3) := by decide +kernel
theorem dX11_value_66 : decode cX11_value 66 = .ok (.ireturn, 1) := by decide +kernel
theorem dX11_value_67 : decode cX11_value 67 = .ok (.aload_n 0, 1) := by decide +kernel
theorem dX11_value_68 : decode cX11_value 68 = .ok (.iload_n 1, 1) := by decide +kernel
theorem dX11_value_69 : decode cX11_value 69 = .ok (.iload_n 2, 1) := by decide +kernel
theorem dX11_value_70 : decode cX11_value 70 = .ok (.i2l, 1) := by decide +kernel
theorem dX11_value_71 : decode cX11_value 71 = .ok (.iload_n 3, 1) := by decide +kernel
theorem dX11_value_72 : decode cX11_value 72 = .ok (.i2l, 1) := by decide +kernel
theorem dX11_value_73 : decode cX11_value 73 = .ok (.invokevirtual 284, 3) := by decide +kernel
theorem dX11_value_76 : decode cX11_value 76 = .ok (.aload_n 0, 1) := by decide +kernel
theorem dX11_value_77 : decode cX11_value 77 = .ok (.getfield 119, 3) := by decide +kernel
theorem dX11_value_80 : decode cX11_value 80 = .ok (.iconst 0, 1) := by decide +kernel
theorem dX11_value_81 : decode cX11_value 81 = .ok (.laload, 1) := by decide +kernel
theorem dX11_value_82 : decode cX11_value 82 = .ok (.lconst 0, 1) := by decide +kernel
theorem dX11_value_83 : decode cX11_value 83 = .ok (.lcmp, 1) := by decide +kernel
theorem dX11_value_84 : decode cX11_value 84 = .ok (.ifCond .ne 9, 3) := by decide +kernel
theorem dX11_value_87 : decode cX11_value 87 = .ok (.ldc_w 283, 3) := by decide +kernel
theorem dX11_value_90 : decode cX11_value 90 = .ok (.goto 24, 3) := by decide +kernel
theorem dX11_value_93 : decode cX11_value 93 = .ok (.iload 4, 2) := by decide +kernel
theorem dX11_value_95 : decode cX11_value 95 = .ok (.ifCond .ne 12, 3) := by decide +kernel
theorem dX11_value_98 : decode cX11_value 98 = .ok (.aload_n 0, 1) := by decide +kernel
theorem dX11_value_99 : decode cX11_value 99 = .ok (.getfield 115, 3) := by decide +kernel
theorem dX11_value_102 : decode cX11_value 102 = .ok (.iconst 0, 1) := by decide +kernel
theorem dX11_value_103 : decode cX11_value 103 = .ok (.laload, 1) := by decide +kernel
theorem dX11_value_104 : decode cX11_value 104 = .ok (.goto 9, 3) := by decide +kernel
theorem dX11_value_107 : decode cX11_value 107 = .ok (.aload_n 0, 1) := by decide +kernel
theorem dX11_value_108 : decode cX11_value 108 = .ok (.getfield 119, 3) := by decide +kernel
theorem dX11_value_111 : decode cX11_value 111 = .ok (.iconst 0, 1) := by decide +kernel
theorem dX11_value_112 : decode cX11_value 112 = .ok (.laload, 1) := by decide +kernel
theorem dX11_value_113 : decode cX11_value 113 = .ok (.l2i, 1) := by decide +kernel
theorem dX11_value_114 : decode cX11_value 114 = .ok (.ireturn, 1) := by decide +kernel
theorem dX11_go_0 : decode cX11_go 0 = .ok (.iload_n 1, 1) := by decide +kernel
theorem dX11_go_1 : decode cX11_go 1 = .ok (.i2l, 1) := by decide +kernel
theorem dX11_go_2 : decode cX11_go 2 = .ok (.lconst 0, 1) := by decide +kernel
theorem dX11_go_3 : decode cX11_go 3 = .ok (.ldc2_w 270, 3) := by decide +kernel
theorem dX11_go_6 : decode cX11_go 6 = .ok (.invokestatic 143, 3) := by decide +kernel
theorem dX11_go_9 : decode cX11_go 9 = .ok (.ifCond .ne 5, 3) := by decide +kernel
theorem dX11_go_12 : decode cX11_go 12 = .ok (.iconst (-1), 1) := by decide +kernel
theorem dX11_go_13 : decode cX11_go 13 = .ok (.ireturn, 1) := by decide +kernel
theorem dX11_go_14 : decode cX11_go 14 = .ok (.aload_n 0, 1) := by decide +kernel
theorem dX11_go_15 : decode cX11_go 15 = .ok (.aload_n 0, 1) := by decide +kernel
theorem dX11_go_16 : decode cX11_go 16 = .ok (.getfield 287, 3) := by decide +kernel
theorem dX11_go_19 : decode cX11_go 19 = .ok (.iload_n 1, 1) := by decide +kernel
theorem dX11_go_20 : decode cX11_go 20 = .ok (.iadd, 1) := by decide +kernel
theorem dX11_go_21 : decode cX11_go 21 = .ok (.sipush 999, 3) := by decide +kernel
theorem dX11_go_24 : decode cX11_go 24 = .ok (.if_icmp .le 9, 3) := by decide +kernel
theorem dX11_go_27 : decode cX11_go 27 = .ok (.sipush 999, 3) := by decide +kernel
theorem dX11_go_30 : decode cX11_go 30 = .ok (.goto 9, 3) := by decide +kernel
theorem dX11_go_33 : decode cX11_go 33 = .ok (.aload_n 0, 1) := by decide +kernel
theorem dX11_go_34 : decode cX11_go 34 = .ok (.getfield 287, 3) := by decide +kernel
theorem dX11_go_37 : decode cX11_go 37 = .ok (.iload_n 1, 1) := by decide +kernel
theorem dX11_go_38 : decode cX11_go 38 = .ok (.iadd, 1) := by decide +kernel
theorem dX11_go_39 : decode cX11_go 39 = .ok (.putfield 287, 3) := by decide +kernel
theorem dX11_go_42 : decode cX11_go 42 = .ok (.aload_n 0, 1) := by decide +kernel
theorem dX11_go_43 : decode cX11_go 43 = .ok (.getfield 287, 3) := by decide +kernel
theorem dX11_go_46 : decode cX11_go 46 = .ok (.ireturn, 1) := by decide +kernel
theorem dX11_nearest_0 : decode cX11_nearest 0 = .ok (.lload_n 0, 1) := by decide +kernel
theorem dX11_nearest_1 : decode cX11_nearest 1 = .ok (.lconst 0, 1) := by decide +kernel
theorem dX11_nearest_2 : decode cX11_nearest 2 = .ok (.lcmp, 1) := by decide +kernel
theorem dX11_nearest_3 : decode cX11_nearest 3 = .ok (.ifCond .ge 8, 3) := by decide +kernel
theorem dX11_nearest_6 : decode cX11_nearest 6 = .ok (.lload_n 0, 1) := by decide +kernel
theorem dX11_nearest_7 : decode cX11_nearest 7 = .ok (.lneg, 1) := by decide +kernel
theorem dX11_nearest_8 : decode cX11_nearest 8 = .ok (.goto 4, 3) := by decide +kernel
theorem dX11_nearest_11 : decode cX11_nearest 11 = .ok (.lload_n 0, 1) := by decide +kernel
theorem dX11_nearest_12 : decode cX11_nearest 12 = .ok (.ldc2_w 252, 3) := by decide +kernel
theorem dX11_nearest_15 : decode cX11_nearest 15 = .ok (.lmul, 1) := by decide +kernel
theorem dX11_nearest_16 : decode cX11_nearest 16 = .ok (.lload_n 2, 1) := by decide +kernel
theorem dX11_nearest_17 : decode cX11_nearest 17 = .ok (.ladd, 1) := by decide +kernel
theorem dX11_nearest_18 : decode cX11_nearest 18 = .ok (.ldc2_w 252, 3) := by decide +kernel
theorem dX11_nearest_21 : decode cX11_nearest 21 = .ok (.lload_n 2, 1) := by decide +kernel
theorem dX11_nearest_22 : decode cX11_nearest 22 = .ok (.lmul, 1) := by decide +kernel
theorem dX11_nearest_23 : decode cX11_nearest 23 = .ok (.ldiv, 1) := by decide +kernel
theorem dX11_nearest_24 : decode cX11_nearest 24 = .ok (.lstore 4, 2) := by decide +kernel
theorem dX11_nearest_26 : decode cX11_nearest 26 = .ok (.lload_n 0, 1) := by decide +kernel
theorem dX11_nearest_27 : decode cX11_nearest 27 = .ok (.lconst 0, 1) := by decide +kernel
theorem dX11_nearest_28 : decode cX11_nearest 28 = .ok (.lcmp, 1) := by decide +kernel
theorem dX11_nearest_29 : decode cX11_nearest 29 = .ok (.ifCond .ge 9, 3) := by decide +kernel
theorem dX11_nearest_32 : decode cX11_nearest 32 = .ok (.lload 4, 2) := by decide +kernel
theorem dX11_nearest_34 : decode cX11_nearest 34 = .ok (.lneg, 1) := by decide +kernel
theorem dX11_nearest_35 : decode cX11_nearest 35 = .ok (.goto 5, 3) := by decide +kernel
theorem dX11_nearest_38 : decode cX11_nearest 38 = .ok (.lload 4, 2) := by decide +kernel
theorem dX11_nearest_40 : decode cX11_nearest 40 = .ok (.lreturn, 1) := by decide +kernel
theorem dX11_table_0 : decode cX11_table 0 = .ok (.iload_n 1, 1) := by decide +kernel
theorem dX11_table_1 : decode cX11_table 1 = .ok (.i2l, 1) := by decide +kernel
theorem dX11_table_2 : decode cX11_table 2 = .ok (.lconst 0, 1) := by decide +kernel
theorem dX11_table_3 : decode cX11_table 3 = .ok (.aload_n 0, 1) := by decide +kernel
theorem dX11_table_4 : decode cX11_table 4 = .ok (.getfield 239, 3) := by decide +kernel
theorem dX11_table_7 : decode cX11_table 7 = .ok (.iconst 1, 1) := by decide +kernel
theorem dX11_table_8 : decode cX11_table 8 = .ok (.isub, 1) := by decide +kernel
theorem dX11_table_9 : decode cX11_table 9 = .ok (.i2l, 1) := by decide +kernel
theorem dX11_table_10 : decode cX11_table 10 = .ok (.invokestatic 143, 3) := by decide +kernel
theorem dX11_table_13 : decode cX11_table 13 = .ok (.ifCond .eq 93, 3) := by decide +kernel
theorem dX11_table_16 : decode cX11_table 16 = .ok (.iload_n 2, 1) := by decide +kernel
theorem dX11_table_17 : decode cX11_table 17 = .ok (.i2l, 1) := by decide +kernel
theorem dX11_table_18 : decode cX11_table 18 = .ok (.ldc2_w 290, 3) := by decide +kernel
theorem dX11_table_21 : decode cX11_table 21 = .ok (.ldc2_w 292, 3) := by decide +kernel
theorem dX11_table_24 : decode cX11_table 24 = .ok (.invokestatic 143, 3) := by decide +kernel
theorem dX11_table_27 : decode cX11_table 27 = .ok (.ifCond .eq 79, 3) := by decide +kernel
theorem dX11_table_30 : decode cX11_table 30 = .ok (.iload_n 3, 1) := by decide +kernel
theorem dX11_table_31 : decode cX11_table 31 = .ok (.ifCond .lt 75, 3) := by decide +kernel
theorem dX11_table_34 : decode cX11_table 34 = .ok (.iload_n 3, 1) := by decide +kernel
theorem dX11_table_35 : decode cX11_table 35 = .ok (.sipush 1000, 3) := by decide +kernel
theorem dX11_table_38 : decode cX11_table 38 = .ok (.idiv, 1) := by decide +kernel
theorem dX11_table_39 : decode cX11_table 39 = .ok (.i2l, 1) := by decide +kernel
theorem dX11_table_40 : decode cX11_table 40 = .ok (.lconst 1, 1) := by decide +kernel
theorem dX11_table_41 : decode cX11_table 41 = .ok (.ldc2_w 270, 3) := by decide +kernel
theorem dX11_table_44 : decode cX11_table 44 = .ok (.invokestatic 143, 3) := by decide +kernel
theorem dX11_table_47 : decode cX11_table 47 = .ok (.ifCond .eq 59, 3) := by decide +kernel
theorem dX11_table_50 : decode cX11_table 50 = .ok (.iload_n 3, 1) := by decide +kernel
theorem dX11_table_51 : decode cX11_table 51 = .ok (.sipush 1000, 3) := by decide +kernel
theorem dX11_table_54 : decode cX11_table 54 = .ok (.irem, 1) := by decide +kernel
theorem dX11_table_55 : decode cX11_table 55 = .ok (.i2l, 1) := by decide +kernel
theorem dX11_table_56 : decode cX11_table 56 = .ok (.lconst 1, 1) := by decide +kernel
theorem dX11_table_57 : decode cX11_table 57 = .ok (.ldc2_w 270, 3) := by decide +kernel
theorem dX11_table_60 : decode cX11_table 60 = .ok (.invokestatic 143, 3) := by decide +kernel
theorem dX11_table_63 : decode cX11_table 63 = .ok (.ifCond .eq 43, 3) := by decide +kernel
theorem dX11_table_66 : decode cX11_table 66 = .ok (.iload 4, 2) := by decide +kernel
theorem dX11_table_68 : decode cX11_table 68 = .ok (.ifCond .lt 38, 3) := by decide +kernel
theorem dX11_table_71 : decode cX11_table 71 = .ok (.iload 4, 2) := by decide +kernel
theorem dX11_table_73 : decode cX11_table 73 = .ok (.bipush 10, 2) := by decide +kernel
theorem dX11_table_75 : decode cX11_table 75 = .ok (.idiv, 1) := by decide +kernel
theorem dX11_table_76 : decode cX11_table 76 = .ok (.i2l, 1) := by decide +kernel
theorem dX11_table_77 : decode cX11_table 77 = .ok (.ldc2_w 294, 3) := by decide +kernel
theorem dX11_table_80 : decode cX11_table 80 = .ok (.ldc2_w 296, 3) := by decide +kernel
theorem dX11_table_83 : decode cX11_table 83 = .ok (.invokestatic 143, 3) := by decide +kernel
theorem dX11_table_86 : decode cX11_table 86 = .ok (.ifCond .eq 20, 3) := by decide +kernel
theorem dX11_table_89 : decode cX11_table 89 = .ok (.iload 4, 2) := by decide +kernel
theorem dX11_table_91 : decode cX11_table 91 = .ok (.bipush 10, 2) := by decide +kernel
theorem dX11_table_93 : decode cX11_table 93 = .ok (.irem, 1) := by decide +kernel
theorem dX11_table_94 : decode cX11_table 94 = .ok (.iconst 4, 1) := by decide +kernel
theorem dX11_table_95 : decode cX11_table 95 = .ok (.if_icmp .gt 11, 3) := by decide +kernel
theorem dX11_table_98 : decode cX11_table 98 = .ok (.aload_n 0, 1) := by decide +kernel
theorem dX11_table_99 : decode cX11_table 99 = .ok (.getfield 298, 3) := by decide +kernel
theorem dX11_table_102 : decode cX11_table 102 = .ok (.iconst 5, 1) := by decide +kernel
theorem dX11_table_103 : decode cX11_table 103 = .ok (.if_icmp .ne 5, 3) := by decide +kernel
theorem dX11_table_106 : decode cX11_table 106 = .ok (.iconst (-1), 1) := by decide +kernel
theorem dX11_table_107 : decode cX11_table 107 = .ok (.ireturn, 1) := by decide +kernel
theorem dX11_table_108 : decode cX11_table 108 = .ok (.lconst 1, 1) := by decide +kernel
theorem dX11_table_109 : decode cX11_table 109 = .ok (.lstore 5, 2) := by decide +kernel
theorem dX11_table_111 : decode cX11_table 111 = .ok (.iconst 0, 1) := by decide +kernel
theorem dX11_table_112 : decode cX11_table 112 = .ok (.istore 7, 2) := by decide +kernel
theorem dX11_table_114 : decode cX11_table 114 = .ok (.iload 7, 2) := by decide +kernel
theorem dX11_table_116 : decode cX11_table 116 = .ok (.iload 4, 2) := by decide +kernel
theorem dX11_table_118 : decode cX11_table 118 = .ok (.bipush 10, 2) := by decide +kernel
theorem dX11_table_120 : decode cX11_table 120 = .ok (.irem, 1) := by decide +kernel
theorem dX11_table_121 : decode cX11_table 121 = .ok (.if_icmp .ge 17, 3) := by decide +kernel
theorem dX11_table_124 : decode cX11_table 124 = .ok (.lload 5, 2) := by decide +kernel
theorem dX11_table_126 : decode cX11_table 126 = .ok (.ldc2_w 301, 3) := by decide +kernel
theorem dX11_table_129 : decode cX11_table 129 = .ok (.lmul, 1) := by decide +kernel
theorem dX11_table_130 : decode cX11_table 130 = .ok (.lstore 5, 2) := by decide +kernel
theorem dX11_table_132 : decode cX11_table 132 = .ok (.iinc 7 1, 3) := by decide +kernel
theorem dX11_table_135 : decode cX11_table 135 = .ok (.goto (-21), 3) := by decide +kernel
theorem dX11_table_138 : decode cX11_table 138 = .ok (.aload_n 0, 1) := by decide +kernel
theorem dX11_table_139 : decode cX11_table 139 = .ok (.getfield 32, 3) := by decide +kernel
theorem dX11_table_142 : decode cX11_table 142 = .ok (.aload_n 0, 1) := by decide +kernel
theorem dX11_table_143 : decode cX11_table 143 = .ok (.getfield 298, 3) := by decide +kernel
theorem dX11_table_146 : decode cX11_table 146 = .ok (.iload 4, 2) := by decide +kernel
theorem dX11_table_148 : decode cX11_table 148 = .ok (.bipush 10, 2) := by decide +kernel
theorem dX11_table_150 : decode cX11_table 150 = .ok (.idiv, 1) := by decide +kernel
theorem dX11_table_151 : decode cX11_table 151 = .ok (.iastore, 1) := by decide +kernel
theorem dX11_table_152 : decode cX11_table 152 = .ok (.iconst 0, 1) := by decide +kernel
theorem dX11_table_153 : decode cX11_table 153 = .ok (.istore 7, 2) := by decide +kernel
theorem dX11_table_155 : decode cX11_table 155 = .ok (.iload 7, 2) := by decide +kernel
theorem dX11_table_157 : decode cX11_table 157 = .ok (.aload_n 0, 1) := by decide +kernel
theorem dX11_table_158 : decode cX11_table 158 = .ok (.getfield 32, 3) := by decide +kernel
theorem dX11_table_161 : decode cX11_table 161 = .ok (.aload_n 0, 1) := by decide +kernel
theorem dX11_table_162 : decode cX11_table 162 = .ok (.getfield 298, 3) := by decide +kernel
theorem dX11_table_165 : decode cX11_table 165 = .ok (.iaload, 1) := by decide +kernel
theorem dX11_table_166 : decode cX11_table 166 = .ok (.if_icmp .ge 142, 3) := by decide +kernel
theorem dX11_table_169 : decode cX11_table 169 = .ok (.bipush 30, 2) := by decide +kernel
theorem dX11_table_171 : decode cX11_table 171 = .ok (.aload_n 0, 1) := by decide +kernel
theorem dX11_table_172 : decode cX11_table 172 = .ok (.getfield 298, 3) := by decide +kernel
theorem dX11_table_175 : decode cX11_table 175 = .ok (.imul, 1) := by decide +kernel
theorem dX11_table_176 : decode cX11_table 176 = .ok (.iload 7, 2) := by decide +kernel
theorem dX11_table_178 : decode cX11_table 178 = .ok (.iadd, 1) := by decide +kernel
theorem dX11_table_179 : decode cX11_table 179 = .ok (.istore 8, 2) := by decide +kernel
theorem dX11_table_181 : decode cX11_table 181 = .ok (.aload_n 0, 1) := by decide +kernel
theorem dX11_table_182 : decode cX11_table 182 = .ok (.iload_n 1, 1) := by decide +kernel
theorem dX11_table_183 : decode cX11_table 183 = .ok (.iload_n 2, 1) := by decide +kernel
theorem dX11_table_184 : decode cX11_table 184 = .ok (.iload 7, 2) := by decide +kernel
theorem dX11_table_186 : decode cX11_table 186 = .ok (.iload_n 3, 1) := by decide +kernel
theorem dX11_table_187 : decode cX11_table 187 = .ok (.sipush 1000, 3) := by decide +kernel
theorem dX11_table_190 : decode cX11_table 190 = .ok (.idiv, 1) := by decide +kernel
theorem dX11_table_191 : decode cX11_table 191 = .ok (.imul, 1) := by decide +kernel
theorem dX11_table_192 : decode cX11_table 192 = .ok (.iadd, 1) := by decide +kernel
theorem dX11_table_193 : decode cX11_table 193 = .ok (.i2l, 1) := by decide +kernel
theorem dX11_table_194 : decode cX11_table 194 = .ok (.iload_n 3, 1) := by decide +kernel
theorem dX11_table_195 : decode cX11_table 195 = .ok (.sipush 1000, 3) := by decide +kernel
theorem dX11_table_198 : decode cX11_table 198 = .ok (.irem, 1) := by decide +kernel
theorem dX11_table_199 : decode cX11_table 199 = .ok (.i2l, 1) := by decide +kernel
theorem dX11_table_200 : decode cX11_table 200 = .ok (.invokevirtual 284, 3) := by decide +kernel
theorem dX11_table_203 : decode cX11_table 203 = .ok (.aload_n 0, 1) := by decide +kernel
theorem dX11_table_204 : decode cX11_table 204 = .ok (.getfield 35, 3) := by decide +kernel
theorem dX11_table_207 : decode cX11_table 207 = .ok (.iload 8, 2) := by decide +kernel
theorem dX11_table_209 : decode cX11_table 209 = .ok (.ldc_w 283, 3) := by decide +kernel
theorem dX11_table_212 : decode cX11_table 212 = .ok (.iastore, 1) := by decide +kernel
theorem dX11_table_213 : decode cX11_table 213 = .ok (.aload_n 0, 1) := by decide +kernel
theorem dX11_table_214 : decode cX11_table 214 = .ok (.getfield 119, 3) := by decide +kernel
theorem dX11_table_217 : decode cX11_table 217 = .ok (.iconst 0, 1) := by decide +kernel
theorem dX11_table_218 : decode cX11_table 218 = .ok (.laload, 1) := by decide +kernel
theorem dX11_table_219 : decode cX11_table 219 = .ok (.lconst 0, 1) := by decide +kernel
theorem dX11_table_220 : decode cX11_table 220 = .ok (.lcmp, 1) := by decide +kernel
theorem dX11_table_221 : decode cX11_table 221 = .ok (.ifCond .eq 47, 3) := by decide +kernel
theorem dX11_table_224 : decode cX11_table 224 = .ok (.aload_n 0, 1) := by decide +kernel
theorem dX11_table_225 : decode cX11_table 225 = .ok (.getfield 115, 3) := by decide +kernel
theorem dX11_table_228 : decode cX11_table 228 = .ok (.iconst 0, 1) := by decide +kernel
theorem dX11_table_229 : decode cX11_table 229 = .ok (.laload, 1) := by decide +kernel
theorem dX11_table_230 : decode cX11_table 230 = .ok (.lload 5, 2) := by decide +kernel
theorem dX11_table_232 : decode cX11_table 232 = .ok (.lmul, 1) := by decide +kernel
theorem dX11_table_233 : decode cX11_table 233 = .ok (.aload_n 0, 1) := by decide +kernel
theorem dX11_table_234 : decode cX11_table 234 = .ok (.getfield 119, 3) := by decide +kernel
theorem dX11_table_237 : decode cX11_table 237 = .ok (.iconst 0, 1) := by decide +kernel
theorem dX11_table_238 : decode cX11_table 238 = .ok (.laload, 1) := by decide +kernel
theorem dX11_table_239 : decode cX11_table 239 = .ok (.invokestatic 303, 3) := by decide +kernel
theorem dX11_table_242 : decode cX11_table 242 = .ok (.lstore 9, 2) := by decide +kernel
theorem dX11_table_244 : decode cX11_table 244 = .ok (.lload 9, 2) := by decide +kernel
theorem dX11_table_246 : decode cX11_table 246 = .ok (.ldc2_w 306, 3) := by decide +kernel
theorem dX11_table_249 : decode cX11_table 249 = .ok (.ldc2_w 308, 3) := by decide +kernel
theorem dX11_table_252 : decode cX11_table 252 = .ok (.invokestatic 143, 3) := by decide +kernel
theorem dX11_table_255 : decode cX11_table 255 = .ok (.ifCond .eq 13, 3) := by decide +kernel
theorem dX11_table_258 : decode cX11_table 258 = .ok (.aload_n 0, 1) := by decide +kernel
theorem dX11_table_259 : decode cX11_table 259 = .ok (.getfield 35, 3) := by decide +kernel
theorem dX11_table_262 : decode cX11_table 262 = .ok (.iload 8, 2) := by decide +kernel
theorem dX11_table_264 : decode cX11_table 264 = .ok (.lload 9, 2) := by decide +kernel
theorem dX11_table_266 : decode cX11_table 266 = .ok (.l2i, 1) := by decide +kernel
theorem dX11_table_267 : decode cX11_table 267 = .ok (.iastore, 1) := by decide +kernel
theorem dX11_table_268 : decode cX11_table 268 = .ok (.aload_n 0, 1) := by decide +kernel
theorem dX11_table_269 : decode cX11_table 269 = .ok (.getfield 47, 3) := by decide +kernel
theorem dX11_table_272 : decode cX11_table 272 = .ok (.iload 8, 2) := by decide +kernel
theorem dX11_table_274 : decode cX11_table 274 = .ok (.iconst (-1), 1) := by decide +kernel
theorem dX11_table_275 : decode cX11_table 275 = .ok (.iastore, 1) := by decide +kernel
theorem dX11_table_276 : decode cX11_table 276 = .ok (.aload_n 0, 1) := by decide +kernel
theorem dX11_table_277 : decode cX11_table 277 = .ok (.getfield 56, 3) := by decide +kernel
theorem dX11_table_280 : decode cX11_table 280 = .ok (.iload 8, 2) := by decide +kernel
theorem dX11_table_282 : decode cX11_table 282 = .ok (.iconst (-1), 1) := by decide +kernel
theorem dX11_table_283 : decode cX11_table 283 = .ok (.iastore, 1) := by decide +kernel
theorem dX11_table_284 : decode cX11_table 284 = .ok (.aload_n 0, 1) := by decide +kernel
theorem dX11_table_285 : decode cX11_table 285 = .ok (.getfield 65, 3) := by decide +kernel
theorem dX11_table_288 : decode cX11_table 288 = .ok (.iload 8, 2) := by decide +kernel
theorem dX11_table_290 : decode cX11_table 290 = .ok (.iconst (-1), 1) := by decide +kernel
theorem dX11_table_291 : decode cX11_table 291 = .ok (.iastore, 1) := by decide +kernel
theorem dX11_table_292 : decode cX11_table 292 = .ok (.aload_n 0, 1) := by decide +kernel
theorem dX11_table_293 : decode cX11_table 293 = .ok (.getfield 97, 3) := by decide +kernel
theorem dX11_table_296 : decode cX11_table 296 = .ok (.iload 8, 2) := by decide +kernel
theorem dX11_table_298 : decode cX11_table 298 = .ok (.ldc_w 283, 3) := by decide +kernel
theorem dX11_table_301 : decode cX11_table 301 = .ok (.iastore, 1) := by decide +kernel
theorem dX11_table_302 : decode cX11_table 302 = .ok (.iinc 7 1, 3) := by decide +kernel
theorem dX11_table_305 : decode cX11_table 305 = .ok (.goto (-150), 3) := by decide +kernel
theorem dX11_table_308 : decode cX11_table 308 = .ok (.aload_n 0, 1) := by decide +kernel
theorem dX11_table_309 : decode cX11_table 309 = .ok (.dup, 1) := by decide +kernel
theorem dX11_table_310 : decode cX11_table 310 = .ok (.getfield 298, 3) := by decide +kernel
theorem dX11_table_313 : decode cX11_table 313 = .ok (.iconst 1, 1) := by decide +kernel
theorem dX11_table_314 : decode cX11_table 314 = .ok (.iadd, 1) := by decide +kernel
theorem dX11_table_315 : decode cX11_table 315 = .ok (.putfield 298, 3) := by decide +kernel
theorem dX11_table_318 : decode cX11_table 318 = .ok (.aload_n 0, 1) := by decide +kernel
theorem dX11_table_319 : decode cX11_table 319 = .ok (.getfield 298, 3) := by decide +kernel
theorem dX11_table_322 : decode cX11_table 322 = .ok (.iconst 1, 1) := by decide +kernel
theorem dX11_table_323 : decode cX11_table 323 = .ok (.isub, 1) := by decide +kernel
theorem dX11_table_324 : decode cX11_table 324 = .ok (.ireturn, 1) := by decide +kernel
theorem dX11_isTable_0 : decode cX11_isTable 0 = .ok (.iload_n 1, 1) := by decide +kernel
theorem dX11_isTable_1 : decode cX11_isTable 1 = .ok (.i2l, 1) := by decide +kernel
theorem dX11_isTable_2 : decode cX11_isTable 2 = .ok (.lconst 0, 1) := by decide +kernel
theorem dX11_isTable_3 : decode cX11_isTable 3 = .ok (.aload_n 0, 1) := by decide +kernel
theorem dX11_isTable_4 : decode cX11_isTable 4 = .ok (.getfield 298, 3) := by decide +kernel
theorem dX11_isTable_7 : decode cX11_isTable 7 = .ok (.iconst 1, 1) := by decide +kernel
theorem dX11_isTable_8 : decode cX11_isTable 8 = .ok (.isub, 1) := by decide +kernel
theorem dX11_isTable_9 : decode cX11_isTable 9 = .ok (.i2l, 1) := by decide +kernel
theorem dX11_isTable_10 : decode cX11_isTable 10 = .ok (.invokestatic 143, 3) := by decide +kernel
theorem dX11_isTable_13 : decode cX11_isTable 13 = .ok (.ireturn, 1) := by decide +kernel
theorem dX11_isEntry_0 : decode cX11_isEntry 0 = .ok (.aload_n 0, 1) := by decide +kernel
theorem dX11_isEntry_1 : decode cX11_isEntry 1 = .ok (.iload_n 1, 1) := by decide +kernel
theorem dX11_isEntry_2 : decode cX11_isEntry 2 = .ok (.invokevirtual 310, 3) := by decide +kernel
theorem dX11_isEntry_5 : decode cX11_isEntry 5 = .ok (.ifCond .eq 25, 3) := by decide +kernel
theorem dX11_isEntry_8 : decode cX11_isEntry 8 = .ok (.iload_n 2, 1) := by decide +kernel
theorem dX11_isEntry_9 : decode cX11_isEntry 9 = .ok (.i2l, 1) := by decide +kernel
theorem dX11_isEntry_10 : decode cX11_isEntry 10 = .ok (.lconst 0, 1) := by decide +kernel
theorem dX11_isEntry_11 : decode cX11_isEntry 11 = .ok (.aload_n 0, 1) := by decide +kernel
theorem dX11_isEntry_12 : decode cX11_isEntry 12 = .ok (.getfield 32, 3) := by decide +kernel
theorem dX11_isEntry_15 : decode cX11_isEntry 15 = .ok (.iload_n 1, 1) := by decide +kernel
theorem dX11_isEntry_16 : decode cX11_isEntry 16 = .ok (.iaload, 1) := by decide +kernel
theorem dX11_isEntry_17 : decode cX11_isEntry 17 = .ok (.iconst 1, 1) := by decide +kernel
theorem dX11_isEntry_18 : decode cX11_isEntry 18 = .ok (.isub, 1) := by decide +kernel
theorem dX11_isEntry_19 : decode cX11_isEntry 19 = .ok (.i2l, 1) := by decide +kernel
theorem dX11_isEntry_20 : decode cX11_isEntry 20 = .ok (.invokestatic 143, 3) := by decide +kernel
theorem dX11_isEntry_23 : decode cX11_isEntry 23 = .ok (.ifCond .eq 7, 3) := by decide +kernel
theorem dX11_isEntry_26 : decode cX11_isEntry 26 = .ok (.iconst 1, 1) := by decide +kernel
theorem dX11_isEntry_27 : decode cX11_isEntry 27 = .ok (.goto 4, 3) := by decide +kernel
theorem dX11_isEntry_30 : decode cX11_isEntry 30 = .ok (.iconst 0, 1) := by decide +kernel
theorem dX11_isEntry_31 : decode cX11_isEntry 31 = .ok (.ireturn, 1) := by decide +kernel
theorem dX11_place_0 : decode cX11_place 0 = .ok (.bipush 30, 2) := by decide +kernel
theorem dX11_place_2 : decode cX11_place 2 = .ok (.iload_n 0, 1) := by decide +kernel
theorem dX11_place_3 : decode cX11_place 3 = .ok (.imul, 1) := by decide +kernel
theorem dX11_place_4 : decode cX11_place 4 = .ok (.iload_n 1, 1) := by decide +kernel
theorem dX11_place_5 : decode cX11_place 5 = .ok (.iadd, 1) := by decide +kernel
theorem dX11_place_6 : decode cX11_place 6 = .ok (.ireturn, 1) := by decide +kernel
theorem dX11_exact_0 : decode cX11_exact 0 = .ok (.aload_n 0, 1) := by decide +kernel
theorem dX11_exact_1 : decode cX11_exact 1 = .ok (.iload_n 1, 1) := by decide +kernel
theorem dX11_exact_2 : decode cX11_exact 2 = .ok (.iload_n 2, 1) := by decide +kernel
theorem dX11_exact_3 : decode cX11_exact 3 = .ok (.invokevirtual 313, 3) := by decide +kernel
theorem dX11_exact_6 : decode cX11_exact 6 = .ok (.ifCond .eq 16, 3) := by decide +kernel
theorem dX11_exact_9 : decode cX11_exact 9 = .ok (.aload_n 0, 1) := by decide +kernel
theorem dX11_exact_10 : decode cX11_exact 10 = .ok (.getfield 35, 3) := by decide +kernel
theorem dX11_exact_13 : decode cX11_exact 13 = .ok (.iload_n 1, 1) := by decide +kernel
theorem dX11_exact_14 : decode cX11_exact 14 = .ok (.iload_n 2, 1) := by decide +kernel
theorem dX11_exact_15 : decode cX11_exact 15 = .ok (.invokestatic 316, 3) := by decide +kernel
theorem dX11_exact_18 : decode cX11_exact 18 = .ok (.iaload, 1) := by decide +kernel
theorem dX11_exact_19 : decode cX11_exact 19 = .ok (.goto 6, 3) := by decide +kernel
theorem dX11_exact_22 : decode cX11_exact 22 = .ok (.ldc_w 283, 3) := by decide +kernel
theorem dX11_exact_25 : decode cX11_exact 25 = .ok (.ireturn, 1) := by decide +kernel
theorem dX11_isHand_0 : decode cX11_isHand 0 = .ok (.iload_n 1, 1) := by decide +kernel
theorem dX11_isHand_1 : decode cX11_isHand 1 = .ok (.i2l, 1) := by decide +kernel
theorem dX11_isHand_2 : decode cX11_isHand 2 = .ok (.lconst 0, 1) := by decide +kernel
theorem dX11_isHand_3 : decode cX11_isHand 3 = .ok (.aload_n 0, 1) := by decide +kernel
theorem dX11_isHand_4 : decode cX11_isHand 4 = .ok (.getfield 319, 3) := by decide +kernel
theorem dX11_isHand_7 : decode cX11_isHand 7 = .ok (.iconst 1, 1) := by decide +kernel
theorem dX11_isHand_8 : decode cX11_isHand 8 = .ok (.isub, 1) := by decide +kernel
theorem dX11_isHand_9 : decode cX11_isHand 9 = .ok (.i2l, 1) := by decide +kernel
theorem dX11_isHand_10 : decode cX11_isHand 10 = .ok (.invokestatic 143, 3) := by decide +kernel
theorem dX11_isHand_13 : decode cX11_isHand 13 = .ok (.ireturn, 1) := by decide +kernel
theorem dX11_hand_0 : decode cX11_hand 0 = .ok (.aload_n 0, 1) := by decide +kernel
theorem dX11_hand_1 : decode cX11_hand 1 = .ok (.getfield 319, 3) := by decide +kernel
theorem dX11_hand_4 : decode cX11_hand 4 = .ok (.bipush 8, 2) := by decide +kernel
theorem dX11_hand_6 : decode cX11_hand 6 = .ok (.if_icmp .ne 5, 3) := by decide +kernel
theorem dX11_hand_9 : decode cX11_hand 9 = .ok (.iconst (-1), 1) := by decide +kernel
theorem dX11_hand_10 : decode cX11_hand 10 = .ok (.ireturn, 1) := by decide +kernel
theorem dX11_hand_11 : decode cX11_hand 11 = .ok (.aload_n 0, 1) := by decide +kernel
theorem dX11_hand_12 : decode cX11_hand 12 = .ok (.dup, 1) := by decide +kernel
theorem dX11_hand_13 : decode cX11_hand 13 = .ok (.getfield 319, 3) := by decide +kernel
theorem dX11_hand_16 : decode cX11_hand 16 = .ok (.iconst 1, 1) := by decide +kernel
theorem dX11_hand_17 : decode cX11_hand 17 = .ok (.iadd, 1) := by decide +kernel
theorem dX11_hand_18 : decode cX11_hand 18 = .ok (.putfield 319, 3) := by decide +kernel
theorem dX11_hand_21 : decode cX11_hand 21 = .ok (.aload_n 0, 1) := by decide +kernel
theorem dX11_hand_22 : decode cX11_hand 22 = .ok (.getfield 319, 3) := by decide +kernel
theorem dX11_hand_25 : decode cX11_hand 25 = .ok (.iconst 1, 1) := by decide +kernel
theorem dX11_hand_26 : decode cX11_hand 26 = .ok (.isub, 1) := by decide +kernel
theorem dX11_hand_27 : decode cX11_hand 27 = .ok (.ireturn, 1) := by decide +kernel
theorem dX11_habit_0 : decode cX11_habit 0 = .ok (.aload_n 0, 1) := by decide +kernel
theorem dX11_habit_1 : decode cX11_habit 1 = .ok (.iload_n 1, 1) := by decide +kernel
theorem dX11_habit_2 : decode cX11_habit 2 = .ok (.invokevirtual 322, 3) := by decide +kernel
theorem dX11_habit_5 : decode cX11_habit 5 = .ok (.ifCond .eq 51, 3) := by decide +kernel
theorem dX11_habit_8 : decode cX11_habit 8 = .ok (.iload_n 2, 1) := by decide +kernel
theorem dX11_habit_9 : decode cX11_habit 9 = .ok (.i2l, 1) := by decide +kernel
theorem dX11_habit_10 : decode cX11_habit 10 = .ok (.lconst 0, 1) := by decide +kernel
theorem dX11_habit_11 : decode cX11_habit 11 = .ok (.ldc2_w 252, 3) := by decide +kernel
theorem dX11_habit_14 : decode cX11_habit 14 = .ok (.invokestatic 143, 3) := by decide +kernel
theorem dX11_habit_17 : decode cX11_habit 17 = .ok (.ifCond .eq 39, 3) := by decide +kernel
theorem dX11_habit_20 : decode cX11_habit 20 = .ok (.iload_n 3, 1) := by decide +kernel
theorem dX11_habit_21 : decode cX11_habit 21 = .ok (.ifCond .lt 35, 3) := by decide +kernel
theorem dX11_habit_24 : decode cX11_habit 24 = .ok (.iload_n 3, 1) := by decide +kernel
theorem dX11_habit_25 : decode cX11_habit 25 = .ok (.bipush 100, 2) := by decide +kernel
theorem dX11_habit_27 : decode cX11_habit 27 = .ok (.idiv, 1) := by decide +kernel
theorem dX11_habit_28 : decode cX11_habit 28 = .ok (.bipush 8, 2) := by decide +kernel
theorem dX11_habit_30 : decode cX11_habit 30 = .ok (.if_icmp .gt 26, 3) := by decide +kernel
theorem dX11_habit_33 : decode cX11_habit 33 = .ok (.iload_n 3, 1) := by decide +kernel
theorem dX11_habit_34 : decode cX11_habit 34 = .ok (.bipush 10, 2) := by decide +kernel
theorem dX11_habit_36 : decode cX11_habit 36 = .ok (.idiv, 1) := by decide +kernel
theorem dX11_habit_37 : decode cX11_habit 37 = .ok (.bipush 10, 2) := by decide +kernel
theorem dX11_habit_39 : decode cX11_habit 39 = .ok (.irem, 1) := by decide +kernel
theorem dX11_habit_40 : decode cX11_habit 40 = .ok (.iload_n 3, 1) := by decide +kernel
theorem dX11_habit_41 : decode cX11_habit 41 = .ok (.bipush 10, 2) := by decide +kernel
theorem dX11_habit_43 : decode cX11_habit 43 = .ok (.irem, 1) := by decide +kernel
theorem dX11_habit_44 : decode cX11_habit 44 = .ok (.if_icmp .eq 12, 3) := by decide +kernel
theorem dX11_habit_47 : decode cX11_habit 47 = .ok (.aload_n 0, 1) := by decide +kernel
theorem dX11_habit_48 : decode cX11_habit 48 = .ok (.getfield 325, 3) := by decide +kernel
theorem dX11_habit_51 : decode cX11_habit 51 = .ok (.bipush 24, 2) := by decide +kernel
theorem dX11_habit_53 : decode cX11_habit 53 = .ok (.if_icmp .ne 5, 3) := by decide +kernel
theorem dX11_habit_56 : decode cX11_habit 56 = .ok (.iconst (-1), 1) := by decide +kernel
theorem dX11_habit_57 : decode cX11_habit 57 = .ok (.ireturn, 1) := by decide +kernel
theorem dX11_habit_58 : decode cX11_habit 58 = .ok (.aload_n 0, 1) := by decide +kernel
theorem dX11_habit_59 : decode cX11_habit 59 = .ok (.getfield 38, 3) := by decide +kernel
theorem dX11_habit_62 : decode cX11_habit 62 = .ok (.aload_n 0, 1) := by decide +kernel
theorem dX11_habit_63 : decode cX11_habit 63 = .ok (.getfield 325, 3) := by decide +kernel
theorem dX11_habit_66 : decode cX11_habit 66 = .ok (.iload_n 1, 1) := by decide +kernel
theorem dX11_habit_67 : decode cX11_habit 67 = .ok (.iastore, 1) := by decide +kernel
theorem dX11_habit_68 : decode cX11_habit 68 = .ok (.aload_n 0, 1) := by decide +kernel
theorem dX11_habit_69 : decode cX11_habit 69 = .ok (.getfield 41, 3) := by decide +kernel
theorem dX11_habit_72 : decode cX11_habit 72 = .ok (.aload_n 0, 1) := by decide +kernel
theorem dX11_habit_73 : decode cX11_habit 73 = .ok (.getfield 325, 3) := by decide +kernel
theorem dX11_habit_76 : decode cX11_habit 76 = .ok (.iload_n 2, 1) := by decide +kernel
theorem dX11_habit_77 : decode cX11_habit 77 = .ok (.iastore, 1) := by decide +kernel
theorem dX11_habit_78 : decode cX11_habit 78 = .ok (.aload_n 0, 1) := by decide +kernel
theorem dX11_habit_79 : decode cX11_habit 79 = .ok (.getfield 44, 3) := by decide +kernel
theorem dX11_habit_82 : decode cX11_habit 82 = .ok (.aload_n 0, 1) := by decide +kernel
theorem dX11_habit_83 : decode cX11_habit 83 = .ok (.getfield 325, 3) := by decide +kernel
theorem dX11_habit_86 : decode cX11_habit 86 = .ok (.iload_n 3, 1) := by decide +kernel
theorem dX11_habit_87 : decode cX11_habit 87 = .ok (.iastore, 1) := by decide +kernel
theorem dX11_habit_88 : decode cX11_habit 88 = .ok (.aload_n 0, 1) := by decide +kernel
theorem dX11_habit_89 : decode cX11_habit 89 = .ok (.dup, 1) := by decide +kernel
theorem dX11_habit_90 : decode cX11_habit 90 = .ok (.getfield 325, 3) := by decide +kernel
theorem dX11_habit_93 : decode cX11_habit 93 = .ok (.iconst 1, 1) := by decide +kernel
theorem dX11_habit_94 : decode cX11_habit 94 = .ok (.iadd, 1) := by decide +kernel
theorem dX11_habit_95 : decode cX11_habit 95 = .ok (.putfield 325, 3) := by decide +kernel
theorem dX11_habit_98 : decode cX11_habit 98 = .ok (.aload_n 0, 1) := by decide +kernel
theorem dX11_habit_99 : decode cX11_habit 99 = .ok (.getfield 325, 3) := by decide +kernel
theorem dX11_habit_102 : decode cX11_habit 102 = .ok (.ireturn, 1) := by decide +kernel
theorem dX11_writes_0 : decode cX11_writes 0 = .ok (.aload_n 0, 1) := by decide +kernel
theorem dX11_writes_1 : decode cX11_writes 1 = .ok (.getfield 35, 3) := by decide +kernel
theorem dX11_writes_4 : decode cX11_writes 4 = .ok (.iload_n 3, 1) := by decide +kernel
theorem dX11_writes_5 : decode cX11_writes 5 = .ok (.iaload, 1) := by decide +kernel
theorem dX11_writes_6 : decode cX11_writes 6 = .ok (.ldc_w 283, 3) := by decide +kernel
theorem dX11_writes_9 : decode cX11_writes 9 = .ok (.if_icmp .ne 7, 3) := by decide +kernel
theorem dX11_writes_12 : decode cX11_writes 12 = .ok (.ldc_w 283, 3) := by decide +kernel
theorem dX11_writes_15 : decode cX11_writes 15 = .ok (.ireturn, 1) := by decide +kernel
theorem dX11_writes_16 : decode cX11_writes 16 = .ok (.aload_n 0, 1) := by decide +kernel
theorem dX11_writes_17 : decode cX11_writes 17 = .ok (.getfield 35, 3) := by decide +kernel
theorem dX11_writes_20 : decode cX11_writes 20 = .ok (.iload_n 3, 1) := by decide +kernel
theorem dX11_writes_21 : decode cX11_writes 21 = .ok (.iaload, 1) := by decide +kernel
theorem dX11_writes_22 : decode cX11_writes 22 = .ok (.ifCond .ge 13, 3) := by decide +kernel
theorem dX11_writes_25 : decode cX11_writes 25 = .ok (.aload_n 0, 1) := by decide +kernel
theorem dX11_writes_26 : decode cX11_writes 26 = .ok (.getfield 35, 3) := by decide +kernel
theorem dX11_writes_29 : decode cX11_writes 29 = .ok (.iload_n 3, 1) := by decide +kernel
theorem dX11_writes_30 : decode cX11_writes 30 = .ok (.iaload, 1) := by decide +kernel
theorem dX11_writes_31 : decode cX11_writes 31 = .ok (.ineg, 1) := by decide +kernel
theorem dX11_writes_32 : decode cX11_writes 32 = .ok (.goto 9, 3) := by decide +kernel
theorem dX11_writes_35 : decode cX11_writes 35 = .ok (.aload_n 0, 1) := by decide +kernel
theorem dX11_writes_36 : decode cX11_writes 36 = .ok (.getfield 35, 3) := by decide +kernel
theorem dX11_writes_39 : decode cX11_writes 39 = .ok (.iload_n 3, 1) := by decide +kernel
theorem dX11_writes_40 : decode cX11_writes 40 = .ok (.iaload, 1) := by decide +kernel
theorem dX11_writes_41 : decode cX11_writes 41 = .ok (.istore 4, 2) := by decide +kernel
theorem dX11_writes_43 : decode cX11_writes 43 = .ok (.iconst 0, 1) := by decide +kernel
theorem dX11_writes_44 : decode cX11_writes 44 = .ok (.istore 5, 2) := by decide +kernel
theorem dX11_writes_46 : decode cX11_writes 46 = .ok (.iload 5, 2) := by decide +kernel
theorem dX11_writes_48 : decode cX11_writes 48 = .ok (.aload_n 0, 1) := by decide +kernel
theorem dX11_writes_49 : decode cX11_writes 49 = .ok (.getfield 325, 3) := by decide +kernel
theorem dX11_writes_52 : decode cX11_writes 52 = .ok (.if_icmp .ge 124, 3) := by decide +kernel
theorem dX11_writes_55 : decode cX11_writes 55 = .ok (.aload_n 0, 1) := by decide +kernel
theorem dX11_writes_56 : decode cX11_writes 56 = .ok (.getfield 38, 3) := by decide +kernel
theorem dX11_writes_59 : decode cX11_writes 59 = .ok (.iload 5, 2) := by decide +kernel
theorem dX11_writes_61 : decode cX11_writes 61 = .ok (.iaload, 1) := by decide +kernel
theorem dX11_writes_62 : decode cX11_writes 62 = .ok (.iload_n 1, 1) := by decide +kernel
theorem dX11_writes_63 : decode cX11_writes 63 = .ok (.if_icmp .ne 107, 3) := by decide +kernel
theorem dX11_writes_66 : decode cX11_writes 66 = .ok (.aload_n 0, 1) := by decide +kernel
theorem dX11_writes_67 : decode cX11_writes 67 = .ok (.getfield 41, 3) := by decide +kernel
theorem dX11_writes_70 : decode cX11_writes 70 = .ok (.iload 5, 2) := by decide +kernel
theorem dX11_writes_72 : decode cX11_writes 72 = .ok (.iaload, 1) := by decide +kernel
theorem dX11_writes_73 : decode cX11_writes 73 = .ok (.iload_n 2, 1) := by decide +kernel
theorem dX11_writes_74 : decode cX11_writes 74 = .ok (.if_icmp .eq 6, 3) := by decide +kernel
theorem dX11_writes_77 : decode cX11_writes 77 = .ok (.goto 93, 3) := by decide +kernel
theorem dX11_writes_80 : decode cX11_writes 80 = .ok (.iconst 1, 1) := by decide +kernel
theorem dX11_writes_81 : decode cX11_writes 81 = .ok (.istore 6, 2) := by decide +kernel
theorem dX11_writes_83 : decode cX11_writes 83 = .ok (.iconst 0, 1) := by decide +kernel
theorem dX11_writes_84 : decode cX11_writes 84 = .ok (.istore 7, 2) := by decide +kernel
theorem dX11_writes_86 : decode cX11_writes 86 = .ok (.iload 7, 2) := by decide +kernel
theorem dX11_writes_88 : decode cX11_writes 88 = .ok (.aload_n 0, 1) := by decide +kernel
theorem dX11_writes_89 : decode cX11_writes 89 = .ok (.getfield 44, 3) := by decide +kernel
theorem dX11_writes_92 : decode cX11_writes 92 = .ok (.iload 5, 2) := by decide +kernel
theorem dX11_writes_94 : decode cX11_writes 94 = .ok (.iaload, 1) := by decide +kernel
theorem dX11_writes_95 : decode cX11_writes 95 = .ok (.bipush 100, 2) := by decide +kernel
theorem dX11_writes_97 : decode cX11_writes 97 = .ok (.idiv, 1) := by decide +kernel
theorem dX11_writes_98 : decode cX11_writes 98 = .ok (.if_icmp .ge 16, 3) := by decide +kernel
theorem dX11_writes_101 : decode cX11_writes 101 = .ok (.iload 6, 2) := by decide +kernel
theorem dX11_writes_103 : decode cX11_writes 103 = .ok (.bipush 10, 2) := by decide +kernel
theorem dX11_writes_105 : decode cX11_writes 105 = .ok (.imul, 1) := by decide +kernel
theorem dX11_writes_106 : decode cX11_writes 106 = .ok (.istore 6, 2) := by decide +kernel
theorem dX11_writes_108 : decode cX11_writes 108 = .ok (.iinc 7 1, 3) := by decide +kernel
theorem dX11_writes_111 : decode cX11_writes 111 = .ok (.goto (-25), 3) := by decide +kernel
theorem dX11_writes_114 : decode cX11_writes 114 = .ok (.iload 4, 2) := by decide +kernel
theorem dX11_writes_116 : decode cX11_writes 116 = .ok (.iload 6, 2) := by decide +kernel
theorem dX11_writes_118 : decode cX11_writes 118 = .ok (.idiv, 1) := by decide +kernel
theorem dX11_writes_119 : decode cX11_writes 119 = .ok (.bipush 10, 2) := by decide +kernel
theorem dX11_writes_121 : decode cX11_writes 121 = .ok (.irem, 1) := by decide +kernel
theorem dX11_writes_122 : decode cX11_writes 122 = .ok (.aload_n 0, 1) := by decide +kernel
theorem dX11_writes_123 : decode cX11_writes 123 = .ok (.getfield 44, 3) := by decide +kernel
theorem dX11_writes_126 : decode cX11_writes 126 = .ok (.iload 5, 2) := by decide +kernel
theorem dX11_writes_128 : decode cX11_writes 128 = .ok (.iaload, 1) := by decide +kernel
theorem dX11_writes_129 : decode cX11_writes 129 = .ok (.bipush 10, 2) := by decide +kernel
theorem dX11_writes_131 : decode cX11_writes 131 = .ok (.idiv, 1) := by decide +kernel
theorem dX11_writes_132 : decode cX11_writes 132 = .ok (.bipush 10, 2) := by decide +kernel
theorem dX11_writes_134 : decode cX11_writes 134 = .ok (.irem, 1) := by decide +kernel
theorem dX11_writes_135 : decode cX11_writes 135 = .ok (.if_icmp .ne 35, 3) := by decide +kernel
theorem dX11_writes_138 : decode cX11_writes 138 = .ok (.iload 4, 2) := by decide +kernel
theorem dX11_writes_140 : decode cX11_writes 140 = .ok (.aload_n 0, 1) := by decide +kernel
theorem dX11_writes_141 : decode cX11_writes 141 = .ok (.getfield 44, 3) := by decide +kernel
theorem dX11_writes_144 : decode cX11_writes 144 = .ok (.iload 5, 2) := by decide +kernel
theorem dX11_writes_146 : decode cX11_writes 146 = .ok (.iaload, 1) := by decide +kernel
theorem dX11_writes_147 : decode cX11_writes 147 = .ok (.bipush 10, 2) := by decide +kernel
theorem dX11_writes_149 : decode cX11_writes 149 = .ok (.irem, 1) := by decide +kernel
theorem dX11_writes_150 : decode cX11_writes 150 = .ok (.aload_n 0, 1) := by decide +kernel
theorem dX11_writes_151 : decode cX11_writes 151 = .ok (.getfield 44, 3) := by decide +kernel
theorem dX11_writes_154 : decode cX11_writes 154 = .ok (.iload 5, 2) := by decide +kernel
theorem dX11_writes_156 : decode cX11_writes 156 = .ok (.iaload, 1) := by decide +kernel
theorem dX11_writes_157 : decode cX11_writes 157 = .ok (.bipush 10, 2) := by decide +kernel
theorem dX11_writes_159 : decode cX11_writes 159 = .ok (.idiv, 1) := by decide +kernel
theorem dX11_writes_160 : decode cX11_writes 160 = .ok (.bipush 10, 2) := by decide +kernel
theorem dX11_writes_162 : decode cX11_writes 162 = .ok (.irem, 1) := by decide +kernel
theorem dX11_writes_163 : decode cX11_writes 163 = .ok (.isub, 1) := by decide +kernel
theorem dX11_writes_164 : decode cX11_writes 164 = .ok (.iload 6, 2) := by decide +kernel
theorem dX11_writes_166 : decode cX11_writes 166 = .ok (.imul, 1) := by decide +kernel
theorem dX11_writes_167 : decode cX11_writes 167 = .ok (.iadd, 1) := by decide +kernel
theorem dX11_writes_168 : decode cX11_writes 168 = .ok (.istore 4, 2) := by decide +kernel
theorem dX11_writes_170 : decode cX11_writes 170 = .ok (.iinc 5 1, 3) := by decide +kernel
theorem dX11_writes_173 : decode cX11_writes 173 = .ok (.goto (-127), 3) := by decide +kernel
theorem dX11_writes_176 : decode cX11_writes 176 = .ok (.aload_n 0, 1) := by decide +kernel
theorem dX11_writes_177 : decode cX11_writes 177 = .ok (.getfield 35, 3) := by decide +kernel
theorem dX11_writes_180 : decode cX11_writes 180 = .ok (.iload_n 3, 1) := by decide +kernel
theorem dX11_writes_181 : decode cX11_writes 181 = .ok (.iaload, 1) := by decide +kernel
theorem dX11_writes_182 : decode cX11_writes 182 = .ok (.ifCond .ge 9, 3) := by decide +kernel
theorem dX11_writes_185 : decode cX11_writes 185 = .ok (.iload 4, 2) := by decide +kernel
theorem dX11_writes_187 : decode cX11_writes 187 = .ok (.ineg, 1) := by decide +kernel
theorem dX11_writes_188 : decode cX11_writes 188 = .ok (.goto 5, 3) := by decide +kernel
theorem dX11_writes_191 : decode cX11_writes 191 = .ok (.iload 4, 2) := by decide +kernel
theorem dX11_writes_193 : decode cX11_writes 193 = .ok (.ireturn, 1) := by decide +kernel
theorem dX11_would_0 : decode cX11_would 0 = .ok (.aload_n 0, 1) := by decide +kernel
theorem dX11_would_1 : decode cX11_would 1 = .ok (.iload_n 1, 1) := by decide +kernel
theorem dX11_would_2 : decode cX11_would 2 = .ok (.invokevirtual 322, 3) := by decide +kernel
theorem dX11_would_5 : decode cX11_would 5 = .ok (.ifCond .eq 40, 3) := by decide +kernel
theorem dX11_would_8 : decode cX11_would 8 = .ok (.iload_n 2, 1) := by decide +kernel
theorem dX11_would_9 : decode cX11_would 9 = .ok (.i2l, 1) := by decide +kernel
theorem dX11_would_10 : decode cX11_would 10 = .ok (.lconst 0, 1) := by decide +kernel
theorem dX11_would_11 : decode cX11_would 11 = .ok (.ldc2_w 252, 3) := by decide +kernel
theorem dX11_would_14 : decode cX11_would 14 = .ok (.invokestatic 143, 3) := by decide +kernel
theorem dX11_would_17 : decode cX11_would 17 = .ok (.ifCond .eq 28, 3) := by decide +kernel
theorem dX11_would_20 : decode cX11_would 20 = .ok (.aload_n 0, 1) := by decide +kernel
theorem dX11_would_21 : decode cX11_would 21 = .ok (.iload_n 3, 1) := by decide +kernel
theorem dX11_would_22 : decode cX11_would 22 = .ok (.iload 4, 2) := by decide +kernel
theorem dX11_would_24 : decode cX11_would 24 = .ok (.invokevirtual 313, 3) := by decide +kernel
theorem dX11_would_27 : decode cX11_would 27 = .ok (.ifCond .eq 18, 3) := by decide +kernel
theorem dX11_would_30 : decode cX11_would 30 = .ok (.aload_n 0, 1) := by decide +kernel
theorem dX11_would_31 : decode cX11_would 31 = .ok (.iload_n 1, 1) := by decide +kernel
theorem dX11_would_32 : decode cX11_would 32 = .ok (.iload_n 2, 1) := by decide +kernel
theorem dX11_would_33 : decode cX11_would 33 = .ok (.iload_n 3, 1) := by decide +kernel
theorem dX11_would_34 : decode cX11_would 34 = .ok (.iload 4, 2) := by decide +kernel
theorem dX11_would_36 : decode cX11_would 36 = .ok (.invokestatic 316, 3) := by decide +kernel
theorem dX11_would_39 : decode cX11_would 39 = .ok (.invokevirtual 328, 3) := by decide +kernel
theorem dX11_would_42 : decode cX11_would 42 = .ok (.goto 6, 3) := by decide +kernel
theorem dX11_would_45 : decode cX11_would 45 = .ok (.ldc_w 283, 3) := by decide +kernel
theorem dX11_would_48 : decode cX11_would 48 = .ok (.ireturn, 1) := by decide +kernel
theorem dX11_isAgreed_0 : decode cX11_isAgreed 0 = .ok (.aload_n 0, 1) := by decide +kernel
theorem dX11_isAgreed_1 : decode cX11_isAgreed 1 = .ok (.getfield 65, 3) := by decide +kernel
theorem dX11_isAgreed_4 : decode cX11_isAgreed 4 = .ok (.iload_n 1, 1) := by decide +kernel
theorem dX11_isAgreed_5 : decode cX11_isAgreed 5 = .ok (.iaload, 1) := by decide +kernel
theorem dX11_isAgreed_6 : decode cX11_isAgreed 6 = .ok (.iconst (-1), 1) := by decide +kernel
theorem dX11_isAgreed_7 : decode cX11_isAgreed 7 = .ok (.if_icmp .eq 7, 3) := by decide +kernel
theorem dX11_isAgreed_10 : decode cX11_isAgreed 10 = .ok (.iconst 1, 1) := by decide +kernel
theorem dX11_isAgreed_11 : decode cX11_isAgreed 11 = .ok (.goto 4, 3) := by decide +kernel
theorem dX11_isAgreed_14 : decode cX11_isAgreed 14 = .ok (.iconst 0, 1) := by decide +kernel
theorem dX11_isAgreed_15 : decode cX11_isAgreed 15 = .ok (.ireturn, 1) := by decide +kernel
theorem dX11_isFalse_0 : decode cX11_isFalse 0 = .ok (.aload_n 0, 1) := by decide +kernel
theorem dX11_isFalse_1 : decode cX11_isFalse 1 = .ok (.iload_n 1, 1) := by decide +kernel
theorem dX11_isFalse_2 : decode cX11_isFalse 2 = .ok (.invokevirtual 332, 3) := by decide +kernel
theorem dX11_isFalse_5 : decode cX11_isFalse 5 = .ok (.ifCond .eq 22, 3) := by decide +kernel
theorem dX11_isFalse_8 : decode cX11_isFalse 8 = .ok (.aload_n 0, 1) := by decide +kernel
theorem dX11_isFalse_9 : decode cX11_isFalse 9 = .ok (.getfield 53, 3) := by decide +kernel
theorem dX11_isFalse_12 : decode cX11_isFalse 12 = .ok (.iload_n 1, 1) := by decide +kernel
theorem dX11_isFalse_13 : decode cX11_isFalse 13 = .ok (.iaload, 1) := by decide +kernel
theorem dX11_isFalse_14 : decode cX11_isFalse 14 = .ok (.aload_n 0, 1) := by decide +kernel
theorem dX11_isFalse_15 : decode cX11_isFalse 15 = .ok (.getfield 35, 3) := by decide +kernel
theorem dX11_isFalse_18 : decode cX11_isFalse 18 = .ok (.iload_n 1, 1) := by decide +kernel
theorem dX11_isFalse_19 : decode cX11_isFalse 19 = .ok (.iaload, 1) := by decide +kernel
theorem dX11_isFalse_20 : decode cX11_isFalse 20 = .ok (.if_icmp .eq 7, 3) := by decide +kernel
theorem dX11_isFalse_23 : decode cX11_isFalse 23 = .ok (.iconst 1, 1) := by decide +kernel
theorem dX11_isFalse_24 : decode cX11_isFalse 24 = .ok (.goto 4, 3) := by decide +kernel
theorem dX11_isFalse_27 : decode cX11_isFalse 27 = .ok (.iconst 0, 1) := by decide +kernel
theorem dX11_isFalse_28 : decode cX11_isFalse 28 = .ok (.ireturn, 1) := by decide +kernel
theorem dX11_work_0 : decode cX11_work 0 = .ok (.aload_n 0, 1) := by decide +kernel
theorem dX11_work_1 : decode cX11_work 1 = .ok (.iload_n 1, 1) := by decide +kernel
theorem dX11_work_2 : decode cX11_work 2 = .ok (.invokevirtual 322, 3) := by decide +kernel
theorem dX11_work_5 : decode cX11_work 5 = .ok (.ifCond .eq 34, 3) := by decide +kernel
theorem dX11_work_8 : decode cX11_work 8 = .ok (.iload_n 2, 1) := by decide +kernel
theorem dX11_work_9 : decode cX11_work 9 = .ok (.i2l, 1) := by decide +kernel
theorem dX11_work_10 : decode cX11_work 10 = .ok (.lconst 0, 1) := by decide +kernel
theorem dX11_work_11 : decode cX11_work 11 = .ok (.ldc2_w 252, 3) := by decide +kernel
theorem dX11_work_14 : decode cX11_work 14 = .ok (.invokestatic 143, 3) := by decide +kernel
theorem dX11_work_17 : decode cX11_work 17 = .ok (.ifCond .eq 22, 3) := by decide +kernel
theorem dX11_work_20 : decode cX11_work 20 = .ok (.aload_n 0, 1) := by decide +kernel
theorem dX11_work_21 : decode cX11_work 21 = .ok (.iload_n 3, 1) := by decide +kernel
theorem dX11_work_22 : decode cX11_work 22 = .ok (.iload 4, 2) := by decide +kernel
theorem dX11_work_24 : decode cX11_work 24 = .ok (.invokevirtual 313, 3) := by decide +kernel
theorem dX11_work_27 : decode cX11_work 27 = .ok (.ifCond .eq 12, 3) := by decide +kernel
theorem dX11_work_30 : decode cX11_work 30 = .ok (.aload_n 0, 1) := by decide +kernel
theorem dX11_work_31 : decode cX11_work 31 = .ok (.getfield 68, 3) := by decide +kernel
theorem dX11_work_34 : decode cX11_work 34 = .ok (.iload_n 3, 1) := by decide +kernel
theorem dX11_work_35 : decode cX11_work 35 = .ok (.baload, 1) := by decide +kernel
theorem dX11_work_36 : decode cX11_work 36 = .ok (.ifCond .eq 7, 3) := by decide +kernel
theorem dX11_work_39 : decode cX11_work 39 = .ok (.ldc_w 283, 3) := by decide +kernel
theorem dX11_work_42 : decode cX11_work 42 = .ok (.ireturn, 1) := by decide +kernel
theorem dX11_work_43 : decode cX11_work 43 = .ok (.iload_n 3, 1) := by decide +kernel
theorem dX11_work_44 : decode cX11_work 44 = .ok (.iload 4, 2) := by decide +kernel
theorem dX11_work_46 : decode cX11_work 46 = .ok (.invokestatic 316, 3) := by decide +kernel
theorem dX11_work_49 : decode cX11_work 49 = .ok (.istore 5, 2) := by decide +kernel
theorem dX11_work_51 : decode cX11_work 51 = .ok (.aload_n 0, 1) := by decide +kernel
theorem dX11_work_52 : decode cX11_work 52 = .ok (.iload_n 1, 1) := by decide +kernel
theorem dX11_work_53 : decode cX11_work 53 = .ok (.iload_n 2, 1) := by decide +kernel
theorem dX11_work_54 : decode cX11_work 54 = .ok (.iload 5, 2) := by decide +kernel
theorem dX11_work_56 : decode cX11_work 56 = .ok (.invokevirtual 328, 3) := by decide +kernel
theorem dX11_work_59 : decode cX11_work 59 = .ok (.istore 6, 2) := by decide +kernel
theorem dX11_work_61 : decode cX11_work 61 = .ok (.iload 6, 2) := by decide +kernel
theorem dX11_work_63 : decode cX11_work 63 = .ok (.ldc_w 283, 3) := by decide +kernel
theorem dX11_work_66 : decode cX11_work 66 = .ok (.if_icmp .eq 12, 3) := by decide +kernel
theorem dX11_work_69 : decode cX11_work 69 = .ok (.aload_n 0, 1) := by decide +kernel
theorem dX11_work_70 : decode cX11_work 70 = .ok (.iload 5, 2) := by decide +kernel
theorem dX11_work_72 : decode cX11_work 72 = .ok (.invokevirtual 332, 3) := by decide +kernel
theorem dX11_work_75 : decode cX11_work 75 = .ok (.ifCond .eq 7, 3) := by decide +kernel
theorem dX11_work_78 : decode cX11_work 78 = .ok (.ldc_w 283, 3) := by decide +kernel
theorem dX11_work_81 : decode cX11_work 81 = .ok (.ireturn, 1) := by decide +kernel
theorem dX11_work_82 : decode cX11_work 82 = .ok (.aload_n 0, 1) := by decide +kernel
theorem dX11_work_83 : decode cX11_work 83 = .ok (.getfield 47, 3) := by decide +kernel
theorem dX11_work_86 : decode cX11_work 86 = .ok (.iload 5, 2) := by decide +kernel
theorem dX11_work_88 : decode cX11_work 88 = .ok (.iaload, 1) := by decide +kernel
theorem dX11_work_89 : decode cX11_work 89 = .ok (.iconst (-1), 1) := by decide +kernel
theorem dX11_work_90 : decode cX11_work 90 = .ok (.if_icmp .eq 14, 3) := by decide +kernel
theorem dX11_work_93 : decode cX11_work 93 = .ok (.aload_n 0, 1) := by decide +kernel
theorem dX11_work_94 : decode cX11_work 94 = .ok (.getfield 47, 3) := by decide +kernel
theorem dX11_work_97 : decode cX11_work 97 = .ok (.iload 5, 2) := by decide +kernel
theorem dX11_work_99 : decode cX11_work 99 = .ok (.iaload, 1) := by decide +kernel
theorem dX11_work_100 : decode cX11_work 100 = .ok (.iload_n 1, 1) := by decide +kernel
theorem dX11_work_101 : decode cX11_work 101 = .ok (.if_icmp .ne 7, 3) := by decide +kernel
theorem dX11_work_104 : decode cX11_work 104 = .ok (.iconst 1, 1) := by decide +kernel
theorem dX11_work_105 : decode cX11_work 105 = .ok (.goto 4, 3) := by decide +kernel
theorem dX11_work_108 : decode cX11_work 108 = .ok (.iconst 0, 1) := by decide +kernel
theorem dX11_work_109 : decode cX11_work 109 = .ok (.istore 7, 2) := by decide +kernel
theorem dX11_work_111 : decode cX11_work 111 = .ok (.aload_n 0, 1) := by decide +kernel
theorem dX11_work_112 : decode cX11_work 112 = .ok (.getfield 47, 3) := by decide +kernel
theorem dX11_work_115 : decode cX11_work 115 = .ok (.iload 5, 2) := by decide +kernel
theorem dX11_work_117 : decode cX11_work 117 = .ok (.iaload, 1) := by decide +kernel
theorem dX11_work_118 : decode cX11_work 118 = .ok (.iload_n 1, 1) := by decide +kernel
theorem dX11_work_119 : decode cX11_work 119 = .ok (.if_icmp .ne 14, 3) := by decide +kernel
theorem dX11_work_122 : decode cX11_work 122 = .ok (.aload_n 0, 1) := by decide +kernel
theorem dX11_work_123 : decode cX11_work 123 = .ok (.getfield 56, 3) := by decide +kernel
theorem dX11_work_126 : decode cX11_work 126 = .ok (.iload 5, 2) := by decide +kernel
theorem dX11_work_128 : decode cX11_work 128 = .ok (.iaload, 1) := by decide +kernel
theorem dX11_work_129 : decode cX11_work 129 = .ok (.iconst (-1), 1) := by decide +kernel
theorem dX11_work_130 : decode cX11_work 130 = .ok (.if_icmp .eq 30, 3) := by decide +kernel
theorem dX11_work_133 : decode cX11_work 133 = .ok (.iload 7, 2) := by decide +kernel
theorem dX11_work_135 : decode cX11_work 135 = .ok (.ifCond .ne 29, 3) := by decide +kernel
theorem dX11_work_138 : decode cX11_work 138 = .ok (.aload_n 0, 1) := by decide +kernel
theorem dX11_work_139 : decode cX11_work 139 = .ok (.getfield 56, 3) := by decide +kernel
theorem dX11_work_142 : decode cX11_work 142 = .ok (.iload 5, 2) := by decide +kernel
theorem dX11_work_144 : decode cX11_work 144 = .ok (.iaload, 1) := by decide +kernel
theorem dX11_work_145 : decode cX11_work 145 = .ok (.iconst (-1), 1) := by decide +kernel
theorem dX11_work_146 : decode cX11_work 146 = .ok (.if_icmp .eq 18, 3) := by decide +kernel
theorem dX11_work_149 : decode cX11_work 149 = .ok (.aload_n 0, 1) := by decide +kernel
theorem dX11_work_150 : decode cX11_work 150 = .ok (.getfield 56, 3) := by decide +kernel
theorem dX11_work_153 : decode cX11_work 153 = .ok (.iload 5, 2) := by decide +kernel
theorem dX11_work_155 : decode cX11_work 155 = .ok (.iaload, 1) := by decide +kernel
theorem dX11_work_156 : decode cX11_work 156 = .ok (.iload_n 1, 1) := by decide +kernel
theorem dX11_work_157 : decode cX11_work 157 = .ok (.if_icmp .eq 7, 3) := by decide +kernel
theorem dX11_work_160 : decode cX11_work 160 = .ok (.ldc_w 283, 3) := by decide +kernel
theorem dX11_work_163 : decode cX11_work 163 = .ok (.ireturn, 1) := by decide +kernel
theorem dX11_work_164 : decode cX11_work 164 = .ok (.iload 7, 2) := by decide +kernel
theorem dX11_work_166 : decode cX11_work 166 = .ok (.ifCond .eq 31, 3) := by decide +kernel
theorem dX11_work_169 : decode cX11_work 169 = .ok (.aload_n 0, 1) := by decide +kernel
theorem dX11_work_170 : decode cX11_work 170 = .ok (.getfield 47, 3) := by decide +kernel
theorem dX11_work_173 : decode cX11_work 173 = .ok (.iload 5, 2) := by decide +kernel
theorem dX11_work_175 : decode cX11_work 175 = .ok (.iload_n 1, 1) := by decide +kernel
theorem dX11_work_176 : decode cX11_work 176 = .ok (.iastore, 1) := by decide +kernel
theorem dX11_work_177 : decode cX11_work 177 = .ok (.aload_n 0, 1) := by decide +kernel
theorem dX11_work_178 : decode cX11_work 178 = .ok (.getfield 50, 3) := by decide +kernel
theorem dX11_work_181 : decode cX11_work 181 = .ok (.iload 5, 2) := by decide +kernel
theorem dX11_work_183 : decode cX11_work 183 = .ok (.iload_n 2, 1) := by decide +kernel
theorem dX11_work_184 : decode cX11_work 184 = .ok (.iastore, 1) := by decide +kernel
theorem dX11_work_185 : decode cX11_work 185 = .ok (.aload_n 0, 1) := by decide +kernel
theorem dX11_work_186 : decode cX11_work 186 = .ok (.getfield 53, 3) := by decide +kernel
theorem dX11_work_189 : decode cX11_work 189 = .ok (.iload 5, 2) := by decide +kernel
theorem dX11_work_191 : decode cX11_work 191 = .ok (.iload 6, 2) := by decide +kernel
theorem dX11_work_193 : decode cX11_work 193 = .ok (.iastore, 1) := by decide +kernel
theorem dX11_work_194 : decode cX11_work 194 = .ok (.goto 28, 3) := by decide +kernel
theorem dX11_work_197 : decode cX11_work 197 = .ok (.aload_n 0, 1) := by decide +kernel
theorem dX11_work_198 : decode cX11_work 198 = .ok (.getfield 56, 3) := by decide +kernel
theorem dX11_work_201 : decode cX11_work 201 = .ok (.iload 5, 2) := by decide +kernel
theorem dX11_work_203 : decode cX11_work 203 = .ok (.iload_n 1, 1) := by decide +kernel
theorem dX11_work_204 : decode cX11_work 204 = .ok (.iastore, 1) := by decide +kernel
theorem dX11_work_205 : decode cX11_work 205 = .ok (.aload_n 0, 1) := by decide +kernel
theorem dX11_work_206 : decode cX11_work 206 = .ok (.getfield 59, 3) := by decide +kernel
theorem dX11_work_209 : decode cX11_work 209 = .ok (.iload 5, 2) := by decide +kernel
theorem dX11_work_211 : decode cX11_work 211 = .ok (.iload_n 2, 1) := by decide +kernel
theorem dX11_work_212 : decode cX11_work 212 = .ok (.iastore, 1) := by decide +kernel
theorem dX11_work_213 : decode cX11_work 213 = .ok (.aload_n 0, 1) := by decide +kernel
theorem dX11_work_214 : decode cX11_work 214 = .ok (.getfield 62, 3) := by decide +kernel
theorem dX11_work_217 : decode cX11_work 217 = .ok (.iload 5, 2) := by decide +kernel
theorem dX11_work_219 : decode cX11_work 219 = .ok (.iload 6, 2) := by decide +kernel
theorem dX11_work_221 : decode cX11_work 221 = .ok (.iastore, 1) := by decide +kernel
theorem dX11_work_222 : decode cX11_work 222 = .ok (.aload_n 0, 1) := by decide +kernel
theorem dX11_work_223 : decode cX11_work 223 = .ok (.getfield 56, 3) := by decide +kernel
theorem dX11_work_226 : decode cX11_work 226 = .ok (.iload 5, 2) := by decide +kernel
theorem dX11_work_228 : decode cX11_work 228 = .ok (.iaload, 1) := by decide +kernel
theorem dX11_work_229 : decode cX11_work 229 = .ok (.iconst (-1), 1) := by decide +kernel
theorem dX11_work_230 : decode cX11_work 230 = .ok (.if_icmp .eq 48, 3) := by decide +kernel
theorem dX11_work_233 : decode cX11_work 233 = .ok (.aload_n 0, 1) := by decide +kernel
theorem dX11_work_234 : decode cX11_work 234 = .ok (.getfield 53, 3) := by decide +kernel
theorem dX11_work_237 : decode cX11_work 237 = .ok (.iload 5, 2) := by decide +kernel
theorem dX11_work_239 : decode cX11_work 239 = .ok (.iaload, 1) := by decide +kernel
theorem dX11_work_240 : decode cX11_work 240 = .ok (.aload_n 0, 1) := by decide +kernel
theorem dX11_work_241 : decode cX11_work 241 = .ok (.getfield 62, 3) := by decide +kernel
theorem dX11_work_244 : decode cX11_work 244 = .ok (.iload 5, 2) := by decide +kernel
theorem dX11_work_246 : decode cX11_work 246 = .ok (.iaload, 1) := by decide +kernel
theorem dX11_work_247 : decode cX11_work 247 = .ok (.if_icmp .ne 31, 3) := by decide +kernel
theorem dX11_work_250 : decode cX11_work 250 = .ok (.aload_n 0, 1) := by decide +kernel
theorem dX11_work_251 : decode cX11_work 251 = .ok (.getfield 50, 3) := by decide +kernel
theorem dX11_work_254 : decode cX11_work 254 = .ok (.iload 5, 2) := by decide +kernel
theorem dX11_work_256 : decode cX11_work 256 = .ok (.iaload, 1) := by decide +kernel
theorem dX11_work_257 : decode cX11_work 257 = .ok (.aload_n 0, 1) := by decide +kernel
theorem dX11_work_258 : decode cX11_work 258 = .ok (.getfield 59, 3) := by decide +kernel
theorem dX11_work_261 : decode cX11_work 261 = .ok (.iload 5, 2) := by decide +kernel
theorem dX11_work_263 : decode cX11_work 263 = .ok (.iaload, 1) := by decide +kernel
theorem dX11_work_264 : decode cX11_work 264 = .ok (.if_icmp .eq 14, 3) := by decide +kernel
theorem dX11_work_267 : decode cX11_work 267 = .ok (.aload_n 0, 1) := by decide +kernel
theorem dX11_work_268 : decode cX11_work 268 = .ok (.getfield 65, 3) := by decide +kernel
theorem dX11_work_271 : decode cX11_work 271 = .ok (.iload 5, 2) := by decide +kernel
theorem dX11_work_273 : decode cX11_work 273 = .ok (.aload_n 0, 1) := by decide +kernel
theorem dX11_work_274 : decode cX11_work 274 = .ok (.getfield 287, 3) := by decide +kernel
theorem dX11_work_277 : decode cX11_work 277 = .ok (.iastore, 1) := by decide +kernel
theorem dX11_work_278 : decode cX11_work 278 = .ok (.iload 6, 2) := by decide +kernel
theorem dX11_work_280 : decode cX11_work 280 = .ok (.ireturn, 1) := by decide +kernel
theorem dX11_figure_0 : decode cX11_figure 0 = .ok (.aload_n 0, 1) := by decide +kernel
theorem dX11_figure_1 : decode cX11_figure 1 = .ok (.iload_n 1, 1) := by decide +kernel
theorem dX11_figure_2 : decode cX11_figure 2 = .ok (.iload_n 2, 1) := by decide +kernel
theorem dX11_figure_3 : decode cX11_figure 3 = .ok (.invokevirtual 313, 3) := by decide +kernel
theorem dX11_figure_6 : decode cX11_figure 6 = .ok (.ifCond .eq 28, 3) := by decide +kernel
theorem dX11_figure_9 : decode cX11_figure 9 = .ok (.aload_n 0, 1) := by decide +kernel
theorem dX11_figure_10 : decode cX11_figure 10 = .ok (.iload_n 1, 1) := by decide +kernel
theorem dX11_figure_11 : decode cX11_figure 11 = .ok (.iload_n 2, 1) := by decide +kernel
theorem dX11_figure_12 : decode cX11_figure 12 = .ok (.invokestatic 316, 3) := by decide +kernel
theorem dX11_figure_15 : decode cX11_figure 15 = .ok (.invokevirtual 332, 3) := by decide +kernel
theorem dX11_figure_18 : decode cX11_figure 18 = .ok (.ifCond .eq 16, 3) := by decide +kernel
theorem dX11_figure_21 : decode cX11_figure 21 = .ok (.aload_n 0, 1) := by decide +kernel
theorem dX11_figure_22 : decode cX11_figure 22 = .ok (.getfield 53, 3) := by decide +kernel
theorem dX11_figure_25 : decode cX11_figure 25 = .ok (.iload_n 1, 1) := by decide +kernel
theorem dX11_figure_26 : decode cX11_figure 26 = .ok (.iload_n 2, 1) := by decide +kernel
theorem dX11_figure_27 : decode cX11_figure 27 = .ok (.invokestatic 316, 3) := by decide +kernel
theorem dX11_figure_30 : decode cX11_figure 30 = .ok (.iaload, 1) := by decide +kernel
theorem dX11_figure_31 : decode cX11_figure 31 = .ok (.goto 6, 3) := by decide +kernel
theorem dX11_figure_34 : decode cX11_figure 34 = .ok (.ldc_w 283, 3) := by decide +kernel
theorem dX11_figure_37 : decode cX11_figure 37 = .ok (.ireturn, 1) := by decide +kernel
theorem dX11_pair_0 : decode cX11_pair 0 = .ok (.aload_n 0, 1) := by decide +kernel
theorem dX11_pair_1 : decode cX11_pair 1 = .ok (.iload_n 1, 1) := by decide +kernel
theorem dX11_pair_2 : decode cX11_pair 2 = .ok (.invokevirtual 310, 3) := by decide +kernel
theorem dX11_pair_5 : decode cX11_pair 5 = .ok (.ifCond .eq 23, 3) := by decide +kernel
theorem dX11_pair_8 : decode cX11_pair 8 = .ok (.aload_n 0, 1) := by decide +kernel
theorem dX11_pair_9 : decode cX11_pair 9 = .ok (.getfield 319, 3) := by decide +kernel
theorem dX11_pair_12 : decode cX11_pair 12 = .ok (.iconst 2, 1) := by decide +kernel
theorem dX11_pair_13 : decode cX11_pair 13 = .ok (.if_icmp .lt 15, 3) := by decide +kernel
theorem dX11_pair_16 : decode cX11_pair 16 = .ok (.iload_n 2, 1) := by decide +kernel
theorem dX11_pair_17 : decode cX11_pair 17 = .ok (.i2l, 1) := by decide +kernel
theorem dX11_pair_18 : decode cX11_pair 18 = .ok (.lconst 0, 1) := by decide +kernel
theorem dX11_pair_19 : decode cX11_pair 19 = .ok (.ldc2_w 228, 3) := by decide +kernel
theorem dX11_pair_22 : decode cX11_pair 22 = .ok (.invokestatic 143, 3) := by decide +kernel
theorem dX11_pair_25 : decode cX11_pair 25 = .ok (.ifCond .ne 5, 3) := by decide +kernel
theorem dX11_pair_28 : decode cX11_pair 28 = .ok (.iconst (-1), 1) := by decide +kernel
theorem dX11_pair_29 : decode cX11_pair 29 = .ok (.ireturn, 1) := by decide +kernel
theorem dX11_pair_30 : decode cX11_pair 30 = .ok (.aload_n 0, 1) := by decide +kernel
theorem dX11_pair_31 : decode cX11_pair 31 = .ok (.getfield 122, 3) := by decide +kernel
theorem dX11_pair_34 : decode cX11_pair 34 = .ok (.iconst 4, 1) := by decide +kernel
theorem dX11_pair_35 : decode cX11_pair 35 = .ok (.iconst (-1), 1) := by decide +kernel
theorem dX11_pair_36 : decode cX11_pair 36 = .ok (.iastore, 1) := by decide +kernel
theorem dX11_pair_37 : decode cX11_pair 37 = .ok (.iconst 0, 1) := by decide +kernel
theorem dX11_pair_38 : decode cX11_pair 38 = .ok (.istore_n 3, 1) := by decide +kernel
theorem dX11_pair_39 : decode cX11_pair 39 = .ok (.iload_n 3, 1) := by decide +kernel
theorem dX11_pair_40 : decode cX11_pair 40 = .ok (.aload_n 0, 1) := by decide +kernel
theorem dX11_pair_41 : decode cX11_pair 41 = .ok (.getfield 319, 3) := by decide +kernel
theorem dX11_pair_44 : decode cX11_pair 44 = .ok (.if_icmp .ge 78, 3) := by decide +kernel
theorem dX11_pair_47 : decode cX11_pair 47 = .ok (.iconst 0, 1) := by decide +kernel
theorem dX11_pair_48 : decode cX11_pair 48 = .ok (.istore 4, 2) := by decide +kernel
theorem dX11_pair_50 : decode cX11_pair 50 = .ok (.iload 4, 2) := by decide +kernel
theorem dX11_pair_52 : decode cX11_pair 52 = .ok (.iconst 3, 1) := by decide +kernel
theorem dX11_pair_53 : decode cX11_pair 53 = .ok (.if_icmp .ge 63, 3) := by decide +kernel
theorem dX11_pair_56 : decode cX11_pair 56 = .ok (.iload_n 3, 1) := by decide +kernel
theorem dX11_pair_57 : decode cX11_pair 57 = .ok (.iconst 1, 1) := by decide +kernel
theorem dX11_pair_58 : decode cX11_pair 58 = .ok (.iadd, 1) := by decide +kernel
theorem dX11_pair_59 : decode cX11_pair 59 = .ok (.istore 5, 2) := by decide +kernel
theorem dX11_pair_61 : decode cX11_pair 61 = .ok (.iload 5, 2) := by decide +kernel
theorem dX11_pair_63 : decode cX11_pair 63 = .ok (.aload_n 0, 1) := by decide +kernel
theorem dX11_pair_64 : decode cX11_pair 64 = .ok (.getfield 319, 3) := by decide +kernel
theorem dX11_pair_67 : decode cX11_pair 67 = .ok (.if_icmp .ge 43, 3) := by decide +kernel
theorem dX11_pair_70 : decode cX11_pair 70 = .ok (.iconst 0, 1) := by decide +kernel
theorem dX11_pair_71 : decode cX11_pair 71 = .ok (.istore 6, 2) := by decide +kernel
theorem dX11_pair_73 : decode cX11_pair 73 = .ok (.iload 6, 2) := by decide +kernel
theorem dX11_pair_75 : decode cX11_pair 75 = .ok (.iconst 3, 1) := by decide +kernel
theorem dX11_pair_76 : decode cX11_pair 76 = .ok (.if_icmp .ge 28, 3) := by decide +kernel
theorem dX11_pair_79 : decode cX11_pair 79 = .ok (.iload 6, 2) := by decide +kernel
theorem dX11_pair_81 : decode cX11_pair 81 = .ok (.iload 4, 2) := by decide +kernel
theorem dX11_pair_83 : decode cX11_pair 83 = .ok (.if_icmp .eq 15, 3) := by decide +kernel
theorem dX11_pair_86 : decode cX11_pair 86 = .ok (.aload_n 0, 1) := by decide +kernel
theorem dX11_pair_87 : decode cX11_pair 87 = .ok (.iload_n 1, 1) := by decide +kernel
theorem dX11_pair_88 : decode cX11_pair 88 = .ok (.iload_n 3, 1) := by decide +kernel
theorem dX11_pair_89 : decode cX11_pair 89 = .ok (.iload 4, 2) := by decide +kernel
theorem dX11_pair_91 : decode cX11_pair 91 = .ok (.iload 5, 2) := by decide +kernel
theorem dX11_pair_93 : decode cX11_pair 93 = .ok (.iload 6, 2) := by decide +kernel
theorem dX11_pair_95 : decode cX11_pair 95 = .ok (.invokevirtual 335, 3) := by decide +kernel
theorem dX11_pair_98 : decode cX11_pair 98 = .ok (.iinc 6 1, 3) := by decide +kernel
theorem dX11_pair_101 : decode cX11_pair 101 = .ok (.goto (-28), 3) := by decide +kernel
theorem dX11_pair_104 : decode cX11_pair 104 = .ok (.iinc 5 1, 3) := by decide +kernel
theorem dX11_pair_107 : decode cX11_pair 107 = .ok (.goto (-46), 3) := by decide +kernel
theorem dX11_pair_110 : decode cX11_pair 110 = .ok (.iinc 4 1, 3) := by decide +kernel
theorem dX11_pair_113 : decode cX11_pair 113 = .ok (.goto (-63), 3) := by decide +kernel
theorem dX11_pair_116 : decode cX11_pair 116 = .ok (.iinc 3 1, 3) := by decide +kernel
theorem dX11_pair_119 : decode cX11_pair 119 = .ok (.goto (-80), 3) := by decide +kernel
theorem dX11_pair_122 : decode cX11_pair 122 = .ok (.aload_n 0, 1) := by decide +kernel
theorem dX11_pair_123 : decode cX11_pair 123 = .ok (.getfield 122, 3) := by decide +kernel
theorem dX11_pair_126 : decode cX11_pair 126 = .ok (.iload_n 2, 1) := by decide +kernel
theorem dX11_pair_127 : decode cX11_pair 127 = .ok (.iaload, 1) := by decide +kernel
theorem dX11_pair_128 : decode cX11_pair 128 = .ok (.ireturn, 1) := by decide +kernel
theorem dX11_pairs_0 : decode cX11_pairs 0 = .ok (.iconst 0, 1) := by decide +kernel
theorem dX11_pairs_1 : decode cX11_pairs 1 = .ok (.istore 6, 2) := by decide +kernel
theorem dX11_pairs_3 : decode cX11_pairs 3 = .ok (.iconst 0, 1) := by decide +kernel
theorem dX11_pairs_4 : decode cX11_pairs 4 = .ok (.istore 7, 2) := by decide +kernel
theorem dX11_pairs_6 : decode cX11_pairs 6 = .ok (.iconst 0, 1) := by decide +kernel
theorem dX11_pairs_7 : decode cX11_pairs 7 = .ok (.istore 8, 2) := by decide +kernel
theorem dX11_pairs_9 : decode cX11_pairs 9 = .ok (.iload 8, 2) := by decide +kernel
theorem dX11_pairs_11 : decode cX11_pairs 11 = .ok (.aload_n 0, 1) := by decide +kernel
theorem dX11_pairs_12 : decode cX11_pairs 12 = .ok (.getfield 32, 3) := by decide +kernel
theorem dX11_pairs_15 : decode cX11_pairs 15 = .ok (.iload_n 1, 1) := by decide +kernel
theorem dX11_pairs_16 : decode cX11_pairs 16 = .ok (.iaload, 1) := by decide +kernel
theorem dX11_pairs_17 : decode cX11_pairs 17 = .ok (.if_icmp .ge 118, 3) := by decide +kernel
theorem dX11_pairs_20 : decode cX11_pairs 20 = .ok (.iload_n 1, 1) := by decide +kernel
theorem dX11_pairs_21 : decode cX11_pairs 21 = .ok (.iload 8, 2) := by decide +kernel
theorem dX11_pairs_23 : decode cX11_pairs 23 = .ok (.invokestatic 316, 3) := by decide +kernel
theorem dX11_pairs_26 : decode cX11_pairs 26 = .ok (.istore 9, 2) := by decide +kernel
theorem dX11_pairs_28 : decode cX11_pairs 28 = .ok (.aload_n 0, 1) := by decide +kernel
theorem dX11_pairs_29 : decode cX11_pairs 29 = .ok (.getfield 35, 3) := by decide +kernel
theorem dX11_pairs_32 : decode cX11_pairs 32 = .ok (.iload 9, 2) := by decide +kernel
theorem dX11_pairs_34 : decode cX11_pairs 34 = .ok (.iaload, 1) := by decide +kernel
theorem dX11_pairs_35 : decode cX11_pairs 35 = .ok (.ldc_w 283, 3) := by decide +kernel
theorem dX11_pairs_38 : decode cX11_pairs 38 = .ok (.if_icmp .ne 6, 3) := by decide +kernel
theorem dX11_pairs_41 : decode cX11_pairs 41 = .ok (.goto 88, 3) := by decide +kernel
theorem dX11_pairs_44 : decode cX11_pairs 44 = .ok (.aload_n 0, 1) := by decide +kernel
theorem dX11_pairs_45 : decode cX11_pairs 45 = .ok (.iload_n 2, 1) := by decide +kernel
theorem dX11_pairs_46 : decode cX11_pairs 46 = .ok (.iload_n 3, 1) := by decide +kernel
theorem dX11_pairs_47 : decode cX11_pairs 47 = .ok (.iload 9, 2) := by decide +kernel
theorem dX11_pairs_49 : decode cX11_pairs 49 = .ok (.invokevirtual 328, 3) := by decide +kernel
theorem dX11_pairs_52 : decode cX11_pairs 52 = .ok (.istore 10, 2) := by decide +kernel
theorem dX11_pairs_54 : decode cX11_pairs 54 = .ok (.aload_n 0, 1) := by decide +kernel
theorem dX11_pairs_55 : decode cX11_pairs 55 = .ok (.iload 4, 2) := by decide +kernel
theorem dX11_pairs_57 : decode cX11_pairs 57 = .ok (.iload 5, 2) := by decide +kernel
theorem dX11_pairs_59 : decode cX11_pairs 59 = .ok (.iload 9, 2) := by decide +kernel
theorem dX11_pairs_61 : decode cX11_pairs 61 = .ok (.invokevirtual 328, 3) := by decide +kernel
theorem dX11_pairs_64 : decode cX11_pairs 64 = .ok (.istore 11, 2) := by decide +kernel
theorem dX11_pairs_66 : decode cX11_pairs 66 = .ok (.iload 6, 2) := by decide +kernel
theorem dX11_pairs_68 : decode cX11_pairs 68 = .ok (.iload 10, 2) := by decide +kernel
theorem dX11_pairs_70 : decode cX11_pairs 70 = .ok (.iload 11, 2) := by decide +kernel
theorem dX11_pairs_72 : decode cX11_pairs 72 = .ok (.if_icmp .ne 19, 3) := by decide +kernel
theorem dX11_pairs_75 : decode cX11_pairs 75 = .ok (.iload 10, 2) := by decide +kernel
theorem dX11_pairs_77 : decode cX11_pairs 77 = .ok (.aload_n 0, 1) := by decide +kernel
theorem dX11_pairs_78 : decode cX11_pairs 78 = .ok (.getfield 35, 3) := by decide +kernel
theorem dX11_pairs_81 : decode cX11_pairs 81 = .ok (.iload 9, 2) := by decide +kernel
theorem dX11_pairs_83 : decode cX11_pairs 83 = .ok (.iaload, 1) := by decide +kernel
theorem dX11_pairs_84 : decode cX11_pairs 84 = .ok (.if_icmp .eq 7, 3) := by decide +kernel
theorem dX11_pairs_87 : decode cX11_pairs 87 = .ok (.iconst 1, 1) := by decide +kernel
theorem dX11_pairs_88 : decode cX11_pairs 88 = .ok (.goto 4, 3) := by decide +kernel
theorem dX11_pairs_91 : decode cX11_pairs 91 = .ok (.iconst 0, 1) := by decide +kernel
theorem dX11_pairs_92 : decode cX11_pairs 92 = .ok (.iadd, 1) := by decide +kernel
theorem dX11_pairs_93 : decode cX11_pairs 93 = .ok (.istore 6, 2) := by decide +kernel
theorem dX11_pairs_95 : decode cX11_pairs 95 = .ok (.iload 7, 2) := by decide +kernel
theorem dX11_pairs_97 : decode cX11_pairs 97 = .ok (.iload 10, 2) := by decide +kernel
theorem dX11_pairs_99 : decode cX11_pairs 99 = .ok (.aload_n 0, 1) := by decide +kernel
theorem dX11_pairs_100 : decode cX11_pairs 100 = .ok (.getfield 35, 3) := by decide +kernel
theorem dX11_pairs_103 : decode cX11_pairs 103 = .ok (.iload 9, 2) := by decide +kernel
theorem dX11_pairs_105 : decode cX11_pairs 105 = .ok (.iaload, 1) := by decide +kernel
theorem dX11_pairs_106 : decode cX11_pairs 106 = .ok (.if_icmp .ne 19, 3) := by decide +kernel
theorem dX11_pairs_109 : decode cX11_pairs 109 = .ok (.iload 11, 2) := by decide +kernel
theorem dX11_pairs_111 : decode cX11_pairs 111 = .ok (.aload_n 0, 1) := by decide +kernel
theorem dX11_pairs_112 : decode cX11_pairs 112 = .ok (.getfield 35, 3) := by decide +kernel
theorem dX11_pairs_115 : decode cX11_pairs 115 = .ok (.iload 9, 2) := by decide +kernel
theorem dX11_pairs_117 : decode cX11_pairs 117 = .ok (.iaload, 1) := by decide +kernel
theorem dX11_pairs_118 : decode cX11_pairs 118 = .ok (.if_icmp .ne 7, 3) := by decide +kernel
theorem dX11_pairs_121 : decode cX11_pairs 121 = .ok (.iconst 1, 1) := by decide +kernel
theorem dX11_pairs_122 : decode cX11_pairs 122 = .ok (.goto 4, 3) := by decide +kernel
theorem dX11_pairs_125 : decode cX11_pairs 125 = .ok (.iconst 0, 1) := by decide +kernel
theorem dX11_pairs_126 : decode cX11_pairs 126 = .ok (.iadd, 1) := by decide +kernel
theorem dX11_pairs_127 : decode cX11_pairs 127 = .ok (.istore 7, 2) := by decide +kernel
theorem dX11_pairs_129 : decode cX11_pairs 129 = .ok (.iinc 8 1, 3) := by decide +kernel
theorem dX11_pairs_132 : decode cX11_pairs 132 = .ok (.goto (-123), 3) := by decide +kernel
theorem dX11_pairs_135 : decode cX11_pairs 135 = .ok (.aload_n 0, 1) := by decide +kernel
theorem dX11_pairs_136 : decode cX11_pairs 136 = .ok (.getfield 122, 3) := by decide +kernel
theorem dX11_pairs_139 : decode cX11_pairs 139 = .ok (.iconst 4, 1) := by decide +kernel
theorem dX11_pairs_140 : decode cX11_pairs 140 = .ok (.iaload, 1) := by decide +kernel
theorem dX11_pairs_141 : decode cX11_pairs 141 = .ok (.iconst (-1), 1) := by decide +kernel
theorem dX11_pairs_142 : decode cX11_pairs 142 = .ok (.if_icmp .eq 37, 3) := by decide +kernel
theorem dX11_pairs_145 : decode cX11_pairs 145 = .ok (.iload 6, 2) := by decide +kernel
theorem dX11_pairs_147 : decode cX11_pairs 147 = .ok (.aload_n 0, 1) := by decide +kernel
theorem dX11_pairs_148 : decode cX11_pairs 148 = .ok (.getfield 122, 3) := by decide +kernel
theorem dX11_pairs_151 : decode cX11_pairs 151 = .ok (.iconst 4, 1) := by decide +kernel
theorem dX11_pairs_152 : decode cX11_pairs 152 = .ok (.iaload, 1) := by decide +kernel
theorem dX11_pairs_153 : decode cX11_pairs 153 = .ok (.if_icmp .gt 25, 3) := by decide +kernel
theorem dX11_pairs_156 : decode cX11_pairs 156 = .ok (.iload 6, 2) := by decide +kernel
theorem dX11_pairs_158 : decode cX11_pairs 158 = .ok (.aload_n 0, 1) := by decide +kernel
theorem dX11_pairs_159 : decode cX11_pairs 159 = .ok (.getfield 122, 3) := by decide +kernel
theorem dX11_pairs_162 : decode cX11_pairs 162 = .ok (.iconst 4, 1) := by decide +kernel
theorem dX11_pairs_163 : decode cX11_pairs 163 = .ok (.iaload, 1) := by decide +kernel
theorem dX11_pairs_164 : decode cX11_pairs 164 = .ok (.if_icmp .ne 15, 3) := by decide +kernel
theorem dX11_pairs_167 : decode cX11_pairs 167 = .ok (.iload 7, 2) := by decide +kernel
theorem dX11_pairs_169 : decode cX11_pairs 169 = .ok (.aload_n 0, 1) := by decide +kernel
theorem dX11_pairs_170 : decode cX11_pairs 170 = .ok (.getfield 122, 3) := by decide +kernel
theorem dX11_pairs_173 : decode cX11_pairs 173 = .ok (.iconst 5, 1) := by decide +kernel
theorem dX11_pairs_174 : decode cX11_pairs 174 = .ok (.iaload, 1) := by decide +kernel
theorem dX11_pairs_175 : decode cX11_pairs 175 = .ok (.if_icmp .gt 4, 3) := by decide +kernel
theorem dX11_pairs_178 : decode cX11_pairs 178 = .ok (.return_, 1) := by decide +kernel
theorem dX11_pairs_179 : decode cX11_pairs 179 = .ok (.aload_n 0, 1) := by decide +kernel
theorem dX11_pairs_180 : decode cX11_pairs 180 = .ok (.getfield 122, 3) := by decide +kernel
theorem dX11_pairs_183 : decode cX11_pairs 183 = .ok (.iconst 0, 1) := by decide +kernel
theorem dX11_pairs_184 : decode cX11_pairs 184 = .ok (.iload_n 2, 1) := by decide +kernel
theorem dX11_pairs_185 : decode cX11_pairs 185 = .ok (.iastore, 1) := by decide +kernel
theorem dX11_pairs_186 : decode cX11_pairs 186 = .ok (.aload_n 0, 1) := by decide +kernel
theorem dX11_pairs_187 : decode cX11_pairs 187 = .ok (.getfield 122, 3) := by decide +kernel
theorem dX11_pairs_190 : decode cX11_pairs 190 = .ok (.iconst 1, 1) := by decide +kernel
theorem dX11_pairs_191 : decode cX11_pairs 191 = .ok (.iload_n 3, 1) := by decide +kernel
theorem dX11_pairs_192 : decode cX11_pairs 192 = .ok (.iastore, 1) := by decide +kernel
theorem dX11_pairs_193 : decode cX11_pairs 193 = .ok (.aload_n 0, 1) := by decide +kernel
theorem dX11_pairs_194 : decode cX11_pairs 194 = .ok (.getfield 122, 3) := by decide +kernel
theorem dX11_pairs_197 : decode cX11_pairs 197 = .ok (.iconst 2, 1) := by decide +kernel
theorem dX11_pairs_198 : decode cX11_pairs 198 = .ok (.iload 4, 2) := by decide +kernel
theorem dX11_pairs_200 : decode cX11_pairs 200 = .ok (.iastore, 1) := by decide +kernel
theorem dX11_pairs_201 : decode cX11_pairs 201 = .ok (.aload_n 0, 1) := by decide +kernel
theorem dX11_pairs_202 : decode cX11_pairs 202 = .ok (.getfield 122, 3) := by decide +kernel
theorem dX11_pairs_205 : decode cX11_pairs 205 = .ok (.iconst 3, 1) := by decide +kernel
theorem dX11_pairs_206 : decode cX11_pairs 206 = .ok (.iload 5, 2) := by decide +kernel
theorem dX11_pairs_208 : decode cX11_pairs 208 = .ok (.iastore, 1) := by decide +kernel
theorem dX11_pairs_209 : decode cX11_pairs 209 = .ok (.aload_n 0, 1) := by decide +kernel
theorem dX11_pairs_210 : decode cX11_pairs 210 = .ok (.getfield 122, 3) := by decide +kernel
theorem dX11_pairs_213 : decode cX11_pairs 213 = .ok (.iconst 4, 1) := by decide +kernel
theorem dX11_pairs_214 : decode cX11_pairs 214 = .ok (.iload 6, 2) := by decide +kernel
theorem dX11_pairs_216 : decode cX11_pairs 216 = .ok (.iastore, 1) := by decide +kernel
theorem dX11_pairs_217 : decode cX11_pairs 217 = .ok (.aload_n 0, 1) := by decide +kernel
theorem dX11_pairs_218 : decode cX11_pairs 218 = .ok (.getfield 122, 3) := by decide +kernel
theorem dX11_pairs_221 : decode cX11_pairs 221 = .ok (.iconst 5, 1) := by decide +kernel
theorem dX11_pairs_222 : decode cX11_pairs 222 = .ok (.iload 7, 2) := by decide +kernel
theorem dX11_pairs_224 : decode cX11_pairs 224 = .ok (.iastore, 1) := by decide +kernel
theorem dX11_pairs_225 : decode cX11_pairs 225 = .ok (.return_, 1) := by decide +kernel
theorem dX11_difference_0 : decode cX11_difference 0 = .ok (.lconst 0, 1) := by decide +kernel
theorem dX11_difference_1 : decode cX11_difference 1 = .ok (.lstore_n 3, 1) := by decide +kernel
theorem dX11_difference_2 : decode cX11_difference 2 = .ok (.lconst 1, 1) := by decide +kernel
theorem dX11_difference_3 : decode cX11_difference 3 = .ok (.lstore 5, 2) := by decide +kernel
theorem dX11_difference_5 : decode cX11_difference 5 = .ok (.iconst 0, 1) := by decide +kernel
theorem dX11_difference_6 : decode cX11_difference 6 = .ok (.istore 7, 2) := by decide +kernel
theorem dX11_difference_8 : decode cX11_difference 8 = .ok (.iload 7, 2) := by decide +kernel
theorem dX11_difference_10 : decode cX11_difference 10 = .ok (.iload_n 2, 1) := by decide +kernel
theorem dX11_difference_11 : decode cX11_difference 11 = .ok (.if_icmp .gt 56, 3) := by decide +kernel
theorem dX11_difference_14 : decode cX11_difference 14 = .ok (.lload_n 3, 1) := by decide +kernel
theorem dX11_difference_15 : decode cX11_difference 15 = .ok (.iload_n 2, 1) := by decide +kernel
theorem dX11_difference_16 : decode cX11_difference 16 = .ok (.iload 7, 2) := by decide +kernel
theorem dX11_difference_18 : decode cX11_difference 18 = .ok (.isub, 1) := by decide +kernel
theorem dX11_difference_19 : decode cX11_difference 19 = .ok (.iconst 2, 1) := by decide +kernel
theorem dX11_difference_20 : decode cX11_difference 20 = .ok (.irem, 1) := by decide +kernel
theorem dX11_difference_21 : decode cX11_difference 21 = .ok (.ifCond .ne 8, 3) := by decide +kernel
theorem dX11_difference_24 : decode cX11_difference 24 = .ok (.lload 5, 2) := by decide +kernel
theorem dX11_difference_26 : decode cX11_difference 26 = .ok (.goto 6, 3) := by decide +kernel
theorem dX11_difference_29 : decode cX11_difference 29 = .ok (.lload 5, 2) := by decide +kernel
theorem dX11_difference_31 : decode cX11_difference 31 = .ok (.lneg, 1) := by decide +kernel
theorem dX11_difference_32 : decode cX11_difference 32 = .ok (.aload_n 0, 1) := by decide +kernel
theorem dX11_difference_33 : decode cX11_difference 33 = .ok (.getfield 35, 3) := by decide +kernel
theorem dX11_difference_36 : decode cX11_difference 36 = .ok (.iload_n 1, 1) := by decide +kernel
theorem dX11_difference_37 : decode cX11_difference 37 = .ok (.iload 7, 2) := by decide +kernel
theorem dX11_difference_39 : decode cX11_difference 39 = .ok (.iadd, 1) := by decide +kernel
theorem dX11_difference_40 : decode cX11_difference 40 = .ok (.iaload, 1) := by decide +kernel
theorem dX11_difference_41 : decode cX11_difference 41 = .ok (.i2l, 1) := by decide +kernel
theorem dX11_difference_42 : decode cX11_difference 42 = .ok (.lmul, 1) := by decide +kernel
theorem dX11_difference_43 : decode cX11_difference 43 = .ok (.ladd, 1) := by decide +kernel
theorem dX11_difference_44 : decode cX11_difference 44 = .ok (.lstore_n 3, 1) := by decide +kernel
theorem dX11_difference_45 : decode cX11_difference 45 = .ok (.lload 5, 2) := by decide +kernel
theorem dX11_difference_47 : decode cX11_difference 47 = .ok (.iload_n 2, 1) := by decide +kernel
theorem dX11_difference_48 : decode cX11_difference 48 = .ok (.iload 7, 2) := by decide +kernel
theorem dX11_difference_50 : decode cX11_difference 50 = .ok (.isub, 1) := by decide +kernel
theorem dX11_difference_51 : decode cX11_difference 51 = .ok (.i2l, 1) := by decide +kernel
theorem dX11_difference_52 : decode cX11_difference 52 = .ok (.lmul, 1) := by decide +kernel
theorem dX11_difference_53 : decode cX11_difference 53 = .ok (.iload 7, 2) := by decide +kernel
theorem dX11_difference_55 : decode cX11_difference 55 = .ok (.iconst 1, 1) := by decide +kernel
theorem dX11_difference_56 : decode cX11_difference 56 = .ok (.iadd, 1) := by decide +kernel
theorem dX11_difference_57 : decode cX11_difference 57 = .ok (.i2l, 1) := by decide +kernel
theorem dX11_difference_58 : decode cX11_difference 58 = .ok (.ldiv, 1) := by decide +kernel
theorem dX11_difference_59 : decode cX11_difference 59 = .ok (.lstore 5, 2) := by decide +kernel
theorem dX11_difference_61 : decode cX11_difference 61 = .ok (.iinc 7 1, 3) := by decide +kernel
theorem dX11_difference_64 : decode cX11_difference 64 = .ok (.goto (-56), 3) := by decide +kernel
theorem dX11_difference_67 : decode cX11_difference 67 = .ok (.lload_n 3, 1) := by decide +kernel
theorem dX11_difference_68 : decode cX11_difference 68 = .ok (.ldc2_w 248, 3) := by decide +kernel
theorem dX11_difference_71 : decode cX11_difference 71 = .ok (.lrem, 1) := by decide +kernel
theorem dX11_difference_72 : decode cX11_difference 72 = .ok (.ldc2_w 248, 3) := by decide +kernel
theorem dX11_difference_75 : decode cX11_difference 75 = .ok (.ladd, 1) := by decide +kernel
theorem dX11_difference_76 : decode cX11_difference 76 = .ok (.ldc2_w 248, 3) := by decide +kernel
theorem dX11_difference_79 : decode cX11_difference 79 = .ok (.lrem, 1) := by decide +kernel
theorem dX11_difference_80 : decode cX11_difference 80 = .ok (.lreturn, 1) := by decide +kernel
theorem dX11_canSet_0 : decode cX11_canSet 0 = .ok (.aload_n 0, 1) := by decide +kernel
theorem dX11_canSet_1 : decode cX11_canSet 1 = .ok (.iload_n 1, 1) := by decide +kernel
theorem dX11_canSet_2 : decode cX11_canSet 2 = .ok (.iload_n 2, 1) := by decide +kernel
theorem dX11_canSet_3 : decode cX11_canSet 3 = .ok (.invokevirtual 313, 3) := by decide +kernel
theorem dX11_canSet_6 : decode cX11_canSet 6 = .ok (.ifCond .eq 27, 3) := by decide +kernel
theorem dX11_canSet_9 : decode cX11_canSet 9 = .ok (.iload_n 3, 1) := by decide +kernel
theorem dX11_canSet_10 : decode cX11_canSet 10 = .ok (.i2l, 1) := by decide +kernel
theorem dX11_canSet_11 : decode cX11_canSet 11 = .ok (.lconst 1, 1) := by decide +kernel
theorem dX11_canSet_12 : decode cX11_canSet 12 = .ok (.ldc2_w 294, 3) := by decide +kernel
theorem dX11_canSet_15 : decode cX11_canSet 15 = .ok (.invokestatic 143, 3) := by decide +kernel
theorem dX11_canSet_18 : decode cX11_canSet 18 = .ok (.ifCond .eq 15, 3) := by decide +kernel
theorem dX11_canSet_21 : decode cX11_canSet 21 = .ok (.iload_n 2, 1) := by decide +kernel
theorem dX11_canSet_22 : decode cX11_canSet 22 = .ok (.iload_n 3, 1) := by decide +kernel
theorem dX11_canSet_23 : decode cX11_canSet 23 = .ok (.iadd, 1) := by decide +kernel
theorem dX11_canSet_24 : decode cX11_canSet 24 = .ok (.aload_n 0, 1) := by decide +kernel
theorem dX11_canSet_25 : decode cX11_canSet 25 = .ok (.getfield 32, 3) := by decide +kernel
theorem dX11_canSet_28 : decode cX11_canSet 28 = .ok (.iload_n 1, 1) := by decide +kernel
theorem dX11_canSet_29 : decode cX11_canSet 29 = .ok (.iaload, 1) := by decide +kernel
theorem dX11_canSet_30 : decode cX11_canSet 30 = .ok (.if_icmp .lt 5, 3) := by decide +kernel
theorem dX11_canSet_33 : decode cX11_canSet 33 = .ok (.iconst 0, 1) := by decide +kernel
theorem dX11_canSet_34 : decode cX11_canSet 34 = .ok (.ireturn, 1) := by decide +kernel
theorem dX11_canSet_35 : decode cX11_canSet 35 = .ok (.iconst 0, 1) := by decide +kernel
theorem dX11_canSet_36 : decode cX11_canSet 36 = .ok (.istore 4, 2) := by decide +kernel
theorem dX11_canSet_38 : decode cX11_canSet 38 = .ok (.iload 4, 2) := by decide +kernel
theorem dX11_canSet_40 : decode cX11_canSet 40 = .ok (.iload_n 3, 1) := by decide +kernel
theorem dX11_canSet_41 : decode cX11_canSet 41 = .ok (.if_icmp .gt 30, 3) := by decide +kernel
theorem dX11_canSet_44 : decode cX11_canSet 44 = .ok (.aload_n 0, 1) := by decide +kernel
theorem dX11_canSet_45 : decode cX11_canSet 45 = .ok (.getfield 35, 3) := by decide +kernel
theorem dX11_canSet_48 : decode cX11_canSet 48 = .ok (.iload_n 1, 1) := by decide +kernel
theorem dX11_canSet_49 : decode cX11_canSet 49 = .ok (.iload_n 2, 1) := by decide +kernel
theorem dX11_canSet_50 : decode cX11_canSet 50 = .ok (.iload 4, 2) := by decide +kernel
theorem dX11_canSet_52 : decode cX11_canSet 52 = .ok (.iadd, 1) := by decide +kernel
theorem dX11_canSet_53 : decode cX11_canSet 53 = .ok (.invokestatic 316, 3) := by decide +kernel
theorem dX11_canSet_56 : decode cX11_canSet 56 = .ok (.iaload, 1) := by decide +kernel
theorem dX11_canSet_57 : decode cX11_canSet 57 = .ok (.ldc_w 283, 3) := by decide +kernel
theorem dX11_canSet_60 : decode cX11_canSet 60 = .ok (.if_icmp .ne 5, 3) := by decide +kernel
theorem dX11_canSet_63 : decode cX11_canSet 63 = .ok (.iconst 0, 1) := by decide +kernel
theorem dX11_canSet_64 : decode cX11_canSet 64 = .ok (.ireturn, 1) := by decide +kernel
theorem dX11_canSet_65 : decode cX11_canSet 65 = .ok (.iinc 4 1, 3) := by decide +kernel
theorem dX11_canSet_68 : decode cX11_canSet 68 = .ok (.goto (-30), 3) := by decide +kernel
theorem dX11_canSet_71 : decode cX11_canSet 71 = .ok (.iconst 1, 1) := by decide +kernel
theorem dX11_canSet_72 : decode cX11_canSet 72 = .ok (.ireturn, 1) := by decide +kernel
theorem dX11_engine_0 : decode cX11_engine 0 = .ok (.aload_n 0, 1) := by decide +kernel
theorem dX11_engine_1 : decode cX11_engine 1 = .ok (.iload_n 1, 1) := by decide +kernel
theorem dX11_engine_2 : decode cX11_engine 2 = .ok (.iload_n 2, 1) := by decide +kernel
theorem dX11_engine_3 : decode cX11_engine 3 = .ok (.iload_n 3, 1) := by decide +kernel
theorem dX11_engine_4 : decode cX11_engine 4 = .ok (.invokevirtual 339, 3) := by decide +kernel
theorem dX11_engine_7 : decode cX11_engine 7 = .ok (.ifCond .ne 5, 3) := by decide +kernel
theorem dX11_engine_10 : decode cX11_engine 10 = .ok (.iconst (-1), 1) := by decide +kernel
theorem dX11_engine_11 : decode cX11_engine 11 = .ok (.ireturn, 1) := by decide +kernel
theorem dX11_engine_12 : decode cX11_engine 12 = .ok (.iconst 0, 1) := by decide +kernel
theorem dX11_engine_13 : decode cX11_engine 13 = .ok (.istore 4, 2) := by decide +kernel
theorem dX11_engine_15 : decode cX11_engine 15 = .ok (.iload 4, 2) := by decide +kernel
theorem dX11_engine_17 : decode cX11_engine 17 = .ok (.iconst 5, 1) := by decide +kernel
theorem dX11_engine_18 : decode cX11_engine 18 = .ok (.if_icmp .ge 76, 3) := by decide +kernel
theorem dX11_engine_21 : decode cX11_engine 21 = .ok (.iload 4, 2) := by decide +kernel
theorem dX11_engine_23 : decode cX11_engine 23 = .ok (.iload_n 3, 1) := by decide +kernel
theorem dX11_engine_24 : decode cX11_engine 24 = .ok (.if_icmp .gt 17, 3) := by decide +kernel
theorem dX11_engine_27 : decode cX11_engine 27 = .ok (.aload_n 0, 1) := by decide +kernel
theorem dX11_engine_28 : decode cX11_engine 28 = .ok (.iload_n 1, 1) := by decide +kernel
theorem dX11_engine_29 : decode cX11_engine 29 = .ok (.iload_n 2, 1) := by decide +kernel
theorem dX11_engine_30 : decode cX11_engine 30 = .ok (.invokestatic 316, 3) := by decide +kernel
theorem dX11_engine_33 : decode cX11_engine 33 = .ok (.iload 4, 2) := by decide +kernel
theorem dX11_engine_35 : decode cX11_engine 35 = .ok (.invokevirtual 343, 3) := by decide +kernel
theorem dX11_engine_38 : decode cX11_engine 38 = .ok (.goto 4, 3) := by decide +kernel
theorem dX11_engine_41 : decode cX11_engine 41 = .ok (.lconst 0, 1) := by decide +kernel
theorem dX11_engine_42 : decode cX11_engine 42 = .ok (.lstore 5, 2) := by decide +kernel
theorem dX11_engine_44 : decode cX11_engine 44 = .ok (.iconst 0, 1) := by decide +kernel
theorem dX11_engine_45 : decode cX11_engine 45 = .ok (.istore 7, 2) := by decide +kernel
theorem dX11_engine_47 : decode cX11_engine 47 = .ok (.iload 7, 2) := by decide +kernel
theorem dX11_engine_49 : decode cX11_engine 49 = .ok (.bipush 9, 2) := by decide +kernel
theorem dX11_engine_51 : decode cX11_engine 51 = .ok (.if_icmp .ge 37, 3) := by decide +kernel
theorem dX11_engine_54 : decode cX11_engine 54 = .ok (.aload_n 0, 1) := by decide +kernel
theorem dX11_engine_55 : decode cX11_engine 55 = .ok (.getfield 100, 3) := by decide +kernel
theorem dX11_engine_58 : decode cX11_engine 58 = .ok (.bipush 9, 2) := by decide +kernel
theorem dX11_engine_60 : decode cX11_engine 60 = .ok (.iload 4, 2) := by decide +kernel
theorem dX11_engine_62 : decode cX11_engine 62 = .ok (.imul, 1) := by decide +kernel
theorem dX11_engine_63 : decode cX11_engine 63 = .ok (.iload 7, 2) := by decide +kernel
theorem dX11_engine_65 : decode cX11_engine 65 = .ok (.iadd, 1) := by decide +kernel
theorem dX11_engine_66 : decode cX11_engine 66 = .ok (.lload 5, 2) := by decide +kernel
theorem dX11_engine_68 : decode cX11_engine 68 = .ok (.ldc2_w 301, 3) := by decide +kernel
theorem dX11_engine_71 : decode cX11_engine 71 = .ok (.lrem, 1) := by decide +kernel
theorem dX11_engine_72 : decode cX11_engine 72 = .ok (.l2i, 1) := by decide +kernel
theorem dX11_engine_73 : decode cX11_engine 73 = .ok (.iastore, 1) := by decide +kernel
theorem dX11_engine_74 : decode cX11_engine 74 = .ok (.lload 5, 2) := by decide +kernel
theorem dX11_engine_76 : decode cX11_engine 76 = .ok (.ldc2_w 301, 3) := by decide +kernel
theorem dX11_engine_79 : decode cX11_engine 79 = .ok (.ldiv, 1) := by decide +kernel
theorem dX11_engine_80 : decode cX11_engine 80 = .ok (.lstore 5, 2) := by decide +kernel
theorem dX11_engine_82 : decode cX11_engine 82 = .ok (.iinc 7 1, 3) := by decide +kernel
theorem dX11_engine_85 : decode cX11_engine 85 = .ok (.goto (-38), 3) := by decide +kernel
theorem dX11_engine_88 : decode cX11_engine 88 = .ok (.iinc 4 1, 3) := by decide +kernel
theorem dX11_engine_91 : decode cX11_engine 91 = .ok (.goto (-76), 3) := by decide +kernel
theorem dX11_engine_94 : decode cX11_engine 94 = .ok (.aload_n 0, 1) := by decide +kernel
theorem dX11_engine_95 : decode cX11_engine 95 = .ok (.iconst 0, 1) := by decide +kernel
theorem dX11_engine_96 : decode cX11_engine 96 = .ok (.putfield 347, 3) := by decide +kernel
theorem dX11_engine_99 : decode cX11_engine 99 = .ok (.aload_n 0, 1) := by decide +kernel
theorem dX11_engine_100 : decode cX11_engine 100 = .ok (.iconst 0, 1) := by decide +kernel
theorem dX11_engine_101 : decode cX11_engine 101 = .ok (.putfield 350, 3) := by decide +kernel
theorem dX11_engine_104 : decode cX11_engine 104 = .ok (.aload_n 0, 1) := by decide +kernel
theorem dX11_engine_105 : decode cX11_engine 105 = .ok (.iconst 0, 1) := by decide +kernel
theorem dX11_engine_106 : decode cX11_engine 106 = .ok (.putfield 353, 3) := by decide +kernel
theorem dX11_engine_109 : decode cX11_engine 109 = .ok (.bipush 14, 2) := by decide +kernel
theorem dX11_engine_111 : decode cX11_engine 111 = .ok (.iconst 4, 1) := by decide +kernel
theorem dX11_engine_112 : decode cX11_engine 112 = .ok (.iload_n 3, 1) := by decide +kernel
theorem dX11_engine_113 : decode cX11_engine 113 = .ok (.imul, 1) := by decide +kernel
theorem dX11_engine_114 : decode cX11_engine 114 = .ok (.iadd, 1) := by decide +kernel
theorem dX11_engine_115 : decode cX11_engine 115 = .ok (.ireturn, 1) := by decide +kernel
theorem dX11_stick_0 : decode cX11_stick 0 = .ok (.iload_n 1, 1) := by decide +kernel
