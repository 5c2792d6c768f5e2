theorem dL_law_0 : decode cL_law 0 = .ok (.new 7, 3) := by decide +kernel
theorem dL_law_3 : decode cL_law 3 = .ok (.dup, 1) := by decide +kernel
theorem dL_law_4 : decode cL_law 4 = .ok (.invokespecial 9, 3) := by decide +kernel
theorem dL_law_7 : decode cL_law 7 = .ok (.astore_n 1, 1) := by decide +kernel
theorem dL_law_8 : decode cL_law 8 = .ok (.new 10, 3) := by decide +kernel
theorem dL_law_11 : decode cL_law 11 = .ok (.dup, 1) := by decide +kernel
theorem dL_law_12 : decode cL_law 12 = .ok (.invokespecial 12, 3) := by decide +kernel
theorem dL_law_15 : decode cL_law 15 = .ok (.astore_n 2, 1) := by decide +kernel
theorem dL_law_16 : decode cL_law 16 = .ok (.iconst 0, 1) := by decide +kernel
theorem dL_law_17 : decode cL_law 17 = .ok (.istore_n 3, 1) := by decide +kernel
theorem dL_law_18 : decode cL_law 18 = .ok (.iload_n 3, 1) := by decide +kernel
theorem dL_law_19 : decode cL_law 19 = .ok (.aload_n 0, 1) := by decide +kernel
theorem dL_law_20 : decode cL_law 20 = .ok (.arraylength, 1) := by decide +kernel
theorem dL_law_21 : decode cL_law 21 = .ok (.bipush 6, 2) := by decide +kernel
theorem dL_law_23 : decode cL_law 23 = .ok (.isub, 1) := by decide +kernel
theorem dL_law_24 : decode cL_law 24 = .ok (.if_icmp .gt 1483, 3) := by decide +kernel
theorem dL_law_27 : decode cL_law 27 = .ok (.aload_n 0, 1) := by decide +kernel
theorem dL_law_28 : decode cL_law 28 = .ok (.iload_n 3, 1) := by decide +kernel
theorem dL_law_29 : decode cL_law 29 = .ok (.iaload, 1) := by decide +kernel
theorem dL_law_30 : decode cL_law 30 = .ok (.bipush 63, 2) := by decide +kernel
theorem dL_law_32 : decode cL_law 32 = .ok (.iand, 1) := by decide +kernel
theorem dL_law_33 : decode cL_law 33 = .ok (.tableswitch 1468 0 38 #[171, 234, 257, 270, 283, 336, 359, 412, 445, 458, 501, 554, 607, 640, 673, 716, 759, 782, 805, 838, 861, 904, 917, 950, 983, 1026, 1049, 1072, 1095, 1128, 1161, 1194, 1247, 1270, 1313, 1356, 1379, 1402, 1445], 171) := by decide +kernel
theorem dL_law_204 : decode cL_law 204 = .ok (.aload_n 1, 1) := by decide +kernel
theorem dL_law_205 : decode cL_law 205 = .ok (.aload_n 0, 1) := by decide +kernel
theorem dL_law_206 : decode cL_law 206 = .ok (.iload_n 3, 1) := by decide +kernel
theorem dL_law_207 : decode cL_law 207 = .ok (.iconst 1, 1) := by decide +kernel
theorem dL_law_208 : decode cL_law 208 = .ok (.iadd, 1) := by decide +kernel
theorem dL_law_209 : decode cL_law 209 = .ok (.iaload, 1) := by decide +kernel
theorem dL_law_210 : decode cL_law 210 = .ok (.aload_n 0, 1) := by decide +kernel
theorem dL_law_211 : decode cL_law 211 = .ok (.iload_n 3, 1) := by decide +kernel
theorem dL_law_212 : decode cL_law 212 = .ok (.iconst 2, 1) := by decide +kernel
theorem dL_law_213 : decode cL_law 213 = .ok (.iadd, 1) := by decide +kernel
theorem dL_law_214 : decode cL_law 214 = .ok (.iaload, 1) := by decide +kernel
theorem dL_law_215 : decode cL_law 215 = .ok (.aload_n 0, 1) := by decide +kernel
theorem dL_law_216 : decode cL_law 216 = .ok (.iload_n 3, 1) := by decide +kernel
theorem dL_law_217 : decode cL_law 217 = .ok (.iconst 3, 1) := by decide +kernel
theorem dL_law_218 : decode cL_law 218 = .ok (.iadd, 1) := by decide +kernel
theorem dL_law_219 : decode cL_law 219 = .ok (.iaload, 1) := by decide +kernel
theorem dL_law_220 : decode cL_law 220 = .ok (.aload_n 0, 1) := by decide +kernel
theorem dL_law_221 : decode cL_law 221 = .ok (.iload_n 3, 1) := by decide +kernel
theorem dL_law_222 : decode cL_law 222 = .ok (.iconst 4, 1) := by decide +kernel
theorem dL_law_223 : decode cL_law 223 = .ok (.iadd, 1) := by decide +kernel
theorem dL_law_224 : decode cL_law 224 = .ok (.iaload, 1) := by decide +kernel
theorem dL_law_225 : decode cL_law 225 = .ok (.aload_n 0, 1) := by decide +kernel
theorem dL_law_226 : decode cL_law 226 = .ok (.iload_n 3, 1) := by decide +kernel
theorem dL_law_227 : decode cL_law 227 = .ok (.iconst 5, 1) := by decide +kernel
theorem dL_law_228 : decode cL_law 228 = .ok (.iadd, 1) := by decide +kernel
theorem dL_law_229 : decode cL_law 229 = .ok (.iaload, 1) := by decide +kernel
theorem dL_law_230 : decode cL_law 230 = .ok (.invokevirtual 13, 3) := by decide +kernel
theorem dL_law_233 : decode cL_law 233 = .ok (.aload_n 2, 1) := by decide +kernel
theorem dL_law_234 : decode cL_law 234 = .ok (.aload_n 0, 1) := by decide +kernel
theorem dL_law_235 : decode cL_law 235 = .ok (.iload_n 3, 1) := by decide +kernel
theorem dL_law_236 : decode cL_law 236 = .ok (.iconst 1, 1) := by decide +kernel
theorem dL_law_237 : decode cL_law 237 = .ok (.iadd, 1) := by decide +kernel
theorem dL_law_238 : decode cL_law 238 = .ok (.iaload, 1) := by decide +kernel
theorem dL_law_239 : decode cL_law 239 = .ok (.aload_n 0, 1) := by decide +kernel
theorem dL_law_240 : decode cL_law 240 = .ok (.iload_n 3, 1) := by decide +kernel
theorem dL_law_241 : decode cL_law 241 = .ok (.iconst 2, 1) := by decide +kernel
theorem dL_law_242 : decode cL_law 242 = .ok (.iadd, 1) := by decide +kernel
theorem dL_law_243 : decode cL_law 243 = .ok (.iaload, 1) := by decide +kernel
theorem dL_law_244 : decode cL_law 244 = .ok (.aload_n 0, 1) := by decide +kernel
theorem dL_law_245 : decode cL_law 245 = .ok (.iload_n 3, 1) := by decide +kernel
theorem dL_law_246 : decode cL_law 246 = .ok (.iconst 3, 1) := by decide +kernel
theorem dL_law_247 : decode cL_law 247 = .ok (.iadd, 1) := by decide +kernel
theorem dL_law_248 : decode cL_law 248 = .ok (.iaload, 1) := by decide +kernel
theorem dL_law_249 : decode cL_law 249 = .ok (.aload_n 0, 1) := by decide +kernel
theorem dL_law_250 : decode cL_law 250 = .ok (.iload_n 3, 1) := by decide +kernel
theorem dL_law_251 : decode cL_law 251 = .ok (.iconst 4, 1) := by decide +kernel
theorem dL_law_252 : decode cL_law 252 = .ok (.iadd, 1) := by decide +kernel
theorem dL_law_253 : decode cL_law 253 = .ok (.iaload, 1) := by decide +kernel
theorem dL_law_254 : decode cL_law 254 = .ok (.aload_n 0, 1) := by decide +kernel
theorem dL_law_255 : decode cL_law 255 = .ok (.iload_n 3, 1) := by decide +kernel
theorem dL_law_256 : decode cL_law 256 = .ok (.iconst 5, 1) := by decide +kernel
theorem dL_law_257 : decode cL_law 257 = .ok (.iadd, 1) := by decide +kernel
theorem dL_law_258 : decode cL_law 258 = .ok (.iaload, 1) := by decide +kernel
theorem dL_law_259 : decode cL_law 259 = .ok (.invokevirtual 17, 3) := by decide +kernel
theorem dL_law_262 : decode cL_law 262 = .ok (.if_icmp .eq 1239, 3) := by decide +kernel
theorem dL_law_265 : decode cL_law 265 = .ok (.iconst 0, 1) := by decide +kernel
theorem dL_law_266 : decode cL_law 266 = .ok (.ireturn, 1) := by decide +kernel
theorem dL_law_267 : decode cL_law 267 = .ok (.aload_n 1, 1) := by decide +kernel
theorem dL_law_268 : decode cL_law 268 = .ok (.aload_n 0, 1) := by decide +kernel
theorem dL_law_269 : decode cL_law 269 = .ok (.iload_n 3, 1) := by decide +kernel
theorem dL_law_270 : decode cL_law 270 = .ok (.iconst 1, 1) := by decide +kernel
theorem dL_law_271 : decode cL_law 271 = .ok (.iadd, 1) := by decide +kernel
theorem dL_law_272 : decode cL_law 272 = .ok (.iaload, 1) := by decide +kernel
theorem dL_law_273 : decode cL_law 273 = .ok (.invokevirtual 18, 3) := by decide +kernel
theorem dL_law_276 : decode cL_law 276 = .ok (.aload_n 2, 1) := by decide +kernel
theorem dL_law_277 : decode cL_law 277 = .ok (.aload_n 0, 1) := by decide +kernel
theorem dL_law_278 : decode cL_law 278 = .ok (.iload_n 3, 1) := by decide +kernel
theorem dL_law_279 : decode cL_law 279 = .ok (.iconst 1, 1) := by decide +kernel
theorem dL_law_280 : decode cL_law 280 = .ok (.iadd, 1) := by decide +kernel
theorem dL_law_281 : decode cL_law 281 = .ok (.iaload, 1) := by decide +kernel
theorem dL_law_282 : decode cL_law 282 = .ok (.invokevirtual 22, 3) := by decide +kernel
theorem dL_law_285 : decode cL_law 285 = .ok (.if_icmp .eq 1216, 3) := by decide +kernel
theorem dL_law_288 : decode cL_law 288 = .ok (.iconst 0, 1) := by decide +kernel
theorem dL_law_289 : decode cL_law 289 = .ok (.ireturn, 1) := by decide +kernel
theorem dL_law_290 : decode cL_law 290 = .ok (.aload_n 1, 1) := by decide +kernel
theorem dL_law_291 : decode cL_law 291 = .ok (.invokevirtual 23, 3) := by decide +kernel
theorem dL_law_294 : decode cL_law 294 = .ok (.aload_n 2, 1) := by decide +kernel
theorem dL_law_295 : decode cL_law 295 = .ok (.invokevirtual 27, 3) := by decide +kernel
theorem dL_law_298 : decode cL_law 298 = .ok (.if_icmp .eq 1203, 3) := by decide +kernel
theorem dL_law_301 : decode cL_law 301 = .ok (.iconst 0, 1) := by decide +kernel
theorem dL_law_302 : decode cL_law 302 = .ok (.ireturn, 1) := by decide +kernel
theorem dL_law_303 : decode cL_law 303 = .ok (.aload_n 1, 1) := by decide +kernel
theorem dL_law_304 : decode cL_law 304 = .ok (.invokevirtual 28, 3) := by decide +kernel
theorem dL_law_307 : decode cL_law 307 = .ok (.aload_n 2, 1) := by decide +kernel
theorem dL_law_308 : decode cL_law 308 = .ok (.invokevirtual 31, 3) := by decide +kernel
theorem dL_law_311 : decode cL_law 311 = .ok (.if_icmp .eq 1190, 3) := by decide +kernel
theorem dL_law_314 : decode cL_law 314 = .ok (.iconst 0, 1) := by decide +kernel
theorem dL_law_315 : decode cL_law 315 = .ok (.ireturn, 1) := by decide +kernel
theorem dL_law_316 : decode cL_law 316 = .ok (.aload_n 1, 1) := by decide +kernel
theorem dL_law_317 : decode cL_law 317 = .ok (.aload_n 0, 1) := by decide +kernel
theorem dL_law_318 : decode cL_law 318 = .ok (.iload_n 3, 1) := by decide +kernel
theorem dL_law_319 : decode cL_law 319 = .ok (.iconst 1, 1) := by decide +kernel
theorem dL_law_320 : decode cL_law 320 = .ok (.iadd, 1) := by decide +kernel
theorem dL_law_321 : decode cL_law 321 = .ok (.iaload, 1) := by decide +kernel
theorem dL_law_322 : decode cL_law 322 = .ok (.aload_n 0, 1) := by decide +kernel
theorem dL_law_323 : decode cL_law 323 = .ok (.iload_n 3, 1) := by decide +kernel
theorem dL_law_324 : decode cL_law 324 = .ok (.iconst 2, 1) := by decide +kernel
theorem dL_law_325 : decode cL_law 325 = .ok (.iadd, 1) := by decide +kernel
theorem dL_law_326 : decode cL_law 326 = .ok (.iaload, 1) := by decide +kernel
theorem dL_law_327 : decode cL_law 327 = .ok (.aload_n 0, 1) := by decide +kernel
theorem dL_law_328 : decode cL_law 328 = .ok (.iload_n 3, 1) := by decide +kernel
theorem dL_law_329 : decode cL_law 329 = .ok (.iconst 3, 1) := by decide +kernel
theorem dL_law_330 : decode cL_law 330 = .ok (.iadd, 1) := by decide +kernel
theorem dL_law_331 : decode cL_law 331 = .ok (.iaload, 1) := by decide +kernel
theorem dL_law_332 : decode cL_law 332 = .ok (.aload_n 0, 1) := by decide +kernel
theorem dL_law_333 : decode cL_law 333 = .ok (.iload_n 3, 1) := by decide +kernel
theorem dL_law_334 : decode cL_law 334 = .ok (.iconst 4, 1) := by decide +kernel
theorem dL_law_335 : decode cL_law 335 = .ok (.iadd, 1) := by decide +kernel
theorem dL_law_336 : decode cL_law 336 = .ok (.iaload, 1) := by decide +kernel
theorem dL_law_337 : decode cL_law 337 = .ok (.invokevirtual 32, 3) := by decide +kernel
theorem dL_law_340 : decode cL_law 340 = .ok (.aload_n 2, 1) := by decide +kernel
theorem dL_law_341 : decode cL_law 341 = .ok (.aload_n 0, 1) := by decide +kernel
theorem dL_law_342 : decode cL_law 342 = .ok (.iload_n 3, 1) := by decide +kernel
theorem dL_law_343 : decode cL_law 343 = .ok (.iconst 1, 1) := by decide +kernel
theorem dL_law_344 : decode cL_law 344 = .ok (.iadd, 1) := by decide +kernel
theorem dL_law_345 : decode cL_law 345 = .ok (.iaload, 1) := by decide +kernel
theorem dL_law_346 : decode cL_law 346 = .ok (.aload_n 0, 1) := by decide +kernel
theorem dL_law_347 : decode cL_law 347 = .ok (.iload_n 3, 1) := by decide +kernel
theorem dL_law_348 : decode cL_law 348 = .ok (.iconst 2, 1) := by decide +kernel
theorem dL_law_349 : decode cL_law 349 = .ok (.iadd, 1) := by decide +kernel
theorem dL_law_350 : decode cL_law 350 = .ok (.iaload, 1) := by decide +kernel
theorem dL_law_351 : decode cL_law 351 = .ok (.aload_n 0, 1) := by decide +kernel
theorem dL_law_352 : decode cL_law 352 = .ok (.iload_n 3, 1) := by decide +kernel
theorem dL_law_353 : decode cL_law 353 = .ok (.iconst 3, 1) := by decide +kernel
theorem dL_law_354 : decode cL_law 354 = .ok (.iadd, 1) := by decide +kernel
theorem dL_law_355 : decode cL_law 355 = .ok (.iaload, 1) := by decide +kernel
theorem dL_law_356 : decode cL_law 356 = .ok (.aload_n 0, 1) := by decide +kernel
theorem dL_law_357 : decode cL_law 357 = .ok (.iload_n 3, 1) := by decide +kernel
theorem dL_law_358 : decode cL_law 358 = .ok (.iconst 4, 1) := by decide +kernel
theorem dL_law_359 : decode cL_law 359 = .ok (.iadd, 1) := by decide +kernel
theorem dL_law_360 : decode cL_law 360 = .ok (.iaload, 1) := by decide +kernel
theorem dL_law_361 : decode cL_law 361 = .ok (.invokevirtual 36, 3) := by decide +kernel
theorem dL_law_364 : decode cL_law 364 = .ok (.if_icmp .eq 1137, 3) := by decide +kernel
theorem dL_law_367 : decode cL_law 367 = .ok (.iconst 0, 1) := by decide +kernel
theorem dL_law_368 : decode cL_law 368 = .ok (.ireturn, 1) := by decide +kernel
theorem dL_law_369 : decode cL_law 369 = .ok (.aload_n 1, 1) := by decide +kernel
theorem dL_law_370 : decode cL_law 370 = .ok (.aload_n 0, 1) := by decide +kernel
theorem dL_law_371 : decode cL_law 371 = .ok (.iload_n 3, 1) := by decide +kernel
theorem dL_law_372 : decode cL_law 372 = .ok (.iconst 1, 1) := by decide +kernel
theorem dL_law_373 : decode cL_law 373 = .ok (.iadd, 1) := by decide +kernel
theorem dL_law_374 : decode cL_law 374 = .ok (.iaload, 1) := by decide +kernel
theorem dL_law_375 : decode cL_law 375 = .ok (.invokevirtual 37, 3) := by decide +kernel
theorem dL_law_378 : decode cL_law 378 = .ok (.aload_n 2, 1) := by decide +kernel
theorem dL_law_379 : decode cL_law 379 = .ok (.aload_n 0, 1) := by decide +kernel
theorem dL_law_380 : decode cL_law 380 = .ok (.iload_n 3, 1) := by decide +kernel
theorem dL_law_381 : decode cL_law 381 = .ok (.iconst 1, 1) := by decide +kernel
theorem dL_law_382 : decode cL_law 382 = .ok (.iadd, 1) := by decide +kernel
theorem dL_law_383 : decode cL_law 383 = .ok (.iaload, 1) := by decide +kernel
theorem dL_law_384 : decode cL_law 384 = .ok (.invokevirtual 41, 3) := by decide +kernel
theorem dL_law_387 : decode cL_law 387 = .ok (.if_icmp .eq 1114, 3) := by decide +kernel
theorem dL_law_390 : decode cL_law 390 = .ok (.iconst 0, 1) := by decide +kernel
theorem dL_law_391 : decode cL_law 391 = .ok (.ireturn, 1) := by decide +kernel
theorem dL_law_392 : decode cL_law 392 = .ok (.aload_n 1, 1) := by decide +kernel
theorem dL_law_393 : decode cL_law 393 = .ok (.aload_n 0, 1) := by decide +kernel
theorem dL_law_394 : decode cL_law 394 = .ok (.iload_n 3, 1) := by decide +kernel
theorem dL_law_395 : decode cL_law 395 = .ok (.iconst 1, 1) := by decide +kernel
theorem dL_law_396 : decode cL_law 396 = .ok (.iadd, 1) := by decide +kernel
theorem dL_law_397 : decode cL_law 397 = .ok (.iaload, 1) := by decide +kernel
theorem dL_law_398 : decode cL_law 398 = .ok (.aload_n 0, 1) := by decide +kernel
theorem dL_law_399 : decode cL_law 399 = .ok (.iload_n 3, 1) := by decide +kernel
theorem dL_law_400 : decode cL_law 400 = .ok (.iconst 2, 1) := by decide +kernel
theorem dL_law_401 : decode cL_law 401 = .ok (.iadd, 1) := by decide +kernel
theorem dL_law_402 : decode cL_law 402 = .ok (.iaload, 1) := by decide +kernel
theorem dL_law_403 : decode cL_law 403 = .ok (.aload_n 0, 1) := by decide +kernel
theorem dL_law_404 : decode cL_law 404 = .ok (.iload_n 3, 1) := by decide +kernel
theorem dL_law_405 : decode cL_law 405 = .ok (.iconst 3, 1) := by decide +kernel
theorem dL_law_406 : decode cL_law 406 = .ok (.iadd, 1) := by decide +kernel
theorem dL_law_407 : decode cL_law 407 = .ok (.iaload, 1) := by decide +kernel
theorem dL_law_408 : decode cL_law 408 = .ok (.aload_n 0, 1) := by decide +kernel
theorem dL_law_409 : decode cL_law 409 = .ok (.iload_n 3, 1) := by decide +kernel
theorem dL_law_410 : decode cL_law 410 = .ok (.iconst 4, 1) := by decide +kernel
theorem dL_law_411 : decode cL_law 411 = .ok (.iadd, 1) := by decide +kernel
theorem dL_law_412 : decode cL_law 412 = .ok (.iaload, 1) := by decide +kernel
theorem dL_law_413 : decode cL_law 413 = .ok (.invokevirtual 42, 3) := by decide +kernel
theorem dL_law_416 : decode cL_law 416 = .ok (.aload_n 2, 1) := by decide +kernel
theorem dL_law_417 : decode cL_law 417 = .ok (.aload_n 0, 1) := by decide +kernel
theorem dL_law_418 : decode cL_law 418 = .ok (.iload_n 3, 1) := by decide +kernel
theorem dL_law_419 : decode cL_law 419 = .ok (.iconst 1, 1) := by decide +kernel
theorem dL_law_420 : decode cL_law 420 = .ok (.iadd, 1) := by decide +kernel
theorem dL_law_421 : decode cL_law 421 = .ok (.iaload, 1) := by decide +kernel
theorem dL_law_422 : decode cL_law 422 = .ok (.aload_n 0, 1) := by decide +kernel
theorem dL_law_423 : decode cL_law 423 = .ok (.iload_n 3, 1) := by decide +kernel
theorem dL_law_424 : decode cL_law 424 = .ok (.iconst 2, 1) := by decide +kernel
theorem dL_law_425 : decode cL_law 425 = .ok (.iadd, 1) := by decide +kernel
theorem dL_law_426 : decode cL_law 426 = .ok (.iaload, 1) := by decide +kernel
theorem dL_law_427 : decode cL_law 427 = .ok (.aload_n 0, 1) := by decide +kernel
theorem dL_law_428 : decode cL_law 428 = .ok (.iload_n 3, 1) := by decide +kernel
theorem dL_law_429 : decode cL_law 429 = .ok (.iconst 3, 1) := by decide +kernel
theorem dL_law_430 : decode cL_law 430 = .ok (.iadd, 1) := by decide +kernel
theorem dL_law_431 : decode cL_law 431 = .ok (.iaload, 1) := by decide +kernel
theorem dL_law_432 : decode cL_law 432 = .ok (.aload_n 0, 1) := by decide +kernel
theorem dL_law_433 : decode cL_law 433 = .ok (.iload_n 3, 1) := by decide +kernel
theorem dL_law_434 : decode cL_law 434 = .ok (.iconst 4, 1) := by decide +kernel
theorem dL_law_435 : decode cL_law 435 = .ok (.iadd, 1) := by decide +kernel
theorem dL_law_436 : decode cL_law 436 = .ok (.iaload, 1) := by decide +kernel
theorem dL_law_437 : decode cL_law 437 = .ok (.invokevirtual 45, 3) := by decide +kernel
theorem dL_law_440 : decode cL_law 440 = .ok (.if_icmp .eq 1061, 3) := by decide +kernel
theorem dL_law_443 : decode cL_law 443 = .ok (.iconst 0, 1) := by decide +kernel
theorem dL_law_444 : decode cL_law 444 = .ok (.ireturn, 1) := by decide +kernel
theorem dL_law_445 : decode cL_law 445 = .ok (.aload_n 1, 1) := by decide +kernel
theorem dL_law_446 : decode cL_law 446 = .ok (.aload_n 0, 1) := by decide +kernel
theorem dL_law_447 : decode cL_law 447 = .ok (.iload_n 3, 1) := by decide +kernel
theorem dL_law_448 : decode cL_law 448 = .ok (.iconst 1, 1) := by decide +kernel
theorem dL_law_449 : decode cL_law 449 = .ok (.iadd, 1) := by decide +kernel
theorem dL_law_450 : decode cL_law 450 = .ok (.iaload, 1) := by decide +kernel
theorem dL_law_451 : decode cL_law 451 = .ok (.aload_n 0, 1) := by decide +kernel
theorem dL_law_452 : decode cL_law 452 = .ok (.iload_n 3, 1) := by decide +kernel
theorem dL_law_453 : decode cL_law 453 = .ok (.iconst 2, 1) := by decide +kernel
theorem dL_law_454 : decode cL_law 454 = .ok (.iadd, 1) := by decide +kernel
theorem dL_law_455 : decode cL_law 455 = .ok (.iaload, 1) := by decide +kernel
theorem dL_law_456 : decode cL_law 456 = .ok (.invokevirtual 46, 3) := by decide +kernel
theorem dL_law_459 : decode cL_law 459 = .ok (.aload_n 2, 1) := by decide +kernel
theorem dL_law_460 : decode cL_law 460 = .ok (.aload_n 0, 1) := by decide +kernel
theorem dL_law_461 : decode cL_law 461 = .ok (.iload_n 3, 1) := by decide +kernel
theorem dL_law_462 : decode cL_law 462 = .ok (.iconst 1, 1) := by decide +kernel
theorem dL_law_463 : decode cL_law 463 = .ok (.iadd, 1) := by decide +kernel
theorem dL_law_464 : decode cL_law 464 = .ok (.iaload, 1) := by decide +kernel
theorem dL_law_465 : decode cL_law 465 = .ok (.aload_n 0, 1) := by decide +kernel
theorem dL_law_466 : decode cL_law 466 = .ok (.iload_n 3, 1) := by decide +kernel
theorem dL_law_467 : decode cL_law 467 = .ok (.iconst 2, 1) := by decide +kernel
theorem dL_law_468 : decode cL_law 468 = .ok (.iadd, 1) := by decide +kernel
theorem dL_law_469 : decode cL_law 469 = .ok (.iaload, 1) := by decide +kernel
theorem dL_law_470 : decode cL_law 470 = .ok (.invokevirtual 50, 3) := by decide +kernel
theorem dL_law_473 : decode cL_law 473 = .ok (.if_icmp .eq 1028, 3) := by decide +kernel
theorem dL_law_476 : decode cL_law 476 = .ok (.iconst 0, 1) := by decide +kernel
theorem dL_law_477 : decode cL_law 477 = .ok (.ireturn, 1) := by decide +kernel
theorem dL_law_478 : decode cL_law 478 = .ok (.aload_n 1, 1) := by decide +kernel
theorem dL_law_479 : decode cL_law 479 = .ok (.invokevirtual 51, 3) := by decide +kernel
theorem dL_law_482 : decode cL_law 482 = .ok (.aload_n 2, 1) := by decide +kernel
theorem dL_law_483 : decode cL_law 483 = .ok (.invokevirtual 54, 3) := by decide +kernel
theorem dL_law_486 : decode cL_law 486 = .ok (.if_icmp .eq 1015, 3) := by decide +kernel
theorem dL_law_489 : decode cL_law 489 = .ok (.iconst 0, 1) := by decide +kernel
theorem dL_law_490 : decode cL_law 490 = .ok (.ireturn, 1) := by decide +kernel
theorem dL_law_491 : decode cL_law 491 = .ok (.aload_n 1, 1) := by decide +kernel
theorem dL_law_492 : decode cL_law 492 = .ok (.aload_n 0, 1) := by decide +kernel
theorem dL_law_493 : decode cL_law 493 = .ok (.iload_n 3, 1) := by decide +kernel
theorem dL_law_494 : decode cL_law 494 = .ok (.iconst 1, 1) := by decide +kernel
theorem dL_law_495 : decode cL_law 495 = .ok (.iadd, 1) := by decide +kernel
theorem dL_law_496 : decode cL_law 496 = .ok (.iaload, 1) := by decide +kernel
theorem dL_law_497 : decode cL_law 497 = .ok (.aload_n 0, 1) := by decide +kernel
theorem dL_law_498 : decode cL_law 498 = .ok (.iload_n 3, 1) := by decide +kernel
theorem dL_law_499 : decode cL_law 499 = .ok (.iconst 2, 1) := by decide +kernel
theorem dL_law_500 : decode cL_law 500 = .ok (.iadd, 1) := by decide +kernel
theorem dL_law_501 : decode cL_law 501 = .ok (.iaload, 1) := by decide +kernel
theorem dL_law_502 : decode cL_law 502 = .ok (.aload_n 0, 1) := by decide +kernel
theorem dL_law_503 : decode cL_law 503 = .ok (.iload_n 3, 1) := by decide +kernel
theorem dL_law_504 : decode cL_law 504 = .ok (.iconst 3, 1) := by decide +kernel
theorem dL_law_505 : decode cL_law 505 = .ok (.iadd, 1) := by decide +kernel
theorem dL_law_506 : decode cL_law 506 = .ok (.iaload, 1) := by decide +kernel
theorem dL_law_507 : decode cL_law 507 = .ok (.invokevirtual 55, 3) := by decide +kernel
theorem dL_law_510 : decode cL_law 510 = .ok (.aload_n 2, 1) := by decide +kernel
theorem dL_law_511 : decode cL_law 511 = .ok (.aload_n 0, 1) := by decide +kernel
theorem dL_law_512 : decode cL_law 512 = .ok (.iload_n 3, 1) := by decide +kernel
theorem dL_law_513 : decode cL_law 513 = .ok (.iconst 1, 1) := by decide +kernel
theorem dL_law_514 : decode cL_law 514 = .ok (.iadd, 1) := by decide +kernel
theorem dL_law_515 : decode cL_law 515 = .ok (.iaload, 1) := by decide +kernel
theorem dL_law_516 : decode cL_law 516 = .ok (.aload_n 0, 1) := by decide +kernel
theorem dL_law_517 : decode cL_law 517 = .ok (.iload_n 3, 1) := by decide +kernel
theorem dL_law_518 : decode cL_law 518 = .ok (.iconst 2, 1) := by decide +kernel
theorem dL_law_519 : decode cL_law 519 = .ok (.iadd, 1) := by decide +kernel
theorem dL_law_520 : decode cL_law 520 = .ok (.iaload, 1) := by decide +kernel
theorem dL_law_521 : decode cL_law 521 = .ok (.aload_n 0, 1) := by decide +kernel
theorem dL_law_522 : decode cL_law 522 = .ok (.iload_n 3, 1) := by decide +kernel
theorem dL_law_523 : decode cL_law 523 = .ok (.iconst 3, 1) := by decide +kernel
theorem dL_law_524 : decode cL_law 524 = .ok (.iadd, 1) := by decide +kernel
theorem dL_law_525 : decode cL_law 525 = .ok (.iaload, 1) := by decide +kernel
theorem dL_law_526 : decode cL_law 526 = .ok (.invokevirtual 59, 3) := by decide +kernel
theorem dL_law_529 : decode cL_law 529 = .ok (.if_icmp .eq 972, 3) := by decide +kernel
theorem dL_law_532 : decode cL_law 532 = .ok (.iconst 0, 1) := by decide +kernel
theorem dL_law_533 : decode cL_law 533 = .ok (.ireturn, 1) := by decide +kernel
theorem dL_law_534 : decode cL_law 534 = .ok (.aload_n 1, 1) := by decide +kernel
theorem dL_law_535 : decode cL_law 535 = .ok (.aload_n 0, 1) := by decide +kernel
theorem dL_law_536 : decode cL_law 536 = .ok (.iload_n 3, 1) := by decide +kernel
theorem dL_law_537 : decode cL_law 537 = .ok (.iconst 1, 1) := by decide +kernel
theorem dL_law_538 : decode cL_law 538 = .ok (.iadd, 1) := by decide +kernel
theorem dL_law_539 : decode cL_law 539 = .ok (.iaload, 1) := by decide +kernel
theorem dL_law_540 : decode cL_law 540 = .ok (.aload_n 0, 1) := by decide +kernel
theorem dL_law_541 : decode cL_law 541 = .ok (.iload_n 3, 1) := by decide +kernel
theorem dL_law_542 : decode cL_law 542 = .ok (.iconst 2, 1) := by decide +kernel
theorem dL_law_543 : decode cL_law 543 = .ok (.iadd, 1) := by decide +kernel
theorem dL_law_544 : decode cL_law 544 = .ok (.iaload, 1) := by decide +kernel
theorem dL_law_545 : decode cL_law 545 = .ok (.aload_n 0, 1) := by decide +kernel
theorem dL_law_546 : decode cL_law 546 = .ok (.iload_n 3, 1) := by decide +kernel
theorem dL_law_547 : decode cL_law 547 = .ok (.iconst 3, 1) := by decide +kernel
theorem dL_law_548 : decode cL_law 548 = .ok (.iadd, 1) := by decide +kernel
theorem dL_law_549 : decode cL_law 549 = .ok (.iaload, 1) := by decide +kernel
theorem dL_law_550 : decode cL_law 550 = .ok (.aload_n 0, 1) := by decide +kernel
theorem dL_law_551 : decode cL_law 551 = .ok (.iload_n 3, 1) := by decide +kernel
theorem dL_law_552 : decode cL_law 552 = .ok (.iconst 4, 1) := by decide +kernel
theorem dL_law_553 : decode cL_law 553 = .ok (.iadd, 1) := by decide +kernel
theorem dL_law_554 : decode cL_law 554 = .ok (.iaload, 1) := by decide +kernel
theorem dL_law_555 : decode cL_law 555 = .ok (.invokevirtual 60, 3) := by decide +kernel
theorem dL_law_558 : decode cL_law 558 = .ok (.aload_n 2, 1) := by decide +kernel
theorem dL_law_559 : decode cL_law 559 = .ok (.aload_n 0, 1) := by decide +kernel
theorem dL_law_560 : decode cL_law 560 = .ok (.iload_n 3, 1) := by decide +kernel
theorem dL_law_561 : decode cL_law 561 = .ok (.iconst 1, 1) := by decide +kernel
theorem dL_law_562 : decode cL_law 562 = .ok (.iadd, 1) := by decide +kernel
theorem dL_law_563 : decode cL_law 563 = .ok (.iaload, 1) := by decide +kernel
theorem dL_law_564 : decode cL_law 564 = .ok (.aload_n 0, 1) := by decide +kernel
theorem dL_law_565 : decode cL_law 565 = .ok (.iload_n 3, 1) := by decide +kernel
theorem dL_law_566 : decode cL_law 566 = .ok (.iconst 2, 1) := by decide +kernel
theorem dL_law_567 : decode cL_law 567 = .ok (.iadd, 1) := by decide +kernel
theorem dL_law_568 : decode cL_law 568 = .ok (.iaload, 1) := by decide +kernel
theorem dL_law_569 : decode cL_law 569 = .ok (.aload_n 0, 1) := by decide +kernel
theorem dL_law_570 : decode cL_law 570 = .ok (.iload_n 3, 1) := by decide +kernel
theorem dL_law_571 : decode cL_law 571 = .ok (.iconst 3, 1) := by decide +kernel
theorem dL_law_572 : decode cL_law 572 = .ok (.iadd, 1) := by decide +kernel
theorem dL_law_573 : decode cL_law 573 = .ok (.iaload, 1) := by decide +kernel
theorem dL_law_574 : decode cL_law 574 = .ok (.aload_n 0, 1) := by decide +kernel
theorem dL_law_575 : decode cL_law 575 = .ok (.iload_n 3, 1) := by decide +kernel
theorem dL_law_576 : decode cL_law 576 = .ok (.iconst 4, 1) := by decide +kernel
theorem dL_law_577 : decode cL_law 577 = .ok (.iadd, 1) := by decide +kernel
theorem dL_law_578 : decode cL_law 578 = .ok (.iaload, 1) := by decide +kernel
theorem dL_law_579 : decode cL_law 579 = .ok (.invokevirtual 63, 3) := by decide +kernel
theorem dL_law_582 : decode cL_law 582 = .ok (.if_icmp .eq 919, 3) := by decide +kernel
theorem dL_law_585 : decode cL_law 585 = .ok (.iconst 0, 1) := by decide +kernel
theorem dL_law_586 : decode cL_law 586 = .ok (.ireturn, 1) := by decide +kernel
theorem dL_law_587 : decode cL_law 587 = .ok (.aload_n 1, 1) := by decide +kernel
theorem dL_law_588 : decode cL_law 588 = .ok (.aload_n 0, 1) := by decide +kernel
theorem dL_law_589 : decode cL_law 589 = .ok (.iload_n 3, 1) := by decide +kernel
theorem dL_law_590 : decode cL_law 590 = .ok (.iconst 1, 1) := by decide +kernel
theorem dL_law_591 : decode cL_law 591 = .ok (.iadd, 1) := by decide +kernel
theorem dL_law_592 : decode cL_law 592 = .ok (.iaload, 1) := by decide +kernel
theorem dL_law_593 : decode cL_law 593 = .ok (.aload_n 0, 1) := by decide +kernel
theorem dL_law_594 : decode cL_law 594 = .ok (.iload_n 3, 1) := by decide +kernel
theorem dL_law_595 : decode cL_law 595 = .ok (.iconst 2, 1) := by decide +kernel
theorem dL_law_596 : decode cL_law 596 = .ok (.iadd, 1) := by decide +kernel
theorem dL_law_597 : decode cL_law 597 = .ok (.iaload, 1) := by decide +kernel
theorem dL_law_598 : decode cL_law 598 = .ok (.aload_n 0, 1) := by decide +kernel
theorem dL_law_599 : decode cL_law 599 = .ok (.iload_n 3, 1) := by decide +kernel
theorem dL_law_600 : decode cL_law 600 = .ok (.iconst 3, 1) := by decide +kernel
theorem dL_law_601 : decode cL_law 601 = .ok (.iadd, 1) := by decide +kernel
theorem dL_law_602 : decode cL_law 602 = .ok (.iaload, 1) := by decide +kernel
theorem dL_law_603 : decode cL_law 603 = .ok (.aload_n 0, 1) := by decide +kernel
theorem dL_law_604 : decode cL_law 604 = .ok (.iload_n 3, 1) := by decide +kernel
theorem dL_law_605 : decode cL_law 605 = .ok (.iconst 4, 1) := by decide +kernel
theorem dL_law_606 : decode cL_law 606 = .ok (.iadd, 1) := by decide +kernel
theorem dL_law_607 : decode cL_law 607 = .ok (.iaload, 1) := by decide +kernel
theorem dL_law_608 : decode cL_law 608 = .ok (.invokevirtual 64, 3) := by decide +kernel
theorem dL_law_611 : decode cL_law 611 = .ok (.aload_n 2, 1) := by decide +kernel
theorem dL_law_612 : decode cL_law 612 = .ok (.aload_n 0, 1) := by decide +kernel
theorem dL_law_613 : decode cL_law 613 = .ok (.iload_n 3, 1) := by decide +kernel
theorem dL_law_614 : decode cL_law 614 = .ok (.iconst 1, 1) := by decide +kernel
theorem dL_law_615 : decode cL_law 615 = .ok (.iadd, 1) := by decide +kernel
theorem dL_law_616 : decode cL_law 616 = .ok (.iaload, 1) := by decide +kernel
theorem dL_law_617 : decode cL_law 617 = .ok (.aload_n 0, 1) := by decide +kernel
theorem dL_law_618 : decode cL_law 618 = .ok (.iload_n 3, 1) := by decide +kernel
theorem dL_law_619 : decode cL_law 619 = .ok (.iconst 2, 1) := by decide +kernel
theorem dL_law_620 : decode cL_law 620 = .ok (.iadd, 1) := by decide +kernel
theorem dL_law_621 : decode cL_law 621 = .ok (.iaload, 1) := by decide +kernel
theorem dL_law_622 : decode cL_law 622 = .ok (.aload_n 0, 1) := by decide +kernel
theorem dL_law_623 : decode cL_law 623 = .ok (.iload_n 3, 1) := by decide +kernel
theorem dL_law_624 : decode cL_law 624 = .ok (.iconst 3, 1) := by decide +kernel
theorem dL_law_625 : decode cL_law 625 = .ok (.iadd, 1) := by decide +kernel
theorem dL_law_626 : decode cL_law 626 = .ok (.iaload, 1) := by decide +kernel
theorem dL_law_627 : decode cL_law 627 = .ok (.aload_n 0, 1) := by decide +kernel
theorem dL_law_628 : decode cL_law 628 = .ok (.iload_n 3, 1) := by decide +kernel
theorem dL_law_629 : decode cL_law 629 = .ok (.iconst 4, 1) := by decide +kernel
theorem dL_law_630 : decode cL_law 630 = .ok (.iadd, 1) := by decide +kernel
theorem dL_law_631 : decode cL_law 631 = .ok (.iaload, 1) := by decide +kernel
theorem dL_law_632 : decode cL_law 632 = .ok (.invokevirtual 67, 3) := by decide +kernel
theorem dL_law_635 : decode cL_law 635 = .ok (.if_icmp .eq 866, 3) := by decide +kernel
theorem dL_law_638 : decode cL_law 638 = .ok (.iconst 0, 1) := by decide +kernel
theorem dL_law_639 : decode cL_law 639 = .ok (.ireturn, 1) := by decide +kernel
theorem dL_law_640 : decode cL_law 640 = .ok (.aload_n 1, 1) := by decide +kernel
theorem dL_law_641 : decode cL_law 641 = .ok (.aload_n 0, 1) := by decide +kernel
theorem dL_law_642 : decode cL_law 642 = .ok (.iload_n 3, 1) := by decide +kernel
theorem dL_law_643 : decode cL_law 643 = .ok (.iconst 1, 1) := by decide +kernel
theorem dL_law_644 : decode cL_law 644 = .ok (.iadd, 1) := by decide +kernel
theorem dL_law_645 : decode cL_law 645 = .ok (.iaload, 1) := by decide +kernel
theorem dL_law_646 : decode cL_law 646 = .ok (.aload_n 0, 1) := by decide +kernel
theorem dL_law_647 : decode cL_law 647 = .ok (.iload_n 3, 1) := by decide +kernel
theorem dL_law_648 : decode cL_law 648 = .ok (.iconst 2, 1) := by decide +kernel
theorem dL_law_649 : decode cL_law 649 = .ok (.iadd, 1) := by decide +kernel
theorem dL_law_650 : decode cL_law 650 = .ok (.iaload, 1) := by decide +kernel
theorem dL_law_651 : decode cL_law 651 = .ok (.invokevirtual 68, 3) := by decide +kernel
theorem dL_law_654 : decode cL_law 654 = .ok (.aload_n 2, 1) := by decide +kernel
theorem dL_law_655 : decode cL_law 655 = .ok (.aload_n 0, 1) := by decide +kernel
theorem dL_law_656 : decode cL_law 656 = .ok (.iload_n 3, 1) := by decide +kernel
theorem dL_law_657 : decode cL_law 657 = .ok (.iconst 1, 1) := by decide +kernel
theorem dL_law_658 : decode cL_law 658 = .ok (.iadd, 1) := by decide +kernel
theorem dL_law_659 : decode cL_law 659 = .ok (.iaload, 1) := by decide +kernel
theorem dL_law_660 : decode cL_law 660 = .ok (.aload_n 0, 1) := by decide +kernel
theorem dL_law_661 : decode cL_law 661 = .ok (.iload_n 3, 1) := by decide +kernel
theorem dL_law_662 : decode cL_law 662 = .ok (.iconst 2, 1) := by decide +kernel
theorem dL_law_663 : decode cL_law 663 = .ok (.iadd, 1) := by decide +kernel
theorem dL_law_664 : decode cL_law 664 = .ok (.iaload, 1) := by decide +kernel
theorem dL_law_665 : decode cL_law 665 = .ok (.invokevirtual 71, 3) := by decide +kernel
theorem dL_law_668 : decode cL_law 668 = .ok (.if_icmp .eq 833, 3) := by decide +kernel
theorem dL_law_671 : decode cL_law 671 = .ok (.iconst 0, 1) := by decide +kernel
theorem dL_law_672 : decode cL_law 672 = .ok (.ireturn, 1) := by decide +kernel
theorem dL_law_673 : decode cL_law 673 = .ok (.aload_n 1, 1) := by decide +kernel
theorem dL_law_674 : decode cL_law 674 = .ok (.aload_n 0, 1) := by decide +kernel
theorem dL_law_675 : decode cL_law 675 = .ok (.iload_n 3, 1) := by decide +kernel
theorem dL_law_676 : decode cL_law 676 = .ok (.iconst 1, 1) := by decide +kernel
theorem dL_law_677 : decode cL_law 677 = .ok (.iadd, 1) := by decide +kernel
theorem dL_law_678 : decode cL_law 678 = .ok (.iaload, 1) := by decide +kernel
theorem dL_law_679 : decode cL_law 679 = .ok (.aload_n 0, 1) := by decide +kernel
theorem dL_law_680 : decode cL_law 680 = .ok (.iload_n 3, 1) := by decide +kernel
theorem dL_law_681 : decode cL_law 681 = .ok (.iconst 2, 1) := by decide +kernel
theorem dL_law_682 : decode cL_law 682 = .ok (.iadd, 1) := by decide +kernel
theorem dL_law_683 : decode cL_law 683 = .ok (.iaload, 1) := by decide +kernel
theorem dL_law_684 : decode cL_law 684 = .ok (.invokevirtual 72, 3) := by decide +kernel
theorem dL_law_687 : decode cL_law 687 = .ok (.aload_n 2, 1) := by decide +kernel
theorem dL_law_688 : decode cL_law 688 = .ok (.aload_n 0, 1) := by decide +kernel
theorem dL_law_689 : decode cL_law 689 = .ok (.iload_n 3, 1) := by decide +kernel
theorem dL_law_690 : decode cL_law 690 = .ok (.iconst 1, 1) := by decide +kernel
theorem dL_law_691 : decode cL_law 691 = .ok (.iadd, 1) := by decide +kernel
theorem dL_law_692 : decode cL_law 692 = .ok (.iaload, 1) := by decide +kernel
theorem dL_law_693 : decode cL_law 693 = .ok (.aload_n 0, 1) := by decide +kernel
theorem dL_law_694 : decode cL_law 694 = .ok (.iload_n 3, 1) := by decide +kernel
theorem dL_law_695 : decode cL_law 695 = .ok (.iconst 2, 1) := by decide +kernel
theorem dL_law_696 : decode cL_law 696 = .ok (.iadd, 1) := by decide +kernel
theorem dL_law_697 : decode cL_law 697 = .ok (.iaload, 1) := by decide +kernel
theorem dL_law_698 : decode cL_law 698 = .ok (.invokevirtual 75, 3) := by decide +kernel
theorem dL_law_701 : decode cL_law 701 = .ok (.if_icmp .eq 800, 3) := by decide +kernel
theorem dL_law_704 : decode cL_law 704 = .ok (.iconst 0, 1) := by decide +kernel
theorem dL_law_705 : decode cL_law 705 = .ok (.ireturn, 1) := by decide +kernel
theorem dL_law_706 : decode cL_law 706 = .ok (.aload_n 1, 1) := by decide +kernel
theorem dL_law_707 : decode cL_law 707 = .ok (.aload_n 0, 1) := by decide +kernel
theorem dL_law_708 : decode cL_law 708 = .ok (.iload_n 3, 1) := by decide +kernel
theorem dL_law_709 : decode cL_law 709 = .ok (.iconst 1, 1) := by decide +kernel
theorem dL_law_710 : decode cL_law 710 = .ok (.iadd, 1) := by decide +kernel
theorem dL_law_711 : decode cL_law 711 = .ok (.iaload, 1) := by decide +kernel
theorem dL_law_712 : decode cL_law 712 = .ok (.aload_n 0, 1) := by decide +kernel
theorem dL_law_713 : decode cL_law 713 = .ok (.iload_n 3, 1) := by decide +kernel
theorem dL_law_714 : decode cL_law 714 = .ok (.iconst 2, 1) := by decide +kernel
theorem dL_law_715 : decode cL_law 715 = .ok (.iadd, 1) := by decide +kernel
theorem dL_law_716 : decode cL_law 716 = .ok (.iaload, 1) := by decide +kernel
theorem dL_law_717 : decode cL_law 717 = .ok (.aload_n 0, 1) := by decide +kernel
theorem dL_law_718 : decode cL_law 718 = .ok (.iload_n 3, 1) := by decide +kernel
theorem dL_law_719 : decode cL_law 719 = .ok (.iconst 3, 1) := by decide +kernel
theorem dL_law_720 : decode cL_law 720 = .ok (.iadd, 1) := by decide +kernel
theorem dL_law_721 : decode cL_law 721 = .ok (.iaload, 1) := by decide +kernel
theorem dL_law_722 : decode cL_law 722 = .ok (.invokevirtual 76, 3) := by decide +kernel
theorem dL_law_725 : decode cL_law 725 = .ok (.aload_n 2, 1) := by decide +kernel
theorem dL_law_726 : decode cL_law 726 = .ok (.aload_n 0, 1) := by decide +kernel
theorem dL_law_727 : decode cL_law 727 = .ok (.iload_n 3, 1) := by decide +kernel
theorem dL_law_728 : decode cL_law 728 = .ok (.iconst 1, 1) := by decide +kernel
theorem dL_law_729 : decode cL_law 729 = .ok (.iadd, 1) := by decide +kernel
theorem dL_law_730 : decode cL_law 730 = .ok (.iaload, 1) := by decide +kernel
theorem dL_law_731 : decode cL_law 731 = .ok (.aload_n 0, 1) := by decide +kernel
theorem dL_law_732 : decode cL_law 732 = .ok (.iload_n 3, 1) := by decide +kernel
theorem dL_law_733 : decode cL_law 733 = .ok (.iconst 2, 1) := by decide +kernel
theorem dL_law_734 : decode cL_law 734 = .ok (.iadd, 1) := by decide +kernel
theorem dL_law_735 : decode cL_law 735 = .ok (.iaload, 1) := by decide +kernel
theorem dL_law_736 : decode cL_law 736 = .ok (.aload_n 0, 1) := by decide +kernel
theorem dL_law_737 : decode cL_law 737 = .ok (.iload_n 3, 1) := by decide +kernel
theorem dL_law_738 : decode cL_law 738 = .ok (.iconst 3, 1) := by decide +kernel
theorem dL_law_739 : decode cL_law 739 = .ok (.iadd, 1) := by decide +kernel
theorem dL_law_740 : decode cL_law 740 = .ok (.iaload, 1) := by decide +kernel
theorem dL_law_741 : decode cL_law 741 = .ok (.invokevirtual 79, 3) := by decide +kernel
theorem dL_law_744 : decode cL_law 744 = .ok (.if_icmp .eq 757, 3) := by decide +kernel
theorem dL_law_747 : decode cL_law 747 = .ok (.iconst 0, 1) := by decide +kernel
theorem dL_law_748 : decode cL_law 748 = .ok (.ireturn, 1) := by decide +kernel
theorem dL_law_749 : decode cL_law 749 = .ok (.aload_n 1, 1) := by decide +kernel
theorem dL_law_750 : decode cL_law 750 = .ok (.aload_n 0, 1) := by decide +kernel
theorem dL_law_751 : decode cL_law 751 = .ok (.iload_n 3, 1) := by decide +kernel
theorem dL_law_752 : decode cL_law 752 = .ok (.iconst 1, 1) := by decide +kernel
theorem dL_law_753 : decode cL_law 753 = .ok (.iadd, 1) := by decide +kernel
theorem dL_law_754 : decode cL_law 754 = .ok (.iaload, 1) := by decide +kernel
theorem dL_law_755 : decode cL_law 755 = .ok (.aload_n 0, 1) := by decide +kernel
theorem dL_law_756 : decode cL_law 756 = .ok (.iload_n 3, 1) := by decide +kernel
theorem dL_law_757 : decode cL_law 757 = .ok (.iconst 2, 1) := by decide +kernel
theorem dL_law_758 : decode cL_law 758 = .ok (.iadd, 1) := by decide +kernel
theorem dL_law_759 : decode cL_law 759 = .ok (.iaload, 1) := by decide +kernel
theorem dL_law_760 : decode cL_law 760 = .ok (.aload_n 0, 1) := by decide +kernel
theorem dL_law_761 : decode cL_law 761 = .ok (.iload_n 3, 1) := by decide +kernel
theorem dL_law_762 : decode cL_law 762 = .ok (.iconst 3, 1) := by decide +kernel
theorem dL_law_763 : decode cL_law 763 = .ok (.iadd, 1) := by decide +kernel
theorem dL_law_764 : decode cL_law 764 = .ok (.iaload, 1) := by decide +kernel
theorem dL_law_765 : decode cL_law 765 = .ok (.invokevirtual 80, 3) := by decide +kernel
theorem dL_law_768 : decode cL_law 768 = .ok (.aload_n 2, 1) := by decide +kernel
theorem dL_law_769 : decode cL_law 769 = .ok (.aload_n 0, 1) := by decide +kernel
theorem dL_law_770 : decode cL_law 770 = .ok (.iload_n 3, 1) := by decide +kernel
theorem dL_law_771 : decode cL_law 771 = .ok (.iconst 1, 1) := by decide +kernel
theorem dL_law_772 : decode cL_law 772 = .ok (.iadd, 1) := by decide +kernel
theorem dL_law_773 : decode cL_law 773 = .ok (.iaload, 1) := by decide +kernel
theorem dL_law_774 : decode cL_law 774 = .ok (.aload_n 0, 1) := by decide +kernel
theorem dL_law_775 : decode cL_law 775 = .ok (.iload_n 3, 1) := by decide +kernel
theorem dL_law_776 : decode cL_law 776 = .ok (.iconst 2, 1) := by decide +kernel
theorem dL_law_777 : decode cL_law 777 = .ok (.iadd, 1) := by decide +kernel
theorem dL_law_778 : decode cL_law 778 = .ok (.iaload, 1) := by decide +kernel
theorem dL_law_779 : decode cL_law 779 = .ok (.aload_n 0, 1) := by decide +kernel
theorem dL_law_780 : decode cL_law 780 = .ok (.iload_n 3, 1) := by decide +kernel
theorem dL_law_781 : decode cL_law 781 = .ok (.iconst 3, 1) := by decide +kernel
theorem dL_law_782 : decode cL_law 782 = .ok (.iadd, 1) := by decide +kernel
theorem dL_law_783 : decode cL_law 783 = .ok (.iaload, 1) := by decide +kernel
theorem dL_law_784 : decode cL_law 784 = .ok (.invokevirtual 84, 3) := by decide +kernel
theorem dL_law_787 : decode cL_law 787 = .ok (.if_icmp .eq 714, 3) := by decide +kernel
theorem dL_law_790 : decode cL_law 790 = .ok (.iconst 0, 1) := by decide +kernel
theorem dL_law_791 : decode cL_law 791 = .ok (.ireturn, 1) := by decide +kernel
theorem dL_law_792 : decode cL_law 792 = .ok (.aload_n 1, 1) := by decide +kernel
theorem dL_law_793 : decode cL_law 793 = .ok (.aload_n 0, 1) := by decide +kernel
theorem dL_law_794 : decode cL_law 794 = .ok (.iload_n 3, 1) := by decide +kernel
theorem dL_law_795 : decode cL_law 795 = .ok (.iconst 1, 1) := by decide +kernel
theorem dL_law_796 : decode cL_law 796 = .ok (.iadd, 1) := by decide +kernel
theorem dL_law_797 : decode cL_law 797 = .ok (.iaload, 1) := by decide +kernel
theorem dL_law_798 : decode cL_law 798 = .ok (.invokevirtual 85, 3) := by decide +kernel
theorem dL_law_801 : decode cL_law 801 = .ok (.aload_n 2, 1) := by decide +kernel
theorem dL_law_802 : decode cL_law 802 = .ok (.aload_n 0, 1) := by decide +kernel
theorem dL_law_803 : decode cL_law 803 = .ok (.iload_n 3, 1) := by decide +kernel
theorem dL_law_804 : decode cL_law 804 = .ok (.iconst 1, 1) := by decide +kernel
theorem dL_law_805 : decode cL_law 805 = .ok (.iadd, 1) := by decide +kernel
theorem dL_law_806 : decode cL_law 806 = .ok (.iaload, 1) := by decide +kernel
theorem dL_law_807 : decode cL_law 807 = .ok (.invokevirtual 88, 3) := by decide +kernel
theorem dL_law_810 : decode cL_law 810 = .ok (.if_icmp .eq 691, 3) := by decide +kernel
theorem dL_law_813 : decode cL_law 813 = .ok (.iconst 0, 1) := by decide +kernel
theorem dL_law_814 : decode cL_law 814 = .ok (.ireturn, 1) := by decide +kernel
theorem dL_law_815 : decode cL_law 815 = .ok (.aload_n 1, 1) := by decide +kernel
theorem dL_law_816 : decode cL_law 816 = .ok (.aload_n 0, 1) := by decide +kernel
theorem dL_law_817 : decode cL_law 817 = .ok (.iload_n 3, 1) := by decide +kernel
theorem dL_law_818 : decode cL_law 818 = .ok (.iconst 1, 1) := by decide +kernel
theorem dL_law_819 : decode cL_law 819 = .ok (.iadd, 1) := by decide +kernel
theorem dL_law_820 : decode cL_law 820 = .ok (.iaload, 1) := by decide +kernel
theorem dL_law_821 : decode cL_law 821 = .ok (.invokevirtual 89, 3) := by decide +kernel
theorem dL_law_824 : decode cL_law 824 = .ok (.aload_n 2, 1) := by decide +kernel
theorem dL_law_825 : decode cL_law 825 = .ok (.aload_n 0, 1) := by decide +kernel
theorem dL_law_826 : decode cL_law 826 = .ok (.iload_n 3, 1) := by decide +kernel
theorem dL_law_827 : decode cL_law 827 = .ok (.iconst 1, 1) := by decide +kernel
theorem dL_law_828 : decode cL_law 828 = .ok (.iadd, 1) := by decide +kernel
theorem dL_law_829 : decode cL_law 829 = .ok (.iaload, 1) := by decide +kernel
theorem dL_law_830 : decode cL_law 830 = .ok (.invokevirtual 92, 3) := by decide +kernel
theorem dL_law_833 : decode cL_law 833 = .ok (.if_icmp .eq 668, 3) := by decide +kernel
theorem dL_law_836 : decode cL_law 836 = .ok (.iconst 0, 1) := by decide +kernel
theorem dL_law_837 : decode cL_law 837 = .ok (.ireturn, 1) := by decide +kernel
theorem dL_law_838 : decode cL_law 838 = .ok (.aload_n 1, 1) := by decide +kernel
theorem dL_law_839 : decode cL_law 839 = .ok (.aload_n 0, 1) := by decide +kernel
theorem dL_law_840 : decode cL_law 840 = .ok (.iload_n 3, 1) := by decide +kernel
theorem dL_law_841 : decode cL_law 841 = .ok (.iconst 1, 1) := by decide +kernel
theorem dL_law_842 : decode cL_law 842 = .ok (.iadd, 1) := by decide +kernel
theorem dL_law_843 : decode cL_law 843 = .ok (.iaload, 1) := by decide +kernel
theorem dL_law_844 : decode cL_law 844 = .ok (.aload_n 0, 1) := by decide +kernel
theorem dL_law_845 : decode cL_law 845 = .ok (.iload_n 3, 1) := by decide +kernel
theorem dL_law_846 : decode cL_law 846 = .ok (.iconst 2, 1) := by decide +kernel
theorem dL_law_847 : decode cL_law 847 = .ok (.iadd, 1) := by decide +kernel
theorem dL_law_848 : decode cL_law 848 = .ok (.iaload, 1) := by decide +kernel
theorem dL_law_849 : decode cL_law 849 = .ok (.invokevirtual 93, 3) := by decide +kernel
theorem dL_law_852 : decode cL_law 852 = .ok (.aload_n 2, 1) := by decide +kernel
theorem dL_law_853 : decode cL_law 853 = .ok (.aload_n 0, 1) := by decide +kernel
theorem dL_law_854 : decode cL_law 854 = .ok (.iload_n 3, 1) := by decide +kernel
theorem dL_law_855 : decode cL_law 855 = .ok (.iconst 1, 1) := by decide +kernel
theorem dL_law_856 : decode cL_law 856 = .ok (.iadd, 1) := by decide +kernel
theorem dL_law_857 : decode cL_law 857 = .ok (.iaload, 1) := by decide +kernel
theorem dL_law_858 : decode cL_law 858 = .ok (.aload_n 0, 1) := by decide +kernel
theorem dL_law_859 : decode cL_law 859 = .ok (.iload_n 3, 1) := by decide +kernel
theorem dL_law_860 : decode cL_law 860 = .ok (.iconst 2, 1) := by decide +kernel
theorem dL_law_861 : decode cL_law 861 = .ok (.iadd, 1) := by decide +kernel
theorem dL_law_862 : decode cL_law 862 = .ok (.iaload, 1) := by decide +kernel
theorem dL_law_863 : decode cL_law 863 = .ok (.invokevirtual 96, 3) := by decide +kernel
theorem dL_law_866 : decode cL_law 866 = .ok (.if_icmp .eq 635, 3) := by decide +kernel
theorem dL_law_869 : decode cL_law 869 = .ok (.iconst 0, 1) := by decide +kernel
theorem dL_law_870 : decode cL_law 870 = .ok (.ireturn, 1) := by decide +kernel
theorem dL_law_871 : decode cL_law 871 = .ok (.aload_n 1, 1) := by decide +kernel
theorem dL_law_872 : decode cL_law 872 = .ok (.aload_n 0, 1) := by decide +kernel
theorem dL_law_873 : decode cL_law 873 = .ok (.iload_n 3, 1) := by decide +kernel
theorem dL_law_874 : decode cL_law 874 = .ok (.iconst 1, 1) := by decide +kernel
theorem dL_law_875 : decode cL_law 875 = .ok (.iadd, 1) := by decide +kernel
theorem dL_law_876 : decode cL_law 876 = .ok (.iaload, 1) := by decide +kernel
theorem dL_law_877 : decode cL_law 877 = .ok (.invokevirtual 97, 3) := by decide +kernel
theorem dL_law_880 : decode cL_law 880 = .ok (.aload_n 2, 1) := by decide +kernel
theorem dL_law_881 : decode cL_law 881 = .ok (.aload_n 0, 1) := by decide +kernel
theorem dL_law_882 : decode cL_law 882 = .ok (.iload_n 3, 1) := by decide +kernel
theorem dL_law_883 : decode cL_law 883 = .ok (.iconst 1, 1) := by decide +kernel
theorem dL_law_884 : decode cL_law 884 = .ok (.iadd, 1) := by decide +kernel
theorem dL_law_885 : decode cL_law 885 = .ok (.iaload, 1) := by decide +kernel
theorem dL_law_886 : decode cL_law 886 = .ok (.invokevirtual 100, 3) := by decide +kernel
theorem dL_law_889 : decode cL_law 889 = .ok (.if_icmp .eq 612, 3) := by decide +kernel
theorem dL_law_892 : decode cL_law 892 = .ok (.iconst 0, 1) := by decide +kernel
theorem dL_law_893 : decode cL_law 893 = .ok (.ireturn, 1) := by decide +kernel
theorem dL_law_894 : decode cL_law 894 = .ok (.aload_n 1, 1) := by decide +kernel
theorem dL_law_895 : decode cL_law 895 = .ok (.aload_n 0, 1) := by decide +kernel
theorem dL_law_896 : decode cL_law 896 = .ok (.iload_n 3, 1) := by decide +kernel
theorem dL_law_897 : decode cL_law 897 = .ok (.iconst 1, 1) := by decide +kernel
theorem dL_law_898 : decode cL_law 898 = .ok (.iadd, 1) := by decide +kernel
theorem dL_law_899 : decode cL_law 899 = .ok (.iaload, 1) := by decide +kernel
theorem dL_law_900 : decode cL_law 900 = .ok (.aload_n 0, 1) := by decide +kernel
theorem dL_law_901 : decode cL_law 901 = .ok (.iload_n 3, 1) := by decide +kernel
theorem dL_law_902 : decode cL_law 902 = .ok (.iconst 2, 1) := by decide +kernel
theorem dL_law_903 : decode cL_law 903 = .ok (.iadd, 1) := by decide +kernel
theorem dL_law_904 : decode cL_law 904 = .ok (.iaload, 1) := by decide +kernel
theorem dL_law_905 : decode cL_law 905 = .ok (.aload_n 0, 1) := by decide +kernel
theorem dL_law_906 : decode cL_law 906 = .ok (.iload_n 3, 1) := by decide +kernel
theorem dL_law_907 : decode cL_law 907 = .ok (.iconst 3, 1) := by decide +kernel
theorem dL_law_908 : decode cL_law 908 = .ok (.iadd, 1) := by decide +kernel
theorem dL_law_909 : decode cL_law 909 = .ok (.iaload, 1) := by decide +kernel
theorem dL_law_910 : decode cL_law 910 = .ok (.invokevirtual 101, 3) := by decide +kernel
theorem dL_law_913 : decode cL_law 913 = .ok (.aload_n 2, 1) := by decide +kernel
theorem dL_law_914 : decode cL_law 914 = .ok (.aload_n 0, 1) := by decide +kernel
theorem dL_law_915 : decode cL_law 915 = .ok (.iload_n 3, 1) := by decide +kernel
theorem dL_law_916 : decode cL_law 916 = .ok (.iconst 1, 1) := by decide +kernel
theorem dL_law_917 : decode cL_law 917 = .ok (.iadd, 1) := by decide +kernel
theorem dL_law_918 : decode cL_law 918 = .ok (.iaload, 1) := by decide +kernel
theorem dL_law_919 : decode cL_law 919 = .ok (.aload_n 0, 1) := by decide +kernel
theorem dL_law_920 : decode cL_law 920 = .ok (.iload_n 3, 1) := by decide +kernel
theorem dL_law_921 : decode cL_law 921 = .ok (.iconst 2, 1) := by decide +kernel
theorem dL_law_922 : decode cL_law 922 = .ok (.iadd, 1) := by decide +kernel
theorem dL_law_923 : decode cL_law 923 = .ok (.iaload, 1) := by decide +kernel
theorem dL_law_924 : decode cL_law 924 = .ok (.aload_n 0, 1) := by decide +kernel
theorem dL_law_925 : decode cL_law 925 = .ok (.iload_n 3, 1) := by decide +kernel
theorem dL_law_926 : decode cL_law 926 = .ok (.iconst 3, 1) := by decide +kernel
theorem dL_law_927 : decode cL_law 927 = .ok (.iadd, 1) := by decide +kernel
theorem dL_law_928 : decode cL_law 928 = .ok (.iaload, 1) := by decide +kernel
theorem dL_law_929 : decode cL_law 929 = .ok (.invokevirtual 104, 3) := by decide +kernel
theorem dL_law_932 : decode cL_law 932 = .ok (.if_icmp .eq 569, 3) := by decide +kernel
theorem dL_law_935 : decode cL_law 935 = .ok (.iconst 0, 1) := by decide +kernel
theorem dL_law_936 : decode cL_law 936 = .ok (.ireturn, 1) := by decide +kernel
theorem dL_law_937 : decode cL_law 937 = .ok (.aload_n 1, 1) := by decide +kernel
theorem dL_law_938 : decode cL_law 938 = .ok (.invokevirtual 105, 3) := by decide +kernel
theorem dL_law_941 : decode cL_law 941 = .ok (.aload_n 2, 1) := by decide +kernel
theorem dL_law_942 : decode cL_law 942 = .ok (.invokevirtual 108, 3) := by decide +kernel
theorem dL_law_945 : decode cL_law 945 = .ok (.if_icmp .eq 556, 3) := by decide +kernel
theorem dL_law_948 : decode cL_law 948 = .ok (.iconst 0, 1) := by decide +kernel
theorem dL_law_949 : decode cL_law 949 = .ok (.ireturn, 1) := by decide +kernel
theorem dL_law_950 : decode cL_law 950 = .ok (.aload_n 1, 1) := by decide +kernel
theorem dL_law_951 : decode cL_law 951 = .ok (.aload_n 0, 1) := by decide +kernel
theorem dL_law_952 : decode cL_law 952 = .ok (.iload_n 3, 1) := by decide +kernel
theorem dL_law_953 : decode cL_law 953 = .ok (.iconst 1, 1) := by decide +kernel
theorem dL_law_954 : decode cL_law 954 = .ok (.iadd, 1) := by decide +kernel
theorem dL_law_955 : decode cL_law 955 = .ok (.iaload, 1) := by decide +kernel
theorem dL_law_956 : decode cL_law 956 = .ok (.aload_n 0, 1) := by decide +kernel
theorem dL_law_957 : decode cL_law 957 = .ok (.iload_n 3, 1) := by decide +kernel
theorem dL_law_958 : decode cL_law 958 = .ok (.iconst 2, 1) := by decide +kernel
theorem dL_law_959 : decode cL_law 959 = .ok (.iadd, 1) := by decide +kernel
theorem dL_law_960 : decode cL_law 960 = .ok (.iaload, 1) := by decide +kernel
theorem dL_law_961 : decode cL_law 961 = .ok (.invokevirtual 109, 3) := by decide +kernel
theorem dL_law_964 : decode cL_law 964 = .ok (.aload_n 2, 1) := by decide +kernel
theorem dL_law_965 : decode cL_law 965 = .ok (.aload_n 0, 1) := by decide +kernel
theorem dL_law_966 : decode cL_law 966 = .ok (.iload_n 3, 1) := by decide +kernel
theorem dL_law_967 : decode cL_law 967 = .ok (.iconst 1, 1) := by decide +kernel
theorem dL_law_968 : decode cL_law 968 = .ok (.iadd, 1) := by decide +kernel
theorem dL_law_969 : decode cL_law 969 = .ok (.iaload, 1) := by decide +kernel
theorem dL_law_970 : decode cL_law 970 = .ok (.aload_n 0, 1) := by decide +kernel
theorem dL_law_971 : decode cL_law 971 = .ok (.iload_n 3, 1) := by decide +kernel
theorem dL_law_972 : decode cL_law 972 = .ok (.iconst 2, 1) := by decide +kernel
theorem dL_law_973 : decode cL_law 973 = .ok (.iadd, 1) := by decide +kernel
theorem dL_law_974 : decode cL_law 974 = .ok (.iaload, 1) := by decide +kernel
theorem dL_law_975 : decode cL_law 975 = .ok (.invokevirtual 112, 3) := by decide +kernel
theorem dL_law_978 : decode cL_law 978 = .ok (.if_icmp .eq 523, 3) := by decide +kernel
theorem dL_law_981 : decode cL_law 981 = .ok (.iconst 0, 1) := by decide +kernel
theorem dL_law_982 : decode cL_law 982 = .ok (.ireturn, 1) := by decide +kernel
theorem dL_law_983 : decode cL_law 983 = .ok (.aload_n 1, 1) := by decide +kernel
theorem dL_law_984 : decode cL_law 984 = .ok (.aload_n 0, 1) := by decide +kernel
theorem dL_law_985 : decode cL_law 985 = .ok (.iload_n 3, 1) := by decide +kernel
theorem dL_law_986 : decode cL_law 986 = .ok (.iconst 1, 1) := by decide +kernel
theorem dL_law_987 : decode cL_law 987 = .ok (.iadd, 1) := by decide +kernel
theorem dL_law_988 : decode cL_law 988 = .ok (.iaload, 1) := by decide +kernel
theorem dL_law_989 : decode cL_law 989 = .ok (.aload_n 0, 1) := by decide +kernel
theorem dL_law_990 : decode cL_law 990 = .ok (.iload_n 3, 1) := by decide +kernel
theorem dL_law_991 : decode cL_law 991 = .ok (.iconst 2, 1) := by decide +kernel
theorem dL_law_992 : decode cL_law 992 = .ok (.iadd, 1) := by decide +kernel
theorem dL_law_993 : decode cL_law 993 = .ok (.iaload, 1) := by decide +kernel
theorem dL_law_994 : decode cL_law 994 = .ok (.invokevirtual 113, 3) := by decide +kernel
theorem dL_law_997 : decode cL_law 997 = .ok (.aload_n 2, 1) := by decide +kernel
theorem dL_law_998 : decode cL_law 998 = .ok (.aload_n 0, 1) := by decide +kernel
theorem dL_law_999 : decode cL_law 999 = .ok (.iload_n 3, 1) := by decide +kernel
theorem dL_law_1000 : decode cL_law 1000 = .ok (.iconst 1, 1) := by decide +kernel
theorem dL_law_1001 : decode cL_law 1001 = .ok (.iadd, 1) := by decide +kernel
theorem dL_law_1002 : decode cL_law 1002 = .ok (.iaload, 1) := by decide +kernel
theorem dL_law_1003 : decode cL_law 1003 = .ok (.aload_n 0, 1) := by decide +kernel
theorem dL_law_1004 : decode cL_law 1004 = .ok (.iload_n 3, 1) := by decide +kernel
theorem dL_law_1005 : decode cL_law 1005 = .ok (.iconst 2, 1) := by decide +kernel
theorem dL_law_1006 : decode cL_law 1006 = .ok (.iadd, 1) := by decide +kernel
theorem dL_law_1007 : decode cL_law 1007 = .ok (.iaload, 1) := by decide +kernel
theorem dL_law_1008 : decode cL_law 1008 = .ok (.invokevirtual 116, 3) := by decide +kernel
theorem dL_law_1011 : decode cL_law 1011 = .ok (.if_icmp .eq 490, 3) := by decide +kernel
theorem dL_law_1014 : decode cL_law 1014 = .ok (.iconst 0, 1) := by decide +kernel
theorem dL_law_1015 : decode cL_law 1015 = .ok (.ireturn, 1) := by decide +kernel
theorem dL_law_1016 : decode cL_law 1016 = .ok (.aload_n 1, 1) := by decide +kernel
theorem dL_law_1017 : decode cL_law 1017 = .ok (.aload_n 0, 1) := by decide +kernel
theorem dL_law_1018 : decode cL_law 1018 = .ok (.iload_n 3, 1) := by decide +kernel
theorem dL_law_1019 : decode cL_law 1019 = .ok (.iconst 1, 1) := by decide +kernel
theorem dL_law_1020 : decode cL_law 1020 = .ok (.iadd, 1) := by decide +kernel
theorem dL_law_1021 : decode cL_law 1021 = .ok (.iaload, 1) := by decide +kernel
theorem dL_law_1022 : decode cL_law 1022 = .ok (.aload_n 0, 1) := by decide +kernel
theorem dL_law_1023 : decode cL_law 1023 = .ok (.iload_n 3, 1) := by decide +kernel
theorem dL_law_1024 : decode cL_law 1024 = .ok (.iconst 2, 1) := by decide +kernel
theorem dL_law_1025 : decode cL_law 1025 = .ok (.iadd, 1) := by decide +kernel
theorem dL_law_1026 : decode cL_law 1026 = .ok (.iaload, 1) := by decide +kernel
theorem dL_law_1027 : decode cL_law 1027 = .ok (.aload_n 0, 1) := by decide +kernel
theorem dL_law_1028 : decode cL_law 1028 = .ok (.iload_n 3, 1) := by decide +kernel
theorem dL_law_1029 : decode cL_law 1029 = .ok (.iconst 3, 1) := by decide +kernel
theorem dL_law_1030 : decode cL_law 1030 = .ok (.iadd, 1) := by decide +kernel
theorem dL_law_1031 : decode cL_law 1031 = .ok (.iaload, 1) := by decide +kernel
theorem dL_law_1032 : decode cL_law 1032 = .ok (.invokevirtual 117, 3) := by decide +kernel
theorem dL_law_1035 : decode cL_law 1035 = .ok (.aload_n 2, 1) := by decide +kernel
theorem dL_law_1036 : decode cL_law 1036 = .ok (.aload_n 0, 1) := by decide +kernel
theorem dL_law_1037 : decode cL_law 1037 = .ok (.iload_n 3, 1) := by decide +kernel
theorem dL_law_1038 : decode cL_law 1038 = .ok (.iconst 1, 1) := by decide +kernel
theorem dL_law_1039 : decode cL_law 1039 = .ok (.iadd, 1) := by decide +kernel
theorem dL_law_1040 : decode cL_law 1040 = .ok (.iaload, 1) := by decide +kernel
theorem dL_law_1041 : decode cL_law 1041 = .ok (.aload_n 0, 1) := by decide +kernel
theorem dL_law_1042 : decode cL_law 1042 = .ok (.iload_n 3, 1) := by decide +kernel
theorem dL_law_1043 : decode cL_law 1043 = .ok (.iconst 2, 1) := by decide +kernel
theorem dL_law_1044 : decode cL_law 1044 = .ok (.iadd, 1) := by decide +kernel
theorem dL_law_1045 : decode cL_law 1045 = .ok (.iaload, 1) := by decide +kernel
theorem dL_law_1046 : decode cL_law 1046 = .ok (.aload_n 0, 1) := by decide +kernel
theorem dL_law_1047 : decode cL_law 1047 = .ok (.iload_n 3, 1) := by decide +kernel
theorem dL_law_1048 : decode cL_law 1048 = .ok (.iconst 3, 1) := by decide +kernel
theorem dL_law_1049 : decode cL_law 1049 = .ok (.iadd, 1) := by decide +kernel
theorem dL_law_1050 : decode cL_law 1050 = .ok (.iaload, 1) := by decide +kernel
theorem dL_law_1051 : decode cL_law 1051 = .ok (.invokevirtual 120, 3) := by decide +kernel
theorem dL_law_1054 : decode cL_law 1054 = .ok (.if_icmp .eq 447, 3) := by decide +kernel
theorem dL_law_1057 : decode cL_law 1057 = .ok (.iconst 0, 1) := by decide +kernel
theorem dL_law_1058 : decode cL_law 1058 = .ok (.ireturn, 1) := by decide +kernel
theorem dL_law_1059 : decode cL_law 1059 = .ok (.aload_n 1, 1) := by decide +kernel
theorem dL_law_1060 : decode cL_law 1060 = .ok (.aload_n 0, 1) := by decide +kernel
theorem dL_law_1061 : decode cL_law 1061 = .ok (.iload_n 3, 1) := by decide +kernel
theorem dL_law_1062 : decode cL_law 1062 = .ok (.iconst 1, 1) := by decide +kernel
theorem dL_law_1063 : decode cL_law 1063 = .ok (.iadd, 1) := by decide +kernel
theorem dL_law_1064 : decode cL_law 1064 = .ok (.iaload, 1) := by decide +kernel
theorem dL_law_1065 : decode cL_law 1065 = .ok (.invokevirtual 121, 3) := by decide +kernel
theorem dL_law_1068 : decode cL_law 1068 = .ok (.aload_n 2, 1) := by decide +kernel
theorem dL_law_1069 : decode cL_law 1069 = .ok (.aload_n 0, 1) := by decide +kernel
theorem dL_law_1070 : decode cL_law 1070 = .ok (.iload_n 3, 1) := by decide +kernel
theorem dL_law_1071 : decode cL_law 1071 = .ok (.iconst 1, 1) := by decide +kernel
theorem dL_law_1072 : decode cL_law 1072 = .ok (.iadd, 1) := by decide +kernel
theorem dL_law_1073 : decode cL_law 1073 = .ok (.iaload, 1) := by decide +kernel
theorem dL_law_1074 : decode cL_law 1074 = .ok (.invokevirtual 124, 3) := by decide +kernel
theorem dL_law_1077 : decode cL_law 1077 = .ok (.if_icmp .eq 424, 3) := by decide +kernel
theorem dL_law_1080 : decode cL_law 1080 = .ok (.iconst 0, 1) := by decide +kernel
theorem dL_law_1081 : decode cL_law 1081 = .ok (.ireturn, 1) := by decide +kernel
theorem dL_law_1082 : decode cL_law 1082 = .ok (.aload_n 1, 1) := by decide +kernel
theorem dL_law_1083 : decode cL_law 1083 = .ok (.aload_n 0, 1) := by decide +kernel
theorem dL_law_1084 : decode cL_law 1084 = .ok (.iload_n 3, 1) := by decide +kernel
theorem dL_law_1085 : decode cL_law 1085 = .ok (.iconst 1, 1) := by decide +kernel
theorem dL_law_1086 : decode cL_law 1086 = .ok (.iadd, 1) := by decide +kernel
theorem dL_law_1087 : decode cL_law 1087 = .ok (.iaload, 1) := by decide +kernel
theorem dL_law_1088 : decode cL_law 1088 = .ok (.invokevirtual 125, 3) := by decide +kernel
theorem dL_law_1091 : decode cL_law 1091 = .ok (.aload_n 2, 1) := by decide +kernel
theorem dL_law_1092 : decode cL_law 1092 = .ok (.aload_n 0, 1) := by decide +kernel
theorem dL_law_1093 : decode cL_law 1093 = .ok (.iload_n 3, 1) := by decide +kernel
theorem dL_law_1094 : decode cL_law 1094 = .ok (.iconst 1, 1) := by decide +kernel
theorem dL_law_1095 : decode cL_law 1095 = .ok (.iadd, 1) := by decide +kernel
theorem dL_law_1096 : decode cL_law 1096 = .ok (.iaload, 1) := by decide +kernel
theorem dL_law_1097 : decode cL_law 1097 = .ok (.invokevirtual 128, 3) := by decide +kernel
theorem dL_law_1100 : decode cL_law 1100 = .ok (.if_icmp .eq 401, 3) := by decide +kernel
theorem dL_law_1103 : decode cL_law 1103 = .ok (.iconst 0, 1) := by decide +kernel
theorem dL_law_1104 : decode cL_law 1104 = .ok (.ireturn, 1) := by decide +kernel
theorem dL_law_1105 : decode cL_law 1105 = .ok (.aload_n 1, 1) := by decide +kernel
theorem dL_law_1106 : decode cL_law 1106 = .ok (.aload_n 0, 1) := by decide +kernel
theorem dL_law_1107 : decode cL_law 1107 = .ok (.iload_n 3, 1) := by decide +kernel
theorem dL_law_1108 : decode cL_law 1108 = .ok (.iconst 1, 1) := by decide +kernel
theorem dL_law_1109 : decode cL_law 1109 = .ok (.iadd, 1) := by decide +kernel
theorem dL_law_1110 : decode cL_law 1110 = .ok (.iaload, 1) := by decide +kernel
theorem dL_law_1111 : decode cL_law 1111 = .ok (.invokevirtual 129, 3) := by decide +kernel
theorem dL_law_1114 : decode cL_law 1114 = .ok (.aload_n 2, 1) := by decide +kernel
theorem dL_law_1115 : decode cL_law 1115 = .ok (.aload_n 0, 1) := by decide +kernel
theorem dL_law_1116 : decode cL_law 1116 = .ok (.iload_n 3, 1) := by decide +kernel
theorem dL_law_1117 : decode cL_law 1117 = .ok (.iconst 1, 1) := by decide +kernel
theorem dL_law_1118 : decode cL_law 1118 = .ok (.iadd, 1) := by decide +kernel
theorem dL_law_1119 : decode cL_law 1119 = .ok (.iaload, 1) := by decide +kernel
theorem dL_law_1120 : decode cL_law 1120 = .ok (.invokevirtual 132, 3) := by decide +kernel
theorem dL_law_1123 : decode cL_law 1123 = .ok (.if_icmp .eq 378, 3) := by decide +kernel
theorem dL_law_1126 : decode cL_law 1126 = .ok (.iconst 0, 1) := by decide +kernel
theorem dL_law_1127 : decode cL_law 1127 = .ok (.ireturn, 1) := by decide +kernel
theorem dL_law_1128 : decode cL_law 1128 = .ok (.aload_n 1, 1) := by decide +kernel
theorem dL_law_1129 : decode cL_law 1129 = .ok (.aload_n 0, 1) := by decide +kernel
theorem dL_law_1130 : decode cL_law 1130 = .ok (.iload_n 3, 1) := by decide +kernel
theorem dL_law_1131 : decode cL_law 1131 = .ok (.iconst 1, 1) := by decide +kernel
theorem dL_law_1132 : decode cL_law 1132 = .ok (.iadd, 1) := by decide +kernel
theorem dL_law_1133 : decode cL_law 1133 = .ok (.iaload, 1) := by decide +kernel
theorem dL_law_1134 : decode cL_law 1134 = .ok (.aload_n 0, 1) := by decide +kernel
theorem dL_law_1135 : decode cL_law 1135 = .ok (.iload_n 3, 1) := by decide +kernel
theorem dL_law_1136 : decode cL_law 1136 = .ok (.iconst 2, 1) := by decide +kernel
theorem dL_law_1137 : decode cL_law 1137 = .ok (.iadd, 1) := by decide +kernel
theorem dL_law_1138 : decode cL_law 1138 = .ok (.iaload, 1) := by decide +kernel
theorem dL_law_1139 : decode cL_law 1139 = .ok (.invokevirtual 133, 3) := by decide +kernel
theorem dL_law_1142 : decode cL_law 1142 = .ok (.aload_n 2, 1) := by decide +kernel
theorem dL_law_1143 : decode cL_law 1143 = .ok (.aload_n 0, 1) := by decide +kernel
theorem dL_law_1144 : decode cL_law 1144 = .ok (.iload_n 3, 1) := by decide +kernel
theorem dL_law_1145 : decode cL_law 1145 = .ok (.iconst 1, 1) := by decide +kernel
theorem dL_law_1146 : decode cL_law 1146 = .ok (.iadd, 1) := by decide +kernel
theorem dL_law_1147 : decode cL_law 1147 = .ok (.iaload, 1) := by decide +kernel
theorem dL_law_1148 : decode cL_law 1148 = .ok (.aload_n 0, 1) := by decide +kernel
theorem dL_law_1149 : decode cL_law 1149 = .ok (.iload_n 3, 1) := by decide +kernel
theorem dL_law_1150 : decode cL_law 1150 = .ok (.iconst 2, 1) := by decide +kernel
theorem dL_law_1151 : decode cL_law 1151 = .ok (.iadd, 1) := by decide +kernel
theorem dL_law_1152 : decode cL_law 1152 = .ok (.iaload, 1) := by decide +kernel
theorem dL_law_1153 : decode cL_law 1153 = .ok (.invokevirtual 136, 3) := by decide +kernel
theorem dL_law_1156 : decode cL_law 1156 = .ok (.if_icmp .eq 345, 3) := by decide +kernel
theorem dL_law_1159 : decode cL_law 1159 = .ok (.iconst 0, 1) := by decide +kernel
theorem dL_law_1160 : decode cL_law 1160 = .ok (.ireturn, 1) := by decide +kernel
theorem dL_law_1161 : decode cL_law 1161 = .ok (.aload_n 1, 1) := by decide +kernel
theorem dL_law_1162 : decode cL_law 1162 = .ok (.aload_n 0, 1) := by decide +kernel
theorem dL_law_1163 : decode cL_law 1163 = .ok (.iload_n 3, 1) := by decide +kernel
theorem dL_law_1164 : decode cL_law 1164 = .ok (.iconst 1, 1) := by decide +kernel
theorem dL_law_1165 : decode cL_law 1165 = .ok (.iadd, 1) := by decide +kernel
theorem dL_law_1166 : decode cL_law 1166 = .ok (.iaload, 1) := by decide +kernel
theorem dL_law_1167 : decode cL_law 1167 = .ok (.aload_n 0, 1) := by decide +kernel
theorem dL_law_1168 : decode cL_law 1168 = .ok (.iload_n 3, 1) := by decide +kernel
theorem dL_law_1169 : decode cL_law 1169 = .ok (.iconst 2, 1) := by decide +kernel
theorem dL_law_1170 : decode cL_law 1170 = .ok (.iadd, 1) := by decide +kernel
theorem dL_law_1171 : decode cL_law 1171 = .ok (.iaload, 1) := by decide +kernel
theorem dL_law_1172 : decode cL_law 1172 = .ok (.invokevirtual 137, 3) := by decide +kernel
theorem dL_law_1175 : decode cL_law 1175 = .ok (.aload_n 2, 1) := by decide +kernel
theorem dL_law_1176 : decode cL_law 1176 = .ok (.aload_n 0, 1) := by decide +kernel
theorem dL_law_1177 : decode cL_law 1177 = .ok (.iload_n 3, 1) := by decide +kernel
theorem dL_law_1178 : decode cL_law 1178 = .ok (.iconst 1, 1) := by decide +kernel
theorem dL_law_1179 : decode cL_law 1179 = .ok (.iadd, 1) := by decide +kernel
theorem dL_law_1180 : decode cL_law 1180 = .ok (.iaload, 1) := by decide +kernel
theorem dL_law_1181 : decode cL_law 1181 = .ok (.aload_n 0, 1) := by decide +kernel
theorem dL_law_1182 : decode cL_law 1182 = .ok (.iload_n 3, 1) := by decide +kernel
theorem dL_law_1183 : decode cL_law 1183 = .ok (.iconst 2, 1) := by decide +kernel
theorem dL_law_1184 : decode cL_law 1184 = .ok (.iadd, 1) := by decide +kernel
theorem dL_law_1185 : decode cL_law 1185 = .ok (.iaload, 1) := by decide +kernel
theorem dL_law_1186 : decode cL_law 1186 = .ok (.invokevirtual 141, 3) := by decide +kernel
theorem dL_law_1189 : decode cL_law 1189 = .ok (.if_icmp .eq 312, 3) := by decide +kernel
theorem dL_law_1192 : decode cL_law 1192 = .ok (.iconst 0, 1) := by decide +kernel
theorem dL_law_1193 : decode cL_law 1193 = .ok (.ireturn, 1) := by decide +kernel
theorem dL_law_1194 : decode cL_law 1194 = .ok (.aload_n 1, 1) := by decide +kernel
theorem dL_law_1195 : decode cL_law 1195 = .ok (.aload_n 0, 1) := by decide +kernel
theorem dL_law_1196 : decode cL_law 1196 = .ok (.iload_n 3, 1) := by decide +kernel
theorem dL_law_1197 : decode cL_law 1197 = .ok (.iconst 1, 1) := by decide +kernel
theorem dL_law_1198 : decode cL_law 1198 = .ok (.iadd, 1) := by decide +kernel
theorem dL_law_1199 : decode cL_law 1199 = .ok (.iaload, 1) := by decide +kernel
theorem dL_law_1200 : decode cL_law 1200 = .ok (.aload_n 0, 1) := by decide +kernel
theorem dL_law_1201 : decode cL_law 1201 = .ok (.iload_n 3, 1) := by decide +kernel
theorem dL_law_1202 : decode cL_law 1202 = .ok (.iconst 2, 1) := by decide +kernel
theorem dL_law_1203 : decode cL_law 1203 = .ok (.iadd, 1) := by decide +kernel
theorem dL_law_1204 : decode cL_law 1204 = .ok (.iaload, 1) := by decide +kernel
theorem dL_law_1205 : decode cL_law 1205 = .ok (.invokevirtual 142, 3) := by decide +kernel
theorem dL_law_1208 : decode cL_law 1208 = .ok (.aload_n 2, 1) := by decide +kernel
theorem dL_law_1209 : decode cL_law 1209 = .ok (.aload_n 0, 1) := by decide +kernel
theorem dL_law_1210 : decode cL_law 1210 = .ok (.iload_n 3, 1) := by decide +kernel
theorem dL_law_1211 : decode cL_law 1211 = .ok (.iconst 1, 1) := by decide +kernel
theorem dL_law_1212 : decode cL_law 1212 = .ok (.iadd, 1) := by decide +kernel
theorem dL_law_1213 : decode cL_law 1213 = .ok (.iaload, 1) := by decide +kernel
theorem dL_law_1214 : decode cL_law 1214 = .ok (.aload_n 0, 1) := by decide +kernel
theorem dL_law_1215 : decode cL_law 1215 = .ok (.iload_n 3, 1) := by decide +kernel
theorem dL_law_1216 : decode cL_law 1216 = .ok (.iconst 2, 1) := by decide +kernel
theorem dL_law_1217 : decode cL_law 1217 = .ok (.iadd, 1) := by decide +kernel
theorem dL_law_1218 : decode cL_law 1218 = .ok (.iaload, 1) := by decide +kernel
theorem dL_law_1219 : decode cL_law 1219 = .ok (.invokevirtual 145, 3) := by decide +kernel
theorem dL_law_1222 : decode cL_law 1222 = .ok (.if_icmp .eq 279, 3) := by decide +kernel
theorem dL_law_1225 : decode cL_law 1225 = .ok (.iconst 0, 1) := by decide +kernel
theorem dL_law_1226 : decode cL_law 1226 = .ok (.ireturn, 1) := by decide +kernel
theorem dL_law_1227 : decode cL_law 1227 = .ok (.aload_n 1, 1) := by decide +kernel
theorem dL_law_1228 : decode cL_law 1228 = .ok (.aload_n 0, 1) := by decide +kernel
theorem dL_law_1229 : decode cL_law 1229 = .ok (.iload_n 3, 1) := by decide +kernel
theorem dL_law_1230 : decode cL_law 1230 = .ok (.iconst 1, 1) := by decide +kernel
theorem dL_law_1231 : decode cL_law 1231 = .ok (.iadd, 1) := by decide +kernel
theorem dL_law_1232 : decode cL_law 1232 = .ok (.iaload, 1) := by decide +kernel
theorem dL_law_1233 : decode cL_law 1233 = .ok (.aload_n 0, 1) := by decide +kernel
theorem dL_law_1234 : decode cL_law 1234 = .ok (.iload_n 3, 1) := by decide +kernel
theorem dL_law_1235 : decode cL_law 1235 = .ok (.iconst 2, 1) := by decide +kernel
theorem dL_law_1236 : decode cL_law 1236 = .ok (.iadd, 1) := by decide +kernel
theorem dL_law_1237 : decode cL_law 1237 = .ok (.iaload, 1) := by decide +kernel
theorem dL_law_1238 : decode cL_law 1238 = .ok (.aload_n 0, 1) := by decide +kernel
theorem dL_law_1239 : decode cL_law 1239 = .ok (.iload_n 3, 1) := by decide +kernel
theorem dL_law_1240 : decode cL_law 1240 = .ok (.iconst 3, 1) := by decide +kernel
theorem dL_law_1241 : decode cL_law 1241 = .ok (.iadd, 1) := by decide +kernel
theorem dL_law_1242 : decode cL_law 1242 = .ok (.iaload, 1) := by decide +kernel
theorem dL_law_1243 : decode cL_law 1243 = .ok (.aload_n 0, 1) := by decide +kernel
theorem dL_law_1244 : decode cL_law 1244 = .ok (.iload_n 3, 1) := by decide +kernel
theorem dL_law_1245 : decode cL_law 1245 = .ok (.iconst 4, 1) := by decide +kernel
theorem dL_law_1246 : decode cL_law 1246 = .ok (.iadd, 1) := by decide +kernel
theorem dL_law_1247 : decode cL_law 1247 = .ok (.iaload, 1) := by decide +kernel
theorem dL_law_1248 : decode cL_law 1248 = .ok (.invokevirtual 146, 3) := by decide +kernel
theorem dL_law_1251 : decode cL_law 1251 = .ok (.aload_n 2, 1) := by decide +kernel
theorem dL_law_1252 : decode cL_law 1252 = .ok (.aload_n 0, 1) := by decide +kernel
theorem dL_law_1253 : decode cL_law 1253 = .ok (.iload_n 3, 1) := by decide +kernel
theorem dL_law_1254 : decode cL_law 1254 = .ok (.iconst 1, 1) := by decide +kernel
theorem dL_law_1255 : decode cL_law 1255 = .ok (.iadd, 1) := by decide +kernel
theorem dL_law_1256 : decode cL_law 1256 = .ok (.iaload, 1) := by decide +kernel
theorem dL_law_1257 : decode cL_law 1257 = .ok (.aload_n 0, 1) := by decide +kernel
theorem dL_law_1258 : decode cL_law 1258 = .ok (.iload_n 3, 1) := by decide +kernel
theorem dL_law_1259 : decode cL_law 1259 = .ok (.iconst 2, 1) := by decide +kernel
theorem dL_law_1260 : decode cL_law 1260 = .ok (.iadd, 1) := by decide +kernel
theorem dL_law_1261 : decode cL_law 1261 = .ok (.iaload, 1) := by decide +kernel
theorem dL_law_1262 : decode cL_law 1262 = .ok (.aload_n 0, 1) := by decide +kernel
theorem dL_law_1263 : decode cL_law 1263 = .ok (.iload_n 3, 1) := by decide +kernel
theorem dL_law_1264 : decode cL_law 1264 = .ok (.iconst 3, 1) := by decide +kernel
theorem dL_law_1265 : decode cL_law 1265 = .ok (.iadd, 1) := by decide +kernel
theorem dL_law_1266 : decode cL_law 1266 = .ok (.iaload, 1) := by decide +kernel
theorem dL_law_1267 : decode cL_law 1267 = .ok (.aload_n 0, 1) := by decide +kernel
theorem dL_law_1268 : decode cL_law 1268 = .ok (.iload_n 3, 1) := by decide +kernel
theorem dL_law_1269 : decode cL_law 1269 = .ok (.iconst 4, 1) := by decide +kernel
theorem dL_law_1270 : decode cL_law 1270 = .ok (.iadd, 1) := by decide +kernel
theorem dL_law_1271 : decode cL_law 1271 = .ok (.iaload, 1) := by decide +kernel
theorem dL_law_1272 : decode cL_law 1272 = .ok (.invokevirtual 149, 3) := by decide +kernel
theorem dL_law_1275 : decode cL_law 1275 = .ok (.if_icmp .eq 226, 3) := by decide +kernel
theorem dL_law_1278 : decode cL_law 1278 = .ok (.iconst 0, 1) := by decide +kernel
theorem dL_law_1279 : decode cL_law 1279 = .ok (.ireturn, 1) := by decide +kernel
theorem dL_law_1280 : decode cL_law 1280 = .ok (.aload_n 1, 1) := by decide +kernel
theorem dL_law_1281 : decode cL_law 1281 = .ok (.aload_n 0, 1) := by decide +kernel
theorem dL_law_1282 : decode cL_law 1282 = .ok (.iload_n 3, 1) := by decide +kernel
theorem dL_law_1283 : decode cL_law 1283 = .ok (.iconst 1, 1) := by decide +kernel
theorem dL_law_1284 : decode cL_law 1284 = .ok (.iadd, 1) := by decide +kernel
theorem dL_law_1285 : decode cL_law 1285 = .ok (.iaload, 1) := by decide +kernel
theorem dL_law_1286 : decode cL_law 1286 = .ok (.invokevirtual 150, 3) := by decide +kernel
theorem dL_law_1289 : decode cL_law 1289 = .ok (.aload_n 2, 1) := by decide +kernel
theorem dL_law_1290 : decode cL_law 1290 = .ok (.aload_n 0, 1) := by decide +kernel
theorem dL_law_1291 : decode cL_law 1291 = .ok (.iload_n 3, 1) := by decide +kernel
theorem dL_law_1292 : decode cL_law 1292 = .ok (.iconst 1, 1) := by decide +kernel
theorem dL_law_1293 : decode cL_law 1293 = .ok (.iadd, 1) := by decide +kernel
theorem dL_law_1294 : decode cL_law 1294 = .ok (.iaload, 1) := by decide +kernel
theorem dL_law_1295 : decode cL_law 1295 = .ok (.invokevirtual 153, 3) := by decide +kernel
theorem dL_law_1298 : decode cL_law 1298 = .ok (.if_icmp .eq 203, 3) := by decide +kernel
theorem dL_law_1301 : decode cL_law 1301 = .ok (.iconst 0, 1) := by decide +kernel
theorem dL_law_1302 : decode cL_law 1302 = .ok (.ireturn, 1) := by decide +kernel
theorem dL_law_1303 : decode cL_law 1303 = .ok (.aload_n 1, 1) := by decide +kernel
theorem dL_law_1304 : decode cL_law 1304 = .ok (.aload_n 0, 1) := by decide +kernel
theorem dL_law_1305 : decode cL_law 1305 = .ok (.iload_n 3, 1) := by decide +kernel
theorem dL_law_1306 : decode cL_law 1306 = .ok (.iconst 1, 1) := by decide +kernel
theorem dL_law_1307 : decode cL_law 1307 = .ok (.iadd, 1) := by decide +kernel
theorem dL_law_1308 : decode cL_law 1308 = .ok (.iaload, 1) := by decide +kernel
theorem dL_law_1309 : decode cL_law 1309 = .ok (.aload_n 0, 1) := by decide +kernel
theorem dL_law_1310 : decode cL_law 1310 = .ok (.iload_n 3, 1) := by decide +kernel
theorem dL_law_1311 : decode cL_law 1311 = .ok (.iconst 2, 1) := by decide +kernel
theorem dL_law_1312 : decode cL_law 1312 = .ok (.iadd, 1) := by decide +kernel
theorem dL_law_1313 : decode cL_law 1313 = .ok (.iaload, 1) := by decide +kernel
theorem dL_law_1314 : decode cL_law 1314 = .ok (.aload_n 0, 1) := by decide +kernel
theorem dL_law_1315 : decode cL_law 1315 = .ok (.iload_n 3, 1) := by decide +kernel
theorem dL_law_1316 : decode cL_law 1316 = .ok (.iconst 3, 1) := by decide +kernel
theorem dL_law_1317 : decode cL_law 1317 = .ok (.iadd, 1) := by decide +kernel
theorem dL_law_1318 : decode cL_law 1318 = .ok (.iaload, 1) := by decide +kernel
theorem dL_law_1319 : decode cL_law 1319 = .ok (.invokevirtual 154, 3) := by decide +kernel
theorem dL_law_1322 : decode cL_law 1322 = .ok (.aload_n 2, 1) := by decide +kernel
theorem dL_law_1323 : decode cL_law 1323 = .ok (.aload_n 0, 1) := by decide +kernel
theorem dL_law_1324 : decode cL_law 1324 = .ok (.iload_n 3, 1) := by decide +kernel
theorem dL_law_1325 : decode cL_law 1325 = .ok (.iconst 1, 1) := by decide +kernel
theorem dL_law_1326 : decode cL_law 1326 = .ok (.iadd, 1) := by decide +kernel
theorem dL_law_1327 : decode cL_law 1327 = .ok (.iaload, 1) := by decide +kernel
theorem dL_law_1328 : decode cL_law 1328 = .ok (.aload_n 0, 1) := by decide +kernel
theorem dL_law_1329 : decode cL_law 1329 = .ok (.iload_n 3, 1) := by decide +kernel
theorem dL_law_1330 : decode cL_law 1330 = .ok (.iconst 2, 1) := by decide +kernel
theorem dL_law_1331 : decode cL_law 1331 = .ok (.iadd, 1) := by decide +kernel
theorem dL_law_1332 : decode cL_law 1332 = .ok (.iaload, 1) := by decide +kernel
theorem dL_law_1333 : decode cL_law 1333 = .ok (.aload_n 0, 1) := by decide +kernel
theorem dL_law_1334 : decode cL_law 1334 = .ok (.iload_n 3, 1) := by decide +kernel
theorem dL_law_1335 : decode cL_law 1335 = .ok (.iconst 3, 1) := by decide +kernel
theorem dL_law_1336 : decode cL_law 1336 = .ok (.iadd, 1) := by decide +kernel
theorem dL_law_1337 : decode cL_law 1337 = .ok (.iaload, 1) := by decide +kernel
theorem dL_law_1338 : decode cL_law 1338 = .ok (.invokevirtual 157, 3) := by decide +kernel
theorem dL_law_1341 : decode cL_law 1341 = .ok (.if_icmp .eq 160, 3) := by decide +kernel
theorem dL_law_1344 : decode cL_law 1344 = .ok (.iconst 0, 1) := by decide +kernel
theorem dL_law_1345 : decode cL_law 1345 = .ok (.ireturn, 1) := by decide +kernel
theorem dL_law_1346 : decode cL_law 1346 = .ok (.aload_n 1, 1) := by decide +kernel
theorem dL_law_1347 : decode cL_law 1347 = .ok (.aload_n 0, 1) := by decide +kernel
theorem dL_law_1348 : decode cL_law 1348 = .ok (.iload_n 3, 1) := by decide +kernel
theorem dL_law_1349 : decode cL_law 1349 = .ok (.iconst 1, 1) := by decide +kernel
theorem dL_law_1350 : decode cL_law 1350 = .ok (.iadd, 1) := by decide +kernel
theorem dL_law_1351 : decode cL_law 1351 = .ok (.iaload, 1) := by decide +kernel
theorem dL_law_1352 : decode cL_law 1352 = .ok (.aload_n 0, 1) := by decide +kernel
theorem dL_law_1353 : decode cL_law 1353 = .ok (.iload_n 3, 1) := by decide +kernel
theorem dL_law_1354 : decode cL_law 1354 = .ok (.iconst 2, 1) := by decide +kernel
theorem dL_law_1355 : decode cL_law 1355 = .ok (.iadd, 1) := by decide +kernel
theorem dL_law_1356 : decode cL_law 1356 = .ok (.iaload, 1) := by decide +kernel
theorem dL_law_1357 : decode cL_law 1357 = .ok (.aload_n 0, 1) := by decide +kernel
theorem dL_law_1358 : decode cL_law 1358 = .ok (.iload_n 3, 1) := by decide +kernel
theorem dL_law_1359 : decode cL_law 1359 = .ok (.iconst 3, 1) := by decide +kernel
theorem dL_law_1360 : decode cL_law 1360 = .ok (.iadd, 1) := by decide +kernel
theorem dL_law_1361 : decode cL_law 1361 = .ok (.iaload, 1) := by decide +kernel
theorem dL_law_1362 : decode cL_law 1362 = .ok (.invokevirtual 158, 3) := by decide +kernel
theorem dL_law_1365 : decode cL_law 1365 = .ok (.aload_n 2, 1) := by decide +kernel
theorem dL_law_1366 : decode cL_law 1366 = .ok (.aload_n 0, 1) := by decide +kernel
theorem dL_law_1367 : decode cL_law 1367 = .ok (.iload_n 3, 1) := by decide +kernel
theorem dL_law_1368 : decode cL_law 1368 = .ok (.iconst 1, 1) := by decide +kernel
theorem dL_law_1369 : decode cL_law 1369 = .ok (.iadd, 1) := by decide +kernel
theorem dL_law_1370 : decode cL_law 1370 = .ok (.iaload, 1) := by decide +kernel
theorem dL_law_1371 : decode cL_law 1371 = .ok (.aload_n 0, 1) := by decide +kernel
theorem dL_law_1372 : decode cL_law 1372 = .ok (.iload_n 3, 1) := by decide +kernel
theorem dL_law_1373 : decode cL_law 1373 = .ok (.iconst 2, 1) := by decide +kernel
theorem dL_law_1374 : decode cL_law 1374 = .ok (.iadd, 1) := by decide +kernel
theorem dL_law_1375 : decode cL_law 1375 = .ok (.iaload, 1) := by decide +kernel
theorem dL_law_1376 : decode cL_law 1376 = .ok (.aload_n 0, 1) := by decide +kernel
theorem dL_law_1377 : decode cL_law 1377 = .ok (.iload_n 3, 1) := by decide +kernel
theorem dL_law_1378 : decode cL_law 1378 = .ok (.iconst 3, 1) := by decide +kernel
theorem dL_law_1379 : decode cL_law 1379 = .ok (.iadd, 1) := by decide +kernel
theorem dL_law_1380 : decode cL_law 1380 = .ok (.iaload, 1) := by decide +kernel
theorem dL_law_1381 : decode cL_law 1381 = .ok (.invokevirtual 161, 3) := by decide +kernel
theorem dL_law_1384 : decode cL_law 1384 = .ok (.if_icmp .eq 117, 3) := by decide +kernel
theorem dL_law_1387 : decode cL_law 1387 = .ok (.iconst 0, 1) := by decide +kernel
theorem dL_law_1388 : decode cL_law 1388 = .ok (.ireturn, 1) := by decide +kernel
theorem dL_law_1389 : decode cL_law 1389 = .ok (.aload_n 1, 1) := by decide +kernel
theorem dL_law_1390 : decode cL_law 1390 = .ok (.aload_n 0, 1) := by decide +kernel
theorem dL_law_1391 : decode cL_law 1391 = .ok (.iload_n 3, 1) := by decide +kernel
theorem dL_law_1392 : decode cL_law 1392 = .ok (.iconst 1, 1) := by decide +kernel
theorem dL_law_1393 : decode cL_law 1393 = .ok (.iadd, 1) := by decide +kernel
theorem dL_law_1394 : decode cL_law 1394 = .ok (.iaload, 1) := by decide +kernel
theorem dL_law_1395 : decode cL_law 1395 = .ok (.invokevirtual 162, 3) := by decide +kernel
theorem dL_law_1398 : decode cL_law 1398 = .ok (.aload_n 2, 1) := by decide +kernel
theorem dL_law_1399 : decode cL_law 1399 = .ok (.aload_n 0, 1) := by decide +kernel
theorem dL_law_1400 : decode cL_law 1400 = .ok (.iload_n 3, 1) := by decide +kernel
theorem dL_law_1401 : decode cL_law 1401 = .ok (.iconst 1, 1) := by decide +kernel
theorem dL_law_1402 : decode cL_law 1402 = .ok (.iadd, 1) := by decide +kernel
theorem dL_law_1403 : decode cL_law 1403 = .ok (.iaload, 1) := by decide +kernel
theorem dL_law_1404 : decode cL_law 1404 = .ok (.invokevirtual 165, 3) := by decide +kernel
theorem dL_law_1407 : decode cL_law 1407 = .ok (.if_icmp .eq 94, 3) := by decide +kernel
theorem dL_law_1410 : decode cL_law 1410 = .ok (.iconst 0, 1) := by decide +kernel
theorem dL_law_1411 : decode cL_law 1411 = .ok (.ireturn, 1) := by decide +kernel
theorem dL_law_1412 : decode cL_law 1412 = .ok (.aload_n 1, 1) := by decide +kernel
theorem dL_law_1413 : decode cL_law 1413 = .ok (.aload_n 0, 1) := by decide +kernel
theorem dL_law_1414 : decode cL_law 1414 = .ok (.iload_n 3, 1) := by decide +kernel
theorem dL_law_1415 : decode cL_law 1415 = .ok (.iconst 1, 1) := by decide +kernel
theorem dL_law_1416 : decode cL_law 1416 = .ok (.iadd, 1) := by decide +kernel
theorem dL_law_1417 : decode cL_law 1417 = .ok (.iaload, 1) := by decide +kernel
theorem dL_law_1418 : decode cL_law 1418 = .ok (.invokevirtual 166, 3) := by decide +kernel
theorem dL_law_1421 : decode cL_law 1421 = .ok (.aload_n 2, 1) := by decide +kernel
theorem dL_law_1422 : decode cL_law 1422 = .ok (.aload_n 0, 1) := by decide +kernel
theorem dL_law_1423 : decode cL_law 1423 = .ok (.iload_n 3, 1) := by decide +kernel
theorem dL_law_1424 : decode cL_law 1424 = .ok (.iconst 1, 1) := by decide +kernel
theorem dL_law_1425 : decode cL_law 1425 = .ok (.iadd, 1) := by decide +kernel
theorem dL_law_1426 : decode cL_law 1426 = .ok (.iaload, 1) := by decide +kernel
theorem dL_law_1427 : decode cL_law 1427 = .ok (.invokevirtual 169, 3) := by decide +kernel
theorem dL_law_1430 : decode cL_law 1430 = .ok (.if_icmp .eq 71, 3) := by decide +kernel
theorem dL_law_1433 : decode cL_law 1433 = .ok (.iconst 0, 1) := by decide +kernel
theorem dL_law_1434 : decode cL_law 1434 = .ok (.ireturn, 1) := by decide +kernel
theorem dL_law_1435 : decode cL_law 1435 = .ok (.aload_n 1, 1) := by decide +kernel
theorem dL_law_1436 : decode cL_law 1436 = .ok (.aload_n 0, 1) := by decide +kernel
theorem dL_law_1437 : decode cL_law 1437 = .ok (.iload_n 3, 1) := by decide +kernel
theorem dL_law_1438 : decode cL_law 1438 = .ok (.iconst 1, 1) := by decide +kernel
theorem dL_law_1439 : decode cL_law 1439 = .ok (.iadd, 1) := by decide +kernel
theorem dL_law_1440 : decode cL_law 1440 = .ok (.iaload, 1) := by decide +kernel
theorem dL_law_1441 : decode cL_law 1441 = .ok (.aload_n 0, 1) := by decide +kernel
theorem dL_law_1442 : decode cL_law 1442 = .ok (.iload_n 3, 1) := by decide +kernel
theorem dL_law_1443 : decode cL_law 1443 = .ok (.iconst 2, 1) := by decide +kernel
theorem dL_law_1444 : decode cL_law 1444 = .ok (.iadd, 1) := by decide +kernel
theorem dL_law_1445 : decode cL_law 1445 = .ok (.iaload, 1) := by decide +kernel
theorem dL_law_1446 : decode cL_law 1446 = .ok (.aload_n 0, 1) := by decide +kernel
theorem dL_law_1447 : decode cL_law 1447 = .ok (.iload_n 3, 1) := by decide +kernel
theorem dL_law_1448 : decode cL_law 1448 = .ok (.iconst 3, 1) := by decide +kernel
theorem dL_law_1449 : decode cL_law 1449 = .ok (.iadd, 1) := by decide +kernel
theorem dL_law_1450 : decode cL_law 1450 = .ok (.iaload, 1) := by decide +kernel
theorem dL_law_1451 : decode cL_law 1451 = .ok (.invokevirtual 170, 3) := by decide +kernel
theorem dL_law_1454 : decode cL_law 1454 = .ok (.aload_n 2, 1) := by decide +kernel
theorem dL_law_1455 : decode cL_law 1455 = .ok (.aload_n 0, 1) := by decide +kernel
theorem dL_law_1456 : decode cL_law 1456 = .ok (.iload_n 3, 1) := by decide +kernel
theorem dL_law_1457 : decode cL_law 1457 = .ok (.iconst 1, 1) := by decide +kernel
theorem dL_law_1458 : decode cL_law 1458 = .ok (.iadd, 1) := by decide +kernel
theorem dL_law_1459 : decode cL_law 1459 = .ok (.iaload, 1) := by decide +kernel
theorem dL_law_1460 : decode cL_law 1460 = .ok (.aload_n 0, 1) := by decide +kernel
theorem dL_law_1461 : decode cL_law 1461 = .ok (.iload_n 3, 1) := by decide +kernel
theorem dL_law_1462 : decode cL_law 1462 = .ok (.iconst 2, 1) := by decide +kernel
theorem dL_law_1463 : decode cL_law 1463 = .ok (.iadd, 1) := by decide +kernel
theorem dL_law_1464 : decode cL_law 1464 = .ok (.iaload, 1) := by decide +kernel
theorem dL_law_1465 : decode cL_law 1465 = .ok (.aload_n 0, 1) := by decide +kernel
theorem dL_law_1466 : decode cL_law 1466 = .ok (.iload_n 3, 1) := by decide +kernel
theorem dL_law_1467 : decode cL_law 1467 = .ok (.iconst 3, 1) := by decide +kernel
theorem dL_law_1468 : decode cL_law 1468 = .ok (.iadd, 1) := by decide +kernel
theorem dL_law_1469 : decode cL_law 1469 = .ok (.iaload, 1) := by decide +kernel
theorem dL_law_1470 : decode cL_law 1470 = .ok (.invokevirtual 173, 3) := by decide +kernel
theorem dL_law_1473 : decode cL_law 1473 = .ok (.if_icmp .eq 28, 3) := by decide +kernel
theorem dL_law_1476 : decode cL_law 1476 = .ok (.iconst 0, 1) := by decide +kernel
theorem dL_law_1477 : decode cL_law 1477 = .ok (.ireturn, 1) := by decide +kernel
theorem dL_law_1478 : decode cL_law 1478 = .ok (.aload_n 1, 1) := by decide +kernel
theorem dL_law_1479 : decode cL_law 1479 = .ok (.aload_n 0, 1) := by decide +kernel
theorem dL_law_1480 : decode cL_law 1480 = .ok (.iload_n 3, 1) := by decide +kernel
theorem dL_law_1481 : decode cL_law 1481 = .ok (.iconst 1, 1) := by decide +kernel
theorem dL_law_1482 : decode cL_law 1482 = .ok (.iadd, 1) := by decide +kernel
theorem dL_law_1483 : decode cL_law 1483 = .ok (.iaload, 1) := by decide +kernel
theorem dL_law_1484 : decode cL_law 1484 = .ok (.invokevirtual 174, 3) := by decide +kernel
theorem dL_law_1487 : decode cL_law 1487 = .ok (.aload_n 2, 1) := by decide +kernel
theorem dL_law_1488 : decode cL_law 1488 = .ok (.aload_n 0, 1) := by decide +kernel
theorem dL_law_1489 : decode cL_law 1489 = .ok (.iload_n 3, 1) := by decide +kernel
theorem dL_law_1490 : decode cL_law 1490 = .ok (.iconst 1, 1) := by decide +kernel
theorem dL_law_1491 : decode cL_law 1491 = .ok (.iadd, 1) := by decide +kernel
theorem dL_law_1492 : decode cL_law 1492 = .ok (.iaload, 1) := by decide +kernel
theorem dL_law_1493 : decode cL_law 1493 = .ok (.invokevirtual 177, 3) := by decide +kernel
theorem dL_law_1496 : decode cL_law 1496 = .ok (.if_icmp .eq 5, 3) := by decide +kernel
theorem dL_law_1499 : decode cL_law 1499 = .ok (.iconst 0, 1) := by decide +kernel
theorem dL_law_1500 : decode cL_law 1500 = .ok (.ireturn, 1) := by decide +kernel
theorem dL_law_1501 : decode cL_law 1501 = .ok (.iinc 3 6, 3) := by decide +kernel
theorem dL_law_1504 : decode cL_law 1504 = .ok (.goto (-1486), 3) := by decide +kernel
theorem dL_law_1507 : decode cL_law 1507 = .ok (.iconst 1, 1) := by decide +kernel
theorem dL_law_1508 : decode cL_law 1508 = .ok (.ireturn, 1) := by decide +kernel
section zLaw
variable {y : MethodName} {cc : ByteArray} {mL : Nat} {rt : Option FieldType} {d kc ks : Nat} {Q : Option zV → Nat → zSh → zMem → Prop} {pc : Nat} {ls : List (Option zV)} {st : List zV} {n : Nat} {sh : zSh} {h : zMem}
theorem zt_icmp_same {a off : Int} {tgt : Nat} (hd : decode cc pc = .ok (.if_icmp .eq off, 3)) (ht : (pc : Int) + off = (tgt : Int)) (k1 : zT y cc mL rt d kc ks Q tgt ls st n sh h) : zT y cc mL rt d kc ks Q pc ls ((0, a) :: (0, a) :: st) n sh h := by
  intro l D cA φ n0 p e s m args below meth c K N H locs cells slots ls0 E S X V L c1 c2
  exact lv_icmp_eq E.1 E.2.1 hd ht (fun q => k1 l D cA φ n0 p e s m args below meth c K N H locs cells slots ls0 E S X V L c1 c2) (fun q => absurd rfl q)
theorem zt_sldv {i v : Int} {N0 : Nat} (hd : decode cc pc = .ok (.iaload, 1)) (hs : sh (-1000) = (160, N0)) (hN : N0 < 2147483648) (h0 : 0 ≤ i) (h1 : i < N0) (hv : h (-1000) i = v) (k : zT y cc mL rt d kc ks Q (pc + 1) ls ((0, v) :: st) n sh h) : zT y cc mL rt d kc ks Q pc ls ((0, i) :: (2, -1000) :: st) n sh h := by
  subst hv; exact zt_sld hd hs hN h0 h1 (fun _ => k)
end zLaw
def lwQ : Option zV → Nat → zSh → zMem → Prop := fun r _ _ _ => r = some (0, 1)
/-- from the head of the loop, k calls left -/
def lwH (L : Nat) (scr : Int → Int) (k : Nat) : Prop := ∀ (i q : Int) (n : Nat) (sh : zSh) (h : zMem), (L : Int) - i < 6 * k + 6 → 0 ≤ i → i ≤ 3072 → INV q n sh h → q + k ≤ 515 → sh (-1000) = (160, L) → h (-1000) = scr → zT yL_law cL_law 4 (some .boolean) 71 (12 * k) (8400 * k) lwQ 18 [some (2, -1000), some (2, 0), some (2, 38), some (0, i)] [] n sh h
set_option maxRecDepth 100000 in
set_option maxHeartbeats 4000000 in
theorem lw_c0 {L k n : Nat} {sh : zSh} {h : zMem} {scr : Int → Int} {i q : Int} (hL : L ≤ 3072) (ih : lwH L scr k) (hk : (L : Int) - i < 6 * (k + 1 : Nat) + 6) (h0 : 0 ≤ i) (hi : i + 6 ≤ L) (hI : INV q n sh h) (hq : q + (k + 1 : Nat) ≤ 515) (hs : sh (-1000) = (160, L)) (hsc : h (-1000) = scr) : zT yL_law cL_law 4 (some .boolean) 71 (12 * (k + 1)) (8400 * (k + 1)) lwQ 204 [some (2, -1000), some (2, 0), some (2, 38), some (0, i)] [] n sh h := by
  refine zt_aload_n dL_law_204 rfl ?_
  refine zt_aload_n dL_law_205 rfl ?_
  refine zt_iload_n dL_law_206 rfl ?_
  refine zt_iconst dL_law_207 ?_
  refine zt_iadd dL_law_208 ?_
  refine zt_sld dL_law_209 hs (by omega) (by omega) (by omega) (fun z1 => ?_)
  refine zt_aload_n dL_law_210 rfl ?_
  refine zt_iload_n dL_law_211 rfl ?_
  refine zt_iconst dL_law_212 ?_
  refine zt_iadd dL_law_213 ?_
  refine zt_sld dL_law_214 hs (by omega) (by omega) (by omega) (fun z2 => ?_)
  refine zt_aload_n dL_law_215 rfl ?_
  refine zt_iload_n dL_law_216 rfl ?_
  refine zt_iconst dL_law_217 ?_
  refine zt_iadd dL_law_218 ?_
  refine zt_sld dL_law_219 hs (by omega) (by omega) (by omega) (fun z3 => ?_)
  refine zt_aload_n dL_law_220 rfl ?_
  refine zt_iload_n dL_law_221 rfl ?_
  refine zt_iconst dL_law_222 ?_
  refine zt_iadd dL_law_223 ?_
  refine zt_sld dL_law_224 hs (by omega) (by omega) (by omega) (fun z4 => ?_)
  refine zt_aload_n dL_law_225 rfl ?_
  refine zt_iload_n dL_law_226 rfl ?_
  refine zt_iconst dL_law_227 ?_
  refine zt_iadd dL_law_228 ?_
  refine zt_sld dL_law_229 hs (by omega) (by omega) (by omega) (fun z5 => ?_)
  refine zt_room (kc' := 12 * k + 0) (ks' := 8400 * k + 0) (by omega) (by omega) ?_
  obtain ⟨Qc, hA, hB⟩ := op_feed hI (by omega) z1 z2 z3 z4 z5
  refine zt_callV5q dL_law_230 ml_L_13 (zs_0 hI.1.1) (Nat.le_of_ble_eq_true rfl) hA ?_
  intro r n1 sh1 h1 hq1
  obtain ⟨⟨es, eh⟩, v, rfl, Qm, hM, hE⟩ := hB _ _ _ _ hq1
  have hs1 : sh1 (-1000) = (160, L) := (congrArg Prod.fst es).trans hs
  have h38 : sh1 38 = (11, 64) := (congrArg Prod.snd es).trans (zs_38 hI.1.1)
  simp only [Option.toList, List.cons_append, List.nil_append]
  refine zt_aload_n dL_law_233 rfl ?_
  refine zt_aload_n dL_law_234 rfl ?_
  refine zt_iload_n dL_law_235 rfl ?_
  refine zt_iconst dL_law_236 ?_
  refine zt_iadd dL_law_237 ?_
  refine zt_sldv (v := h (-1000) (i + 1)) dL_law_238 hs1 (by omega) (by omega) (by omega) (congrFun eh _) ?_
  refine zt_aload_n dL_law_239 rfl ?_
  refine zt_iload_n dL_law_240 rfl ?_
  refine zt_iconst dL_law_241 ?_
  refine zt_iadd dL_law_242 ?_
  refine zt_sldv (v := h (-1000) (i + 2)) dL_law_243 hs1 (by omega) (by omega) (by omega) (congrFun eh _) ?_
  refine zt_aload_n dL_law_244 rfl ?_
  refine zt_iload_n dL_law_245 rfl ?_
  refine zt_iconst dL_law_246 ?_
  refine zt_iadd dL_law_247 ?_
  refine zt_sldv (v := h (-1000) (i + 3)) dL_law_248 hs1 (by omega) (by omega) (by omega) (congrFun eh _) ?_
  refine zt_aload_n dL_law_249 rfl ?_
  refine zt_iload_n dL_law_250 rfl ?_
  refine zt_iconst dL_law_251 ?_
  refine zt_iadd dL_law_252 ?_
  refine zt_sldv (v := h (-1000) (i + 4)) dL_law_253 hs1 (by omega) (by omega) (by omega) (congrFun eh _) ?_
  refine zt_aload_n dL_law_254 rfl ?_
  refine zt_iload_n dL_law_255 rfl ?_
  refine zt_iconst dL_law_256 ?_
  refine zt_iadd dL_law_257 ?_
  refine zt_sldv (v := h (-1000) (i + 5)) dL_law_258 hs1 (by omega) (by omega) (by omega) (congrFun eh _) ?_
  refine zt_callV5q dL_law_259 ml_L_17 h38 (Nat.le_of_ble_eq_true rfl) hM ?_
  intro r2 n2 sh2 h2 hq2
  obtain ⟨rfl, ⟨es2, eh2⟩, hI2⟩ := hE _ _ _ _ hq2
  simp only [Option.toList, List.cons_append, List.nil_append]
  refine zt_icmp_same (tgt := 1501) dL_law_262 (by decide) ?_
  refine zt_iinc_3 dL_law_1501 (by decide) rfl ?_
  refine zt_goto (tgt := 18) dL_law_1504 (by decide) ?_
  exact ih (i + 6) (q + 1) n2 sh2 h2 (by omega) (by omega) (by omega) hI2 (by omega) (es2.trans hs) (eh2.trans hsc)

set_option maxRecDepth 100000 in
set_option maxHeartbeats 4000000 in
theorem lw_c1 {L k n : Nat} {sh : zSh} {h : zMem} {scr : Int → Int} {i q : Int} (hL : L ≤ 3072) (ih : lwH L scr k) (hk : (L : Int) - i < 6 * (k + 1 : Nat) + 6) (h0 : 0 ≤ i) (hi : i + 6 ≤ L) (hI : INV q n sh h) (hq : q + (k + 1 : Nat) ≤ 515) (hs : sh (-1000) = (160, L)) (hsc : h (-1000) = scr) : zT yL_law cL_law 4 (some .boolean) 71 (12 * (k + 1)) (8400 * (k + 1)) lwQ 267 [some (2, -1000), some (2, 0), some (2, 38), some (0, i)] [] n sh h := by
  refine zt_aload_n dL_law_267 rfl ?_
  refine zt_aload_n dL_law_268 rfl ?_
  refine zt_iload_n dL_law_269 rfl ?_
  refine zt_iconst dL_law_270 ?_
  refine zt_iadd dL_law_271 ?_
  refine zt_sld dL_law_272 hs (by omega) (by omega) (by omega) (fun z1 => ?_)
  refine zt_room (kc' := 12 * k + 0) (ks' := 8400 * k + 0) (by omega) (by omega) ?_
  obtain ⟨Qc, hA, hB⟩ := op_end hI (by omega) z1
  refine zt_callV1q dL_law_273 ml_L_18 (zs_0 hI.1.1) (Nat.le_of_ble_eq_true rfl) hA ?_
  intro r n1 sh1 h1 hq1
  obtain ⟨⟨es, eh⟩, v, rfl, Qm, hM, hE⟩ := hB _ _ _ _ hq1
  have hs1 : sh1 (-1000) = (160, L) := (congrArg Prod.fst es).trans hs
  have h38 : sh1 38 = (11, 64) := (congrArg Prod.snd es).trans (zs_38 hI.1.1)
  simp only [Option.toList, List.cons_append, List.nil_append]
  refine zt_aload_n dL_law_276 rfl ?_
  refine zt_aload_n dL_law_277 rfl ?_
  refine zt_iload_n dL_law_278 rfl ?_
  refine zt_iconst dL_law_279 ?_
  refine zt_iadd dL_law_280 ?_
  refine zt_sldv (v := h (-1000) (i + 1)) dL_law_281 hs1 (by omega) (by omega) (by omega) (congrFun eh _) ?_
  refine zt_callV1q dL_law_282 ml_L_22 h38 (Nat.le_of_ble_eq_true rfl) hM ?_
  intro r2 n2 sh2 h2 hq2
  obtain ⟨rfl, ⟨es2, eh2⟩, hI2⟩ := hE _ _ _ _ hq2
  simp only [Option.toList, List.cons_append, List.nil_append]
  refine zt_icmp_same (tgt := 1501) dL_law_285 (by decide) ?_
  refine zt_iinc_3 dL_law_1501 (by decide) rfl ?_
  refine zt_goto (tgt := 18) dL_law_1504 (by decide) ?_
  exact ih (i + 6) (q + 1) n2 sh2 h2 (by omega) (by omega) (by omega) hI2 (by omega) (es2.trans hs) (eh2.trans hsc)

set_option maxRecDepth 100000 in
set_option maxHeartbeats 4000000 in
theorem lw_c2 {L k n : Nat} {sh : zSh} {h : zMem} {scr : Int → Int} {i q : Int} (hL : L ≤ 3072) (ih : lwH L scr k) (hk : (L : Int) - i < 6 * (k + 1 : Nat) + 6) (h0 : 0 ≤ i) (hi : i + 6 ≤ L) (hI : INV q n sh h) (hq : q + (k + 1 : Nat) ≤ 515) (hs : sh (-1000) = (160, L)) (hsc : h (-1000) = scr) : zT yL_law cL_law 4 (some .boolean) 71 (12 * (k + 1)) (8400 * (k + 1)) lwQ 290 [some (2, -1000), some (2, 0), some (2, 38), some (0, i)] [] n sh h := by
  refine zt_aload_n dL_law_290 rfl ?_
  refine zt_room (kc' := 12 * k + 0) (ks' := 8400 * k + 0) (by omega) (by omega) ?_
  obtain ⟨Qc, hA, hB⟩ := op_fault hI (by omega)
  refine zt_callV0q dL_law_291 ml_L_23 (zs_0 hI.1.1) (Nat.le_of_ble_eq_true rfl) hA ?_
  intro r n1 sh1 h1 hq1
  obtain ⟨⟨es, eh⟩, v, rfl, Qm, hM, hE⟩ := hB _ _ _ _ hq1
  have hs1 : sh1 (-1000) = (160, L) := (congrArg Prod.fst es).trans hs
  have h38 : sh1 38 = (11, 64) := (congrArg Prod.snd es).trans (zs_38 hI.1.1)
  simp only [Option.toList, List.cons_append, List.nil_append]
  refine zt_aload_n dL_law_294 rfl ?_
  refine zt_callV0q dL_law_295 ml_L_27 h38 (Nat.le_of_ble_eq_true rfl) hM ?_
  intro r2 n2 sh2 h2 hq2
  obtain ⟨rfl, ⟨es2, eh2⟩, hI2⟩ := hE _ _ _ _ hq2
  simp only [Option.toList, List.cons_append, List.nil_append]
  refine zt_icmp_same (tgt := 1501) dL_law_298 (by decide) ?_
  refine zt_iinc_3 dL_law_1501 (by decide) rfl ?_
  refine zt_goto (tgt := 18) dL_law_1504 (by decide) ?_
  exact ih (i + 6) (q + 1) n2 sh2 h2 (by omega) (by omega) (by omega) hI2 (by omega) (es2.trans hs) (eh2.trans hsc)

set_option maxRecDepth 100000 in
set_option maxHeartbeats 4000000 in
theorem lw_c3 {L k n : Nat} {sh : zSh} {h : zMem} {scr : Int → Int} {i q : Int} (hL : L ≤ 3072) (ih : lwH L scr k) (hk : (L : Int) - i < 6 * (k + 1 : Nat) + 6) (h0 : 0 ≤ i) (hi : i + 6 ≤ L) (hI : INV q n sh h) (hq : q + (k + 1 : Nat) ≤ 515) (hs : sh (-1000) = (160, L)) (hsc : h (-1000) = scr) : zT yL_law cL_law 4 (some .boolean) 71 (12 * (k + 1)) (8400 * (k + 1)) lwQ 303 [some (2, -1000), some (2, 0), some (2, 38), some (0, i)] [] n sh h := by
  refine zt_aload_n dL_law_303 rfl ?_
  refine zt_room (kc' := 12 * k + 2) (ks' := 8400 * k + 201) (by omega) (by omega) ?_
  obtain ⟨Qc, hA, hB⟩ := op_sheet hI (by omega)
  refine zt_callV0q dL_law_304 ml_L_28 (zs_0 hI.1.1) (Nat.le_of_ble_eq_true rfl) hA ?_
  intro r n1 sh1 h1 hq1
  obtain ⟨⟨es, eh⟩, v, rfl, Qm, hM, hE⟩ := hB _ _ _ _ hq1
  have hs1 : sh1 (-1000) = (160, L) := (congrArg Prod.fst es).trans hs
  have h38 : sh1 38 = (11, 64) := (congrArg Prod.snd es).trans (zs_38 hI.1.1)
  simp only [Option.toList, List.cons_append, List.nil_append]
  refine zt_aload_n dL_law_307 rfl ?_
  refine zt_callV0q dL_law_308 ml_L_31 h38 (Nat.le_of_ble_eq_true rfl) hM ?_
  intro r2 n2 sh2 h2 hq2
  obtain ⟨rfl, ⟨es2, eh2⟩, hI2⟩ := hE _ _ _ _ hq2
  simp only [Option.toList, List.cons_append, List.nil_append]
  refine zt_icmp_same (tgt := 1501) dL_law_311 (by decide) ?_
  refine zt_iinc_3 dL_law_1501 (by decide) rfl ?_
  refine zt_goto (tgt := 18) dL_law_1504 (by decide) ?_
  exact ih (i + 6) (q + 1) n2 sh2 h2 (by omega) (by omega) (by omega) hI2 (by omega) (es2.trans hs) (eh2.trans hsc)

set_option maxRecDepth 100000 in
set_option maxHeartbeats 4000000 in
theorem lw_c4 {L k n : Nat} {sh : zSh} {h : zMem} {scr : Int → Int} {i q : Int} (hL : L ≤ 3072) (ih : lwH L scr k) (hk : (L : Int) - i < 6 * (k + 1 : Nat) + 6) (h0 : 0 ≤ i) (hi : i + 6 ≤ L) (hI : INV q n sh h) (hq : q + (k + 1 : Nat) ≤ 515) (hs : sh (-1000) = (160, L)) (hsc : h (-1000) = scr) : zT yL_law cL_law 4 (some .boolean) 71 (12 * (k + 1)) (8400 * (k + 1)) lwQ 316 [some (2, -1000), some (2, 0), some (2, 38), some (0, i)] [] n sh h := by
  refine zt_aload_n dL_law_316 rfl ?_
  refine zt_aload_n dL_law_317 rfl ?_
  refine zt_iload_n dL_law_318 rfl ?_
  refine zt_iconst dL_law_319 ?_
  refine zt_iadd dL_law_320 ?_
  refine zt_sld dL_law_321 hs (by omega) (by omega) (by omega) (fun z1 => ?_)
  refine zt_aload_n dL_law_322 rfl ?_
  refine zt_iload_n dL_law_323 rfl ?_
  refine zt_iconst dL_law_324 ?_
  refine zt_iadd dL_law_325 ?_
  refine zt_sld dL_law_326 hs (by omega) (by omega) (by omega) (fun z2 => ?_)
  refine zt_aload_n dL_law_327 rfl ?_
  refine zt_iload_n dL_law_328 rfl ?_
  refine zt_iconst dL_law_329 ?_
  refine zt_iadd dL_law_330 ?_
  refine zt_sld dL_law_331 hs (by omega) (by omega) (by omega) (fun z3 => ?_)
  refine zt_aload_n dL_law_332 rfl ?_
  refine zt_iload_n dL_law_333 rfl ?_
  refine zt_iconst dL_law_334 ?_
  refine zt_iadd dL_law_335 ?_
  refine zt_sld dL_law_336 hs (by omega) (by omega) (by omega) (fun z4 => ?_)
  refine zt_room (kc' := 12 * k + 0) (ks' := 8400 * k + 0) (by omega) (by omega) ?_
  obtain ⟨Qc, hA, hB⟩ := op_value hI (by omega) z1 z2 z3 z4
  refine zt_callV4q dL_law_337 ml_L_32 (zs_0 hI.1.1) (Nat.le_of_ble_eq_true rfl) hA ?_
  intro r n1 sh1 h1 hq1
  obtain ⟨⟨es, eh⟩, v, rfl, Qm, hM, hE⟩ := hB _ _ _ _ hq1
  have hs1 : sh1 (-1000) = (160, L) := (congrArg Prod.fst es).trans hs
  have h38 : sh1 38 = (11, 64) := (congrArg Prod.snd es).trans (zs_38 hI.1.1)
  simp only [Option.toList, List.cons_append, List.nil_append]
  refine zt_aload_n dL_law_340 rfl ?_
  refine zt_aload_n dL_law_341 rfl ?_
  refine zt_iload_n dL_law_342 rfl ?_
  refine zt_iconst dL_law_343 ?_
  refine zt_iadd dL_law_344 ?_
  refine zt_sldv (v := h (-1000) (i + 1)) dL_law_345 hs1 (by omega) (by omega) (by omega) (congrFun eh _) ?_
  refine zt_aload_n dL_law_346 rfl ?_
  refine zt_iload_n dL_law_347 rfl ?_
  refine zt_iconst dL_law_348 ?_
  refine zt_iadd dL_law_349 ?_
  refine zt_sldv (v := h (-1000) (i + 2)) dL_law_350 hs1 (by omega) (by omega) (by omega) (congrFun eh _) ?_
  refine zt_aload_n dL_law_351 rfl ?_
  refine zt_iload_n dL_law_352 rfl ?_
  refine zt_iconst dL_law_353 ?_
  refine zt_iadd dL_law_354 ?_
  refine zt_sldv (v := h (-1000) (i + 3)) dL_law_355 hs1 (by omega) (by omega) (by omega) (congrFun eh _) ?_
  refine zt_aload_n dL_law_356 rfl ?_
  refine zt_iload_n dL_law_357 rfl ?_
  refine zt_iconst dL_law_358 ?_
  refine zt_iadd dL_law_359 ?_
  refine zt_sldv (v := h (-1000) (i + 4)) dL_law_360 hs1 (by omega) (by omega) (by omega) (congrFun eh _) ?_
  refine zt_callV4q dL_law_361 ml_L_36 h38 (Nat.le_of_ble_eq_true rfl) hM ?_
  intro r2 n2 sh2 h2 hq2
  obtain ⟨rfl, ⟨es2, eh2⟩, hI2⟩ := hE _ _ _ _ hq2
  simp only [Option.toList, List.cons_append, List.nil_append]
  refine zt_icmp_same (tgt := 1501) dL_law_364 (by decide) ?_
  refine zt_iinc_3 dL_law_1501 (by decide) rfl ?_
  refine zt_goto (tgt := 18) dL_law_1504 (by decide) ?_
  exact ih (i + 6) (q + 1) n2 sh2 h2 (by omega) (by omega) (by omega) hI2 (by omega) (es2.trans hs) (eh2.trans hsc)

set_option maxRecDepth 100000 in
set_option maxHeartbeats 4000000 in
theorem lw_c5 {L k n : Nat} {sh : zSh} {h : zMem} {scr : Int → Int} {i q : Int} (hL : L ≤ 3072) (ih : lwH L scr k) (hk : (L : Int) - i < 6 * (k + 1 : Nat) + 6) (h0 : 0 ≤ i) (hi : i + 6 ≤ L) (hI : INV q n sh h) (hq : q + (k + 1 : Nat) ≤ 515) (hs : sh (-1000) = (160, L)) (hsc : h (-1000) = scr) : zT yL_law cL_law 4 (some .boolean) 71 (12 * (k + 1)) (8400 * (k + 1)) lwQ 369 [some (2, -1000), some (2, 0), some (2, 38), some (0, i)] [] n sh h := by
  refine zt_aload_n dL_law_369 rfl ?_
  refine zt_aload_n dL_law_370 rfl ?_
  refine zt_iload_n dL_law_371 rfl ?_
  refine zt_iconst dL_law_372 ?_
  refine zt_iadd dL_law_373 ?_
  refine zt_sld dL_law_374 hs (by omega) (by omega) (by omega) (fun z1 => ?_)
  refine zt_room (kc' := 12 * k + 0) (ks' := 8400 * k + 0) (by omega) (by omega) ?_
  obtain ⟨Qc, hA, hB⟩ := op_go hI (by omega) z1
  refine zt_callV1q dL_law_375 ml_L_37 (zs_0 hI.1.1) (Nat.le_of_ble_eq_true rfl) hA ?_
  intro r n1 sh1 h1 hq1
  obtain ⟨⟨es, eh⟩, v, rfl, Qm, hM, hE⟩ := hB _ _ _ _ hq1
  have hs1 : sh1 (-1000) = (160, L) := (congrArg Prod.fst es).trans hs
  have h38 : sh1 38 = (11, 64) := (congrArg Prod.snd es).trans (zs_38 hI.1.1)
  simp only [Option.toList, List.cons_append, List.nil_append]
  refine zt_aload_n dL_law_378 rfl ?_
  refine zt_aload_n dL_law_379 rfl ?_
  refine zt_iload_n dL_law_380 rfl ?_
  refine zt_iconst dL_law_381 ?_
  refine zt_iadd dL_law_382 ?_
  refine zt_sldv (v := h (-1000) (i + 1)) dL_law_383 hs1 (by omega) (by omega) (by omega) (congrFun eh _) ?_
  refine zt_callV1q dL_law_384 ml_L_41 h38 (Nat.le_of_ble_eq_true rfl) hM ?_
  intro r2 n2 sh2 h2 hq2
  obtain ⟨rfl, ⟨es2, eh2⟩, hI2⟩ := hE _ _ _ _ hq2
  simp only [Option.toList, List.cons_append, List.nil_append]
  refine zt_icmp_same (tgt := 1501) dL_law_387 (by decide) ?_
  refine zt_iinc_3 dL_law_1501 (by decide) rfl ?_
  refine zt_goto (tgt := 18) dL_law_1504 (by decide) ?_
  exact ih (i + 6) (q + 1) n2 sh2 h2 (by omega) (by omega) (by omega) hI2 (by omega) (es2.trans hs) (eh2.trans hsc)

set_option maxRecDepth 100000 in
set_option maxHeartbeats 4000000 in
theorem lw_c6 {L k n : Nat} {sh : zSh} {h : zMem} {scr : Int → Int} {i q : Int} (hL : L ≤ 3072) (ih : lwH L scr k) (hk : (L : Int) - i < 6 * (k + 1 : Nat) + 6) (h0 : 0 ≤ i) (hi : i + 6 ≤ L) (hI : INV q n sh h) (hq : q + (k + 1 : Nat) ≤ 515) (hs : sh (-1000) = (160, L)) (hsc : h (-1000) = scr) : zT yL_law cL_law 4 (some .boolean) 71 (12 * (k + 1)) (8400 * (k + 1)) lwQ 392 [some (2, -1000), some (2, 0), some (2, 38), some (0, i)] [] n sh h := by
  refine zt_aload_n dL_law_392 rfl ?_
  refine zt_aload_n dL_law_393 rfl ?_
  refine zt_iload_n dL_law_394 rfl ?_
  refine zt_iconst dL_law_395 ?_
  refine zt_iadd dL_law_396 ?_
  refine zt_sld dL_law_397 hs (by omega) (by omega) (by omega) (fun z1 => ?_)
  refine zt_aload_n dL_law_398 rfl ?_
  refine zt_iload_n dL_law_399 rfl ?_
  refine zt_iconst dL_law_400 ?_
  refine zt_iadd dL_law_401 ?_
  refine zt_sld dL_law_402 hs (by omega) (by omega) (by omega) (fun z2 => ?_)
  refine zt_aload_n dL_law_403 rfl ?_
  refine zt_iload_n dL_law_404 rfl ?_
  refine zt_iconst dL_law_405 ?_
  refine zt_iadd dL_law_406 ?_
  refine zt_sld dL_law_407 hs (by omega) (by omega) (by omega) (fun z3 => ?_)
  refine zt_aload_n dL_law_408 rfl ?_
  refine zt_iload_n dL_law_409 rfl ?_
  refine zt_iconst dL_law_410 ?_
  refine zt_iadd dL_law_411 ?_
  refine zt_sld dL_law_412 hs (by omega) (by omega) (by omega) (fun z4 => ?_)
  refine zt_room (kc' := 12 * k + 11) (ks' := 8400 * k + 314) (by omega) (by omega) ?_
  obtain ⟨Qc, hA, hB⟩ := op_table hI (by omega) z1 z2 z3 z4
  refine zt_callV4q dL_law_413 ml_L_42 (zs_0 hI.1.1) (Nat.le_of_ble_eq_true rfl) hA ?_
  intro r n1 sh1 h1 hq1
  obtain ⟨⟨es, eh⟩, v, rfl, Qm, hM, hE⟩ := hB _ _ _ _ hq1
  have hs1 : sh1 (-1000) = (160, L) := (congrArg Prod.fst es).trans hs
  have h38 : sh1 38 = (11, 64) := (congrArg Prod.snd es).trans (zs_38 hI.1.1)
  simp only [Option.toList, List.cons_append, List.nil_append]
  refine zt_aload_n dL_law_416 rfl ?_
  refine zt_aload_n dL_law_417 rfl ?_
  refine zt_iload_n dL_law_418 rfl ?_
  refine zt_iconst dL_law_419 ?_
  refine zt_iadd dL_law_420 ?_
  refine zt_sldv (v := h (-1000) (i + 1)) dL_law_421 hs1 (by omega) (by omega) (by omega) (congrFun eh _) ?_
  refine zt_aload_n dL_law_422 rfl ?_
  refine zt_iload_n dL_law_423 rfl ?_
  refine zt_iconst dL_law_424 ?_
  refine zt_iadd dL_law_425 ?_
  refine zt_sldv (v := h (-1000) (i + 2)) dL_law_426 hs1 (by omega) (by omega) (by omega) (congrFun eh _) ?_
  refine zt_aload_n dL_law_427 rfl ?_
  refine zt_iload_n dL_law_428 rfl ?_
  refine zt_iconst dL_law_429 ?_
  refine zt_iadd dL_law_430 ?_
  refine zt_sldv (v := h (-1000) (i + 3)) dL_law_431 hs1 (by omega) (by omega) (by omega) (congrFun eh _) ?_
  refine zt_aload_n dL_law_432 rfl ?_
  refine zt_iload_n dL_law_433 rfl ?_
  refine zt_iconst dL_law_434 ?_
  refine zt_iadd dL_law_435 ?_
  refine zt_sldv (v := h (-1000) (i + 4)) dL_law_436 hs1 (by omega) (by omega) (by omega) (congrFun eh _) ?_
  refine zt_callV4q dL_law_437 ml_L_45 h38 (Nat.le_of_ble_eq_true rfl) hM ?_
  intro r2 n2 sh2 h2 hq2
  obtain ⟨rfl, ⟨es2, eh2⟩, hI2⟩ := hE _ _ _ _ hq2
  simp only [Option.toList, List.cons_append, List.nil_append]
  refine zt_icmp_same (tgt := 1501) dL_law_440 (by decide) ?_
  refine zt_iinc_3 dL_law_1501 (by decide) rfl ?_
  refine zt_goto (tgt := 18) dL_law_1504 (by decide) ?_
  exact ih (i + 6) (q + 1) n2 sh2 h2 (by omega) (by omega) (by omega) hI2 (by omega) (es2.trans hs) (eh2.trans hsc)

set_option maxRecDepth 100000 in
set_option maxHeartbeats 4000000 in
theorem lw_c7 {L k n : Nat} {sh : zSh} {h : zMem} {scr : Int → Int} {i q : Int} (hL : L ≤ 3072) (ih : lwH L scr k) (hk : (L : Int) - i < 6 * (k + 1 : Nat) + 6) (h0 : 0 ≤ i) (hi : i + 6 ≤ L) (hI : INV q n sh h) (hq : q + (k + 1 : Nat) ≤ 515) (hs : sh (-1000) = (160, L)) (hsc : h (-1000) = scr) : zT yL_law cL_law 4 (some .boolean) 71 (12 * (k + 1)) (8400 * (k + 1)) lwQ 445 [some (2, -1000), some (2, 0), some (2, 38), some (0, i)] [] n sh h := by
  refine zt_aload_n dL_law_445 rfl ?_
  refine zt_aload_n dL_law_446 rfl ?_
  refine zt_iload_n dL_law_447 rfl ?_
  refine zt_iconst dL_law_448 ?_
  refine zt_iadd dL_law_449 ?_
  refine zt_sld dL_law_450 hs (by omega) (by omega) (by omega) (fun z1 => ?_)
  refine zt_aload_n dL_law_451 rfl ?_
  refine zt_iload_n dL_law_452 rfl ?_
  refine zt_iconst dL_law_453 ?_
  refine zt_iadd dL_law_454 ?_
  refine zt_sld dL_law_455 hs (by omega) (by omega) (by omega) (fun z2 => ?_)
  refine zt_room (kc' := 12 * k + 0) (ks' := 8400 * k + 0) (by omega) (by omega) ?_
  obtain ⟨Qc, hA, hB⟩ := op_exact hI (by omega) z1 z2
  refine zt_callV2q dL_law_456 ml_L_46 (zs_0 hI.1.1) (Nat.le_of_ble_eq_true rfl) hA ?_
  intro r n1 sh1 h1 hq1
  obtain ⟨⟨es, eh⟩, v, rfl, Qm, hM, hE⟩ := hB _ _ _ _ hq1
  have hs1 : sh1 (-1000) = (160, L) := (congrArg Prod.fst es).trans hs
  have h38 : sh1 38 = (11, 64) := (congrArg Prod.snd es).trans (zs_38 hI.1.1)
  simp only [Option.toList, List.cons_append, List.nil_append]
  refine zt_aload_n dL_law_459 rfl ?_
  refine zt_aload_n dL_law_460 rfl ?_
  refine zt_iload_n dL_law_461 rfl ?_
  refine zt_iconst dL_law_462 ?_
  refine zt_iadd dL_law_463 ?_
  refine zt_sldv (v := h (-1000) (i + 1)) dL_law_464 hs1 (by omega) (by omega) (by omega) (congrFun eh _) ?_
  refine zt_aload_n dL_law_465 rfl ?_
  refine zt_iload_n dL_law_466 rfl ?_
  refine zt_iconst dL_law_467 ?_
  refine zt_iadd dL_law_468 ?_
  refine zt_sldv (v := h (-1000) (i + 2)) dL_law_469 hs1 (by omega) (by omega) (by omega) (congrFun eh _) ?_
  refine zt_callV2q dL_law_470 ml_L_50 h38 (Nat.le_of_ble_eq_true rfl) hM ?_
  intro r2 n2 sh2 h2 hq2
  obtain ⟨rfl, ⟨es2, eh2⟩, hI2⟩ := hE _ _ _ _ hq2
  simp only [Option.toList, List.cons_append, List.nil_append]
  refine zt_icmp_same (tgt := 1501) dL_law_473 (by decide) ?_
  refine zt_iinc_3 dL_law_1501 (by decide) rfl ?_
  refine zt_goto (tgt := 18) dL_law_1504 (by decide) ?_
  exact ih (i + 6) (q + 1) n2 sh2 h2 (by omega) (by omega) (by omega) hI2 (by omega) (es2.trans hs) (eh2.trans hsc)

set_option maxRecDepth 100000 in
set_option maxHeartbeats 4000000 in
theorem lw_c8 {L k n : Nat} {sh : zSh} {h : zMem} {scr : Int → Int} {i q : Int} (hL : L ≤ 3072) (ih : lwH L scr k) (hk : (L : Int) - i < 6 * (k + 1 : Nat) + 6) (h0 : 0 ≤ i) (hi : i + 6 ≤ L) (hI : INV q n sh h) (hq : q + (k + 1 : Nat) ≤ 515) (hs : sh (-1000) = (160, L)) (hsc : h (-1000) = scr) : zT yL_law cL_law 4 (some .boolean) 71 (12 * (k + 1)) (8400 * (k + 1)) lwQ 478 [some (2, -1000), some (2, 0), some (2, 38), some (0, i)] [] n sh h := by
  refine zt_aload_n dL_law_478 rfl ?_
  refine zt_room (kc' := 12 * k + 0) (ks' := 8400 * k + 0) (by omega) (by omega) ?_
  obtain ⟨Qc, hA, hB⟩ := op_hand hI (by omega)
  refine zt_callV0q dL_law_479 ml_L_51 (zs_0 hI.1.1) (Nat.le_of_ble_eq_true rfl) hA ?_
  intro r n1 sh1 h1 hq1
  obtain ⟨⟨es, eh⟩, v, rfl, Qm, hM, hE⟩ := hB _ _ _ _ hq1
  have hs1 : sh1 (-1000) = (160, L) := (congrArg Prod.fst es).trans hs
  have h38 : sh1 38 = (11, 64) := (congrArg Prod.snd es).trans (zs_38 hI.1.1)
  simp only [Option.toList, List.cons_append, List.nil_append]
  refine zt_aload_n dL_law_482 rfl ?_
  refine zt_callV0q dL_law_483 ml_L_54 h38 (Nat.le_of_ble_eq_true rfl) hM ?_
  intro r2 n2 sh2 h2 hq2
  obtain ⟨rfl, ⟨es2, eh2⟩, hI2⟩ := hE _ _ _ _ hq2
  simp only [Option.toList, List.cons_append, List.nil_append]
  refine zt_icmp_same (tgt := 1501) dL_law_486 (by decide) ?_
  refine zt_iinc_3 dL_law_1501 (by decide) rfl ?_
  refine zt_goto (tgt := 18) dL_law_1504 (by decide) ?_
  exact ih (i + 6) (q + 1) n2 sh2 h2 (by omega) (by omega) (by omega) hI2 (by omega) (es2.trans hs) (eh2.trans hsc)

set_option maxRecDepth 100000 in
set_option maxHeartbeats 4000000 in
theorem lw_c9 {L k n : Nat} {sh : zSh} {h : zMem} {scr : Int → Int} {i q : Int} (hL : L ≤ 3072) (ih : lwH L scr k) (hk : (L : Int) - i < 6 * (k + 1 : Nat) + 6) (h0 : 0 ≤ i) (hi : i + 6 ≤ L) (hI : INV q n sh h) (hq : q + (k + 1 : Nat) ≤ 515) (hs : sh (-1000) = (160, L)) (hsc : h (-1000) = scr) : zT yL_law cL_law 4 (some .boolean) 71 (12 * (k + 1)) (8400 * (k + 1)) lwQ 491 [some (2, -1000), some (2, 0), some (2, 38), some (0, i)] [] n sh h := by
  refine zt_aload_n dL_law_491 rfl ?_
  refine zt_aload_n dL_law_492 rfl ?_
  refine zt_iload_n dL_law_493 rfl ?_
  refine zt_iconst dL_law_494 ?_
  refine zt_iadd dL_law_495 ?_
  refine zt_sld dL_law_496 hs (by omega) (by omega) (by omega) (fun z1 => ?_)
  refine zt_aload_n dL_law_497 rfl ?_
  refine zt_iload_n dL_law_498 rfl ?_
  refine zt_iconst dL_law_499 ?_
  refine zt_iadd dL_law_500 ?_
  refine zt_sld dL_law_501 hs (by omega) (by omega) (by omega) (fun z2 => ?_)
  refine zt_aload_n dL_law_502 rfl ?_
  refine zt_iload_n dL_law_503 rfl ?_
  refine zt_iconst dL_law_504 ?_
  refine zt_iadd dL_law_505 ?_
  refine zt_sld dL_law_506 hs (by omega) (by omega) (by omega) (fun z3 => ?_)
  refine zt_room (kc' := 12 * k + 0) (ks' := 8400 * k + 0) (by omega) (by omega) ?_
  obtain ⟨Qc, hA, hB⟩ := op_habit hI (by omega) z1 z2 z3
  refine zt_callV3q dL_law_507 ml_L_55 (zs_0 hI.1.1) (Nat.le_of_ble_eq_true rfl) hA ?_
  intro r n1 sh1 h1 hq1
  obtain ⟨⟨es, eh⟩, v, rfl, Qm, hM, hE⟩ := hB _ _ _ _ hq1
  have hs1 : sh1 (-1000) = (160, L) := (congrArg Prod.fst es).trans hs
  have h38 : sh1 38 = (11, 64) := (congrArg Prod.snd es).trans (zs_38 hI.1.1)
  simp only [Option.toList, List.cons_append, List.nil_append]
  refine zt_aload_n dL_law_510 rfl ?_
  refine zt_aload_n dL_law_511 rfl ?_
  refine zt_iload_n dL_law_512 rfl ?_
  refine zt_iconst dL_law_513 ?_
  refine zt_iadd dL_law_514 ?_
  refine zt_sldv (v := h (-1000) (i + 1)) dL_law_515 hs1 (by omega) (by omega) (by omega) (congrFun eh _) ?_
  refine zt_aload_n dL_law_516 rfl ?_
  refine zt_iload_n dL_law_517 rfl ?_
  refine zt_iconst dL_law_518 ?_
  refine zt_iadd dL_law_519 ?_
  refine zt_sldv (v := h (-1000) (i + 2)) dL_law_520 hs1 (by omega) (by omega) (by omega) (congrFun eh _) ?_
  refine zt_aload_n dL_law_521 rfl ?_
  refine zt_iload_n dL_law_522 rfl ?_
  refine zt_iconst dL_law_523 ?_
  refine zt_iadd dL_law_524 ?_
  refine zt_sldv (v := h (-1000) (i + 3)) dL_law_525 hs1 (by omega) (by omega) (by omega) (congrFun eh _) ?_
  refine zt_callV3q dL_law_526 ml_L_59 h38 (Nat.le_of_ble_eq_true rfl) hM ?_
  intro r2 n2 sh2 h2 hq2
  obtain ⟨rfl, ⟨es2, eh2⟩, hI2⟩ := hE _ _ _ _ hq2
  simp only [Option.toList, List.cons_append, List.nil_append]
  refine zt_icmp_same (tgt := 1501) dL_law_529 (by decide) ?_
  refine zt_iinc_3 dL_law_1501 (by decide) rfl ?_
  refine zt_goto (tgt := 18) dL_law_1504 (by decide) ?_
  exact ih (i + 6) (q + 1) n2 sh2 h2 (by omega) (by omega) (by omega) hI2 (by omega) (es2.trans hs) (eh2.trans hsc)

set_option maxRecDepth 100000 in
set_option maxHeartbeats 4000000 in
theorem lw_c10 {L k n : Nat} {sh : zSh} {h : zMem} {scr : Int → Int} {i q : Int} (hL : L ≤ 3072) (ih : lwH L scr k) (hk : (L : Int) - i < 6 * (k + 1 : Nat) + 6) (h0 : 0 ≤ i) (hi : i + 6 ≤ L) (hI : INV q n sh h) (hq : q + (k + 1 : Nat) ≤ 515) (hs : sh (-1000) = (160, L)) (hsc : h (-1000) = scr) : zT yL_law cL_law 4 (some .boolean) 71 (12 * (k + 1)) (8400 * (k + 1)) lwQ 534 [some (2, -1000), some (2, 0), some (2, 38), some (0, i)] [] n sh h := by
  refine zt_aload_n dL_law_534 rfl ?_
  refine zt_aload_n dL_law_535 rfl ?_
  refine zt_iload_n dL_law_536 rfl ?_
  refine zt_iconst dL_law_537 ?_
  refine zt_iadd dL_law_538 ?_
  refine zt_sld dL_law_539 hs (by omega) (by omega) (by omega) (fun z1 => ?_)
  refine zt_aload_n dL_law_540 rfl ?_
  refine zt_iload_n dL_law_541 rfl ?_
  refine zt_iconst dL_law_542 ?_
  refine zt_iadd dL_law_543 ?_
  refine zt_sld dL_law_544 hs (by omega) (by omega) (by omega) (fun z2 => ?_)
  refine zt_aload_n dL_law_545 rfl ?_
  refine zt_iload_n dL_law_546 rfl ?_
  refine zt_iconst dL_law_547 ?_
  refine zt_iadd dL_law_548 ?_
  refine zt_sld dL_law_549 hs (by omega) (by omega) (by omega) (fun z3 => ?_)
  refine zt_aload_n dL_law_550 rfl ?_
  refine zt_iload_n dL_law_551 rfl ?_
  refine zt_iconst dL_law_552 ?_
  refine zt_iadd dL_law_553 ?_
  refine zt_sld dL_law_554 hs (by omega) (by omega) (by omega) (fun z4 => ?_)
  refine zt_room (kc' := 12 * k + 0) (ks' := 8400 * k + 0) (by omega) (by omega) ?_
  obtain ⟨Qc, hA, hB⟩ := op_would hI (by omega) z1 z2 z3 z4
  refine zt_callV4q dL_law_555 ml_L_60 (zs_0 hI.1.1) (Nat.le_of_ble_eq_true rfl) hA ?_
  intro r n1 sh1 h1 hq1
  obtain ⟨⟨es, eh⟩, v, rfl, Qm, hM, hE⟩ := hB _ _ _ _ hq1
  have hs1 : sh1 (-1000) = (160, L) := (congrArg Prod.fst es).trans hs
  have h38 : sh1 38 = (11, 64) := (congrArg Prod.snd es).trans (zs_38 hI.1.1)
  simp only [Option.toList, List.cons_append, List.nil_append]
  refine zt_aload_n dL_law_558 rfl ?_
  refine zt_aload_n dL_law_559 rfl ?_
  refine zt_iload_n dL_law_560 rfl ?_
  refine zt_iconst dL_law_561 ?_
  refine zt_iadd dL_law_562 ?_
  refine zt_sldv (v := h (-1000) (i + 1)) dL_law_563 hs1 (by omega) (by omega) (by omega) (congrFun eh _) ?_
  refine zt_aload_n dL_law_564 rfl ?_
  refine zt_iload_n dL_law_565 rfl ?_
  refine zt_iconst dL_law_566 ?_
  refine zt_iadd dL_law_567 ?_
  refine zt_sldv (v := h (-1000) (i + 2)) dL_law_568 hs1 (by omega) (by omega) (by omega) (congrFun eh _) ?_
  refine zt_aload_n dL_law_569 rfl ?_
  refine zt_iload_n dL_law_570 rfl ?_
  refine zt_iconst dL_law_571 ?_
  refine zt_iadd dL_law_572 ?_
  refine zt_sldv (v := h (-1000) (i + 3)) dL_law_573 hs1 (by omega) (by omega) (by omega) (congrFun eh _) ?_
  refine zt_aload_n dL_law_574 rfl ?_
  refine zt_iload_n dL_law_575 rfl ?_
  refine zt_iconst dL_law_576 ?_
  refine zt_iadd dL_law_577 ?_
  refine zt_sldv (v := h (-1000) (i + 4)) dL_law_578 hs1 (by omega) (by omega) (by omega) (congrFun eh _) ?_
  refine zt_callV4q dL_law_579 ml_L_63 h38 (Nat.le_of_ble_eq_true rfl) hM ?_
  intro r2 n2 sh2 h2 hq2
  obtain ⟨rfl, ⟨es2, eh2⟩, hI2⟩ := hE _ _ _ _ hq2
  simp only [Option.toList, List.cons_append, List.nil_append]
  refine zt_icmp_same (tgt := 1501) dL_law_582 (by decide) ?_
  refine zt_iinc_3 dL_law_1501 (by decide) rfl ?_
  refine zt_goto (tgt := 18) dL_law_1504 (by decide) ?_
  exact ih (i + 6) (q + 1) n2 sh2 h2 (by omega) (by omega) (by omega) hI2 (by omega) (es2.trans hs) (eh2.trans hsc)

set_option maxRecDepth 100000 in
set_option maxHeartbeats 4000000 in
theorem lw_c11 {L k n : Nat} {sh : zSh} {h : zMem} {scr : Int → Int} {i q : Int} (hL : L ≤ 3072) (ih : lwH L scr k) (hk : (L : Int) - i < 6 * (k + 1 : Nat) + 6) (h0 : 0 ≤ i) (hi : i + 6 ≤ L) (hI : INV q n sh h) (hq : q + (k + 1 : Nat) ≤ 515) (hs : sh (-1000) = (160, L)) (hsc : h (-1000) = scr) : zT yL_law cL_law 4 (some .boolean) 71 (12 * (k + 1)) (8400 * (k + 1)) lwQ 587 [some (2, -1000), some (2, 0), some (2, 38), some (0, i)] [] n sh h := by
  refine zt_aload_n dL_law_587 rfl ?_
  refine zt_aload_n dL_law_588 rfl ?_
  refine zt_iload_n dL_law_589 rfl ?_
  refine zt_iconst dL_law_590 ?_
  refine zt_iadd dL_law_591 ?_
  refine zt_sld dL_law_592 hs (by omega) (by omega) (by omega) (fun z1 => ?_)
  refine zt_aload_n dL_law_593 rfl ?_
  refine zt_iload_n dL_law_594 rfl ?_
  refine zt_iconst dL_law_595 ?_
  refine zt_iadd dL_law_596 ?_
  refine zt_sld dL_law_597 hs (by omega) (by omega) (by omega) (fun z2 => ?_)
  refine zt_aload_n dL_law_598 rfl ?_
  refine zt_iload_n dL_law_599 rfl ?_
  refine zt_iconst dL_law_600 ?_
  refine zt_iadd dL_law_601 ?_
  refine zt_sld dL_law_602 hs (by omega) (by omega) (by omega) (fun z3 => ?_)
  refine zt_aload_n dL_law_603 rfl ?_
  refine zt_iload_n dL_law_604 rfl ?_
  refine zt_iconst dL_law_605 ?_
  refine zt_iadd dL_law_606 ?_
  refine zt_sld dL_law_607 hs (by omega) (by omega) (by omega) (fun z4 => ?_)
  refine zt_room (kc' := 12 * k + 0) (ks' := 8400 * k + 0) (by omega) (by omega) ?_
  obtain ⟨Qc, hA, hB⟩ := op_work hI (by omega) z1 z2 z3 z4
  refine zt_callV4q dL_law_608 ml_L_64 (zs_0 hI.1.1) (Nat.le_of_ble_eq_true rfl) hA ?_
  intro r n1 sh1 h1 hq1
  obtain ⟨⟨es, eh⟩, v, rfl, Qm, hM, hE⟩ := hB _ _ _ _ hq1
  have hs1 : sh1 (-1000) = (160, L) := (congrArg Prod.fst es).trans hs
  have h38 : sh1 38 = (11, 64) := (congrArg Prod.snd es).trans (zs_38 hI.1.1)
  simp only [Option.toList, List.cons_append, List.nil_append]
  refine zt_aload_n dL_law_611 rfl ?_
  refine zt_aload_n dL_law_612 rfl ?_
  refine zt_iload_n dL_law_613 rfl ?_
  refine zt_iconst dL_law_614 ?_
  refine zt_iadd dL_law_615 ?_
  refine zt_sldv (v := h (-1000) (i + 1)) dL_law_616 hs1 (by omega) (by omega) (by omega) (congrFun eh _) ?_
  refine zt_aload_n dL_law_617 rfl ?_
  refine zt_iload_n dL_law_618 rfl ?_
  refine zt_iconst dL_law_619 ?_
  refine zt_iadd dL_law_620 ?_
  refine zt_sldv (v := h (-1000) (i + 2)) dL_law_621 hs1 (by omega) (by omega) (by omega) (congrFun eh _) ?_
  refine zt_aload_n dL_law_622 rfl ?_
  refine zt_iload_n dL_law_623 rfl ?_
  refine zt_iconst dL_law_624 ?_
  refine zt_iadd dL_law_625 ?_
  refine zt_sldv (v := h (-1000) (i + 3)) dL_law_626 hs1 (by omega) (by omega) (by omega) (congrFun eh _) ?_
  refine zt_aload_n dL_law_627 rfl ?_
  refine zt_iload_n dL_law_628 rfl ?_
  refine zt_iconst dL_law_629 ?_
  refine zt_iadd dL_law_630 ?_
  refine zt_sldv (v := h (-1000) (i + 4)) dL_law_631 hs1 (by omega) (by omega) (by omega) (congrFun eh _) ?_
  refine zt_callV4q dL_law_632 ml_L_67 h38 (Nat.le_of_ble_eq_true rfl) hM ?_
  intro r2 n2 sh2 h2 hq2
  obtain ⟨rfl, ⟨es2, eh2⟩, hI2⟩ := hE _ _ _ _ hq2
  simp only [Option.toList, List.cons_append, List.nil_append]
  refine zt_icmp_same (tgt := 1501) dL_law_635 (by decide) ?_
  refine zt_iinc_3 dL_law_1501 (by decide) rfl ?_
  refine zt_goto (tgt := 18) dL_law_1504 (by decide) ?_
  exact ih (i + 6) (q + 1) n2 sh2 h2 (by omega) (by omega) (by omega) hI2 (by omega) (es2.trans hs) (eh2.trans hsc)

set_option maxRecDepth 100000 in
set_option maxHeartbeats 4000000 in
theorem lw_c12 {L k n : Nat} {sh : zSh} {h : zMem} {scr : Int → Int} {i q : Int} (hL : L ≤ 3072) (ih : lwH L scr k) (hk : (L : Int) - i < 6 * (k + 1 : Nat) + 6) (h0 : 0 ≤ i) (hi : i + 6 ≤ L) (hI : INV q n sh h) (hq : q + (k + 1 : Nat) ≤ 515) (hs : sh (-1000) = (160, L)) (hsc : h (-1000) = scr) : zT yL_law cL_law 4 (some .boolean) 71 (12 * (k + 1)) (8400 * (k + 1)) lwQ 640 [some (2, -1000), some (2, 0), some (2, 38), some (0, i)] [] n sh h := by
  refine zt_aload_n dL_law_640 rfl ?_
  refine zt_aload_n dL_law_641 rfl ?_
  refine zt_iload_n dL_law_642 rfl ?_
  refine zt_iconst dL_law_643 ?_
  refine zt_iadd dL_law_644 ?_
  refine zt_sld dL_law_645 hs (by omega) (by omega) (by omega) (fun z1 => ?_)
  refine zt_aload_n dL_law_646 rfl ?_
  refine zt_iload_n dL_law_647 rfl ?_
  refine zt_iconst dL_law_648 ?_
  refine zt_iadd dL_law_649 ?_
  refine zt_sld dL_law_650 hs (by omega) (by omega) (by omega) (fun z2 => ?_)
  refine zt_room (kc' := 12 * k + 0) (ks' := 8400 * k + 0) (by omega) (by omega) ?_
  obtain ⟨Qc, hA, hB⟩ := op_figure hI (by omega) z1 z2
  refine zt_callV2q dL_law_651 ml_L_68 (zs_0 hI.1.1) (Nat.le_of_ble_eq_true rfl) hA ?_
  intro r n1 sh1 h1 hq1
  obtain ⟨⟨es, eh⟩, v, rfl, Qm, hM, hE⟩ := hB _ _ _ _ hq1
  have hs1 : sh1 (-1000) = (160, L) := (congrArg Prod.fst es).trans hs
  have h38 : sh1 38 = (11, 64) := (congrArg Prod.snd es).trans (zs_38 hI.1.1)
  simp only [Option.toList, List.cons_append, List.nil_append]
  refine zt_aload_n dL_law_654 rfl ?_
  refine zt_aload_n dL_law_655 rfl ?_
  refine zt_iload_n dL_law_656 rfl ?_
  refine zt_iconst dL_law_657 ?_
  refine zt_iadd dL_law_658 ?_
  refine zt_sldv (v := h (-1000) (i + 1)) dL_law_659 hs1 (by omega) (by omega) (by omega) (congrFun eh _) ?_
  refine zt_aload_n dL_law_660 rfl ?_
  refine zt_iload_n dL_law_661 rfl ?_
  refine zt_iconst dL_law_662 ?_
  refine zt_iadd dL_law_663 ?_
  refine zt_sldv (v := h (-1000) (i + 2)) dL_law_664 hs1 (by omega) (by omega) (by omega) (congrFun eh _) ?_
  refine zt_callV2q dL_law_665 ml_L_71 h38 (Nat.le_of_ble_eq_true rfl) hM ?_
  intro r2 n2 sh2 h2 hq2
  obtain ⟨rfl, ⟨es2, eh2⟩, hI2⟩ := hE _ _ _ _ hq2
  simp only [Option.toList, List.cons_append, List.nil_append]
  refine zt_icmp_same (tgt := 1501) dL_law_668 (by decide) ?_
  refine zt_iinc_3 dL_law_1501 (by decide) rfl ?_
  refine zt_goto (tgt := 18) dL_law_1504 (by decide) ?_
  exact ih (i + 6) (q + 1) n2 sh2 h2 (by omega) (by omega) (by omega) hI2 (by omega) (es2.trans hs) (eh2.trans hsc)

set_option maxRecDepth 100000 in
set_option maxHeartbeats 4000000 in
theorem lw_c13 {L k n : Nat} {sh : zSh} {h : zMem} {scr : Int → Int} {i q : Int} (hL : L ≤ 3072) (ih : lwH L scr k) (hk : (L : Int) - i < 6 * (k + 1 : Nat) + 6) (h0 : 0 ≤ i) (hi : i + 6 ≤ L) (hI : INV q n sh h) (hq : q + (k + 1 : Nat) ≤ 515) (hs : sh (-1000) = (160, L)) (hsc : h (-1000) = scr) : zT yL_law cL_law 4 (some .boolean) 71 (12 * (k + 1)) (8400 * (k + 1)) lwQ 673 [some (2, -1000), some (2, 0), some (2, 38), some (0, i)] [] n sh h := by
  refine zt_aload_n dL_law_673 rfl ?_
  refine zt_aload_n dL_law_674 rfl ?_
  refine zt_iload_n dL_law_675 rfl ?_
  refine zt_iconst dL_law_676 ?_
  refine zt_iadd dL_law_677 ?_
  refine zt_sld dL_law_678 hs (by omega) (by omega) (by omega) (fun z1 => ?_)
  refine zt_aload_n dL_law_679 rfl ?_
  refine zt_iload_n dL_law_680 rfl ?_
  refine zt_iconst dL_law_681 ?_
  refine zt_iadd dL_law_682 ?_
  refine zt_sld dL_law_683 hs (by omega) (by omega) (by omega) (fun z2 => ?_)
  refine zt_room (kc' := 12 * k + 0) (ks' := 8400 * k + 0) (by omega) (by omega) ?_
  obtain ⟨Qc, hA, hB⟩ := op_pair hI (by omega) z1 z2
  refine zt_callV2q dL_law_684 ml_L_72 (zs_0 hI.1.1) (Nat.le_of_ble_eq_true rfl) hA ?_
  intro r n1 sh1 h1 hq1
  obtain ⟨⟨es, eh⟩, v, rfl, Qm, hM, hE⟩ := hB _ _ _ _ hq1
  have hs1 : sh1 (-1000) = (160, L) := (congrArg Prod.fst es).trans hs
  have h38 : sh1 38 = (11, 64) := (congrArg Prod.snd es).trans (zs_38 hI.1.1)
  simp only [Option.toList, List.cons_append, List.nil_append]
  refine zt_aload_n dL_law_687 rfl ?_
  refine zt_aload_n dL_law_688 rfl ?_
  refine zt_iload_n dL_law_689 rfl ?_
  refine zt_iconst dL_law_690 ?_
  refine zt_iadd dL_law_691 ?_
  refine zt_sldv (v := h (-1000) (i + 1)) dL_law_692 hs1 (by omega) (by omega) (by omega) (congrFun eh _) ?_
  refine zt_aload_n dL_law_693 rfl ?_
  refine zt_iload_n dL_law_694 rfl ?_
  refine zt_iconst dL_law_695 ?_
  refine zt_iadd dL_law_696 ?_
  refine zt_sldv (v := h (-1000) (i + 2)) dL_law_697 hs1 (by omega) (by omega) (by omega) (congrFun eh _) ?_
  refine zt_callV2q dL_law_698 ml_L_75 h38 (Nat.le_of_ble_eq_true rfl) hM ?_
  intro r2 n2 sh2 h2 hq2
  obtain ⟨rfl, ⟨es2, eh2⟩, hI2⟩ := hE _ _ _ _ hq2
  simp only [Option.toList, List.cons_append, List.nil_append]
  refine zt_icmp_same (tgt := 1501) dL_law_701 (by decide) ?_
  refine zt_iinc_3 dL_law_1501 (by decide) rfl ?_
  refine zt_goto (tgt := 18) dL_law_1504 (by decide) ?_
  exact ih (i + 6) (q + 1) n2 sh2 h2 (by omega) (by omega) (by omega) hI2 (by omega) (es2.trans hs) (eh2.trans hsc)

set_option maxRecDepth 100000 in
set_option maxHeartbeats 4000000 in
theorem lw_c14 {L k n : Nat} {sh : zSh} {h : zMem} {scr : Int → Int} {i q : Int} (hL : L ≤ 3072) (ih : lwH L scr k) (hk : (L : Int) - i < 6 * (k + 1 : Nat) + 6) (h0 : 0 ≤ i) (hi : i + 6 ≤ L) (hI : INV q n sh h) (hq : q + (k + 1 : Nat) ≤ 515) (hs : sh (-1000) = (160, L)) (hsc : h (-1000) = scr) : zT yL_law cL_law 4 (some .boolean) 71 (12 * (k + 1)) (8400 * (k + 1)) lwQ 706 [some (2, -1000), some (2, 0), some (2, 38), some (0, i)] [] n sh h := by
  refine zt_aload_n dL_law_706 rfl ?_
  refine zt_aload_n dL_law_707 rfl ?_
  refine zt_iload_n dL_law_708 rfl ?_
  refine zt_iconst dL_law_709 ?_
  refine zt_iadd dL_law_710 ?_
  refine zt_sld dL_law_711 hs (by omega) (by omega) (by omega) (fun z1 => ?_)
  refine zt_aload_n dL_law_712 rfl ?_
  refine zt_iload_n dL_law_713 rfl ?_
  refine zt_iconst dL_law_714 ?_
  refine zt_iadd dL_law_715 ?_
  refine zt_sld dL_law_716 hs (by omega) (by omega) (by omega) (fun z2 => ?_)
  refine zt_aload_n dL_law_717 rfl ?_
  refine zt_iload_n dL_law_718 rfl ?_
  refine zt_iconst dL_law_719 ?_
  refine zt_iadd dL_law_720 ?_
  refine zt_sld dL_law_721 hs (by omega) (by omega) (by omega) (fun z3 => ?_)
  refine zt_room (kc' := 12 * k + 0) (ks' := 8400 * k + 0) (by omega) (by omega) ?_
  obtain ⟨Qc, hA, hB⟩ := op_engine hI (by omega) z1 z2 z3
  refine zt_callV3q dL_law_722 ml_L_76 (zs_0 hI.1.1) (Nat.le_of_ble_eq_true rfl) hA ?_
  intro r n1 sh1 h1 hq1
  obtain ⟨⟨es, eh⟩, v, rfl, Qm, hM, hE⟩ := hB _ _ _ _ hq1
  have hs1 : sh1 (-1000) = (160, L) := (congrArg Prod.fst es).trans hs
  have h38 : sh1 38 = (11, 64) := (congrArg Prod.snd es).trans (zs_38 hI.1.1)
  simp only [Option.toList, List.cons_append, List.nil_append]
  refine zt_aload_n dL_law_725 rfl ?_
  refine zt_aload_n dL_law_726 rfl ?_
  refine zt_iload_n dL_law_727 rfl ?_
  refine zt_iconst dL_law_728 ?_
  refine zt_iadd dL_law_729 ?_
  refine zt_sldv (v := h (-1000) (i + 1)) dL_law_730 hs1 (by omega) (by omega) (by omega) (congrFun eh _) ?_
  refine zt_aload_n dL_law_731 rfl ?_
  refine zt_iload_n dL_law_732 rfl ?_
  refine zt_iconst dL_law_733 ?_
  refine zt_iadd dL_law_734 ?_
  refine zt_sldv (v := h (-1000) (i + 2)) dL_law_735 hs1 (by omega) (by omega) (by omega) (congrFun eh _) ?_
  refine zt_aload_n dL_law_736 rfl ?_
  refine zt_iload_n dL_law_737 rfl ?_
  refine zt_iconst dL_law_738 ?_
  refine zt_iadd dL_law_739 ?_
  refine zt_sldv (v := h (-1000) (i + 3)) dL_law_740 hs1 (by omega) (by omega) (by omega) (congrFun eh _) ?_
  refine zt_callV3q dL_law_741 ml_L_79 h38 (Nat.le_of_ble_eq_true rfl) hM ?_
  intro r2 n2 sh2 h2 hq2
  obtain ⟨rfl, ⟨es2, eh2⟩, hI2⟩ := hE _ _ _ _ hq2
  simp only [Option.toList, List.cons_append, List.nil_append]
  refine zt_icmp_same (tgt := 1501) dL_law_744 (by decide) ?_
  refine zt_iinc_3 dL_law_1501 (by decide) rfl ?_
  refine zt_goto (tgt := 18) dL_law_1504 (by decide) ?_
  exact ih (i + 6) (q + 1) n2 sh2 h2 (by omega) (by omega) (by omega) hI2 (by omega) (es2.trans hs) (eh2.trans hsc)

set_option maxRecDepth 100000 in
set_option maxHeartbeats 4000000 in
theorem lw_c15 {L k n : Nat} {sh : zSh} {h : zMem} {scr : Int → Int} {i q : Int} (hL : L ≤ 3072) (ih : lwH L scr k) (hk : (L : Int) - i < 6 * (k + 1 : Nat) + 6) (h0 : 0 ≤ i) (hi : i + 6 ≤ L) (hI : INV q n sh h) (hq : q + (k + 1 : Nat) ≤ 515) (hs : sh (-1000) = (160, L)) (hsc : h (-1000) = scr) : zT yL_law cL_law 4 (some .boolean) 71 (12 * (k + 1)) (8400 * (k + 1)) lwQ 749 [some (2, -1000), some (2, 0), some (2, 38), some (0, i)] [] n sh h := by
  refine zt_aload_n dL_law_749 rfl ?_
  refine zt_aload_n dL_law_750 rfl ?_
  refine zt_iload_n dL_law_751 rfl ?_
  refine zt_iconst dL_law_752 ?_
  refine zt_iadd dL_law_753 ?_
  refine zt_sld dL_law_754 hs (by omega) (by omega) (by omega) (fun z1 => ?_)
  refine zt_aload_n dL_law_755 rfl ?_
  refine zt_iload_n dL_law_756 rfl ?_
  refine zt_iconst dL_law_757 ?_
  refine zt_iadd dL_law_758 ?_
  refine zt_sld dL_law_759 hs (by omega) (by omega) (by omega) (fun z2 => ?_)
  refine zt_aload_n dL_law_760 rfl ?_
  refine zt_iload_n dL_law_761 rfl ?_
  refine zt_iconst dL_law_762 ?_
  refine zt_iadd dL_law_763 ?_
  refine zt_sld dL_law_764 hs (by omega) (by omega) (by omega) (fun z3 => ?_)
  refine zt_room (kc' := 12 * k + 0) (ks' := 8400 * k + 0) (by omega) (by omega) ?_
  obtain ⟨Qc, hA, hB⟩ := op_stick hI (by omega) z1 z2 z3
  refine zt_callV3q dL_law_765 ml_L_80 (zs_0 hI.1.1) (Nat.le_of_ble_eq_true rfl) hA ?_
  intro r n1 sh1 h1 hq1
  obtain ⟨⟨es, eh⟩, v, rfl, Qm, hM, hE⟩ := hB _ _ _ _ hq1
  have hs1 : sh1 (-1000) = (160, L) := (congrArg Prod.fst es).trans hs
  have h38 : sh1 38 = (11, 64) := (congrArg Prod.snd es).trans (zs_38 hI.1.1)
  simp only [Option.toList, List.cons_append, List.nil_append]
  refine zt_aload_n dL_law_768 rfl ?_
  refine zt_aload_n dL_law_769 rfl ?_
  refine zt_iload_n dL_law_770 rfl ?_
  refine zt_iconst dL_law_771 ?_
  refine zt_iadd dL_law_772 ?_
  refine zt_sldv (v := h (-1000) (i + 1)) dL_law_773 hs1 (by omega) (by omega) (by omega) (congrFun eh _) ?_
  refine zt_aload_n dL_law_774 rfl ?_
  refine zt_iload_n dL_law_775 rfl ?_
  refine zt_iconst dL_law_776 ?_
  refine zt_iadd dL_law_777 ?_
  refine zt_sldv (v := h (-1000) (i + 2)) dL_law_778 hs1 (by omega) (by omega) (by omega) (congrFun eh _) ?_
  refine zt_aload_n dL_law_779 rfl ?_
  refine zt_iload_n dL_law_780 rfl ?_
  refine zt_iconst dL_law_781 ?_
  refine zt_iadd dL_law_782 ?_
  refine zt_sldv (v := h (-1000) (i + 3)) dL_law_783 hs1 (by omega) (by omega) (by omega) (congrFun eh _) ?_
  refine zt_callV3q dL_law_784 ml_L_84 h38 (Nat.le_of_ble_eq_true rfl) hM ?_
  intro r2 n2 sh2 h2 hq2
  obtain ⟨rfl, ⟨es2, eh2⟩, hI2⟩ := hE _ _ _ _ hq2
  simp only [Option.toList, List.cons_append, List.nil_append]
  refine zt_icmp_same (tgt := 1501) dL_law_787 (by decide) ?_
  refine zt_iinc_3 dL_law_1501 (by decide) rfl ?_
  refine zt_goto (tgt := 18) dL_law_1504 (by decide) ?_
  exact ih (i + 6) (q + 1) n2 sh2 h2 (by omega) (by omega) (by omega) hI2 (by omega) (es2.trans hs) (eh2.trans hsc)

set_option maxRecDepth 100000 in
set_option maxHeartbeats 4000000 in
theorem lw_c16 {L k n : Nat} {sh : zSh} {h : zMem} {scr : Int → Int} {i q : Int} (hL : L ≤ 3072) (ih : lwH L scr k) (hk : (L : Int) - i < 6 * (k + 1 : Nat) + 6) (h0 : 0 ≤ i) (hi : i + 6 ≤ L) (hI : INV q n sh h) (hq : q + (k + 1 : Nat) ≤ 515) (hs : sh (-1000) = (160, L)) (hsc : h (-1000) = scr) : zT yL_law cL_law 4 (some .boolean) 71 (12 * (k + 1)) (8400 * (k + 1)) lwQ 792 [some (2, -1000), some (2, 0), some (2, 38), some (0, i)] [] n sh h := by
  refine zt_aload_n dL_law_792 rfl ?_
  refine zt_aload_n dL_law_793 rfl ?_
  refine zt_iload_n dL_law_794 rfl ?_
  refine zt_iconst dL_law_795 ?_
  refine zt_iadd dL_law_796 ?_
  refine zt_sld dL_law_797 hs (by omega) (by omega) (by omega) (fun z1 => ?_)
  refine zt_room (kc' := 12 * k + 0) (ks' := 8400 * k + 0) (by omega) (by omega) ?_
  obtain ⟨Qc, hA, hB⟩ := op_turn hI (by omega) z1
  refine zt_callV1q dL_law_798 ml_L_85 (zs_0 hI.1.1) (Nat.le_of_ble_eq_true rfl) hA ?_
  intro r n1 sh1 h1 hq1
  obtain ⟨⟨es, eh⟩, v, rfl, Qm, hM, hE⟩ := hB _ _ _ _ hq1
  have hs1 : sh1 (-1000) = (160, L) := (congrArg Prod.fst es).trans hs
  have h38 : sh1 38 = (11, 64) := (congrArg Prod.snd es).trans (zs_38 hI.1.1)
  simp only [Option.toList, List.cons_append, List.nil_append]
  refine zt_aload_n dL_law_801 rfl ?_
  refine zt_aload_n dL_law_802 rfl ?_
  refine zt_iload_n dL_law_803 rfl ?_
  refine zt_iconst dL_law_804 ?_
  refine zt_iadd dL_law_805 ?_
  refine zt_sldv (v := h (-1000) (i + 1)) dL_law_806 hs1 (by omega) (by omega) (by omega) (congrFun eh _) ?_
  refine zt_callV1q dL_law_807 ml_L_88 h38 (Nat.le_of_ble_eq_true rfl) hM ?_
  intro r2 n2 sh2 h2 hq2
  obtain ⟨rfl, ⟨es2, eh2⟩, hI2⟩ := hE _ _ _ _ hq2
  simp only [Option.toList, List.cons_append, List.nil_append]
  refine zt_icmp_same (tgt := 1501) dL_law_810 (by decide) ?_
  refine zt_iinc_3 dL_law_1501 (by decide) rfl ?_
  refine zt_goto (tgt := 18) dL_law_1504 (by decide) ?_
  exact ih (i + 6) (q + 1) n2 sh2 h2 (by omega) (by omega) (by omega) hI2 (by omega) (es2.trans hs) (eh2.trans hsc)

set_option maxRecDepth 100000 in
set_option maxHeartbeats 4000000 in
theorem lw_c17 {L k n : Nat} {sh : zSh} {h : zMem} {scr : Int → Int} {i q : Int} (hL : L ≤ 3072) (ih : lwH L scr k) (hk : (L : Int) - i < 6 * (k + 1 : Nat) + 6) (h0 : 0 ≤ i) (hi : i + 6 ≤ L) (hI : INV q n sh h) (hq : q + (k + 1 : Nat) ≤ 515) (hs : sh (-1000) = (160, L)) (hsc : h (-1000) = scr) : zT yL_law cL_law 4 (some .boolean) 71 (12 * (k + 1)) (8400 * (k + 1)) lwQ 815 [some (2, -1000), some (2, 0), some (2, 38), some (0, i)] [] n sh h := by
  refine zt_aload_n dL_law_815 rfl ?_
  refine zt_aload_n dL_law_816 rfl ?_
  refine zt_iload_n dL_law_817 rfl ?_
  refine zt_iconst dL_law_818 ?_
  refine zt_iadd dL_law_819 ?_
  refine zt_sld dL_law_820 hs (by omega) (by omega) (by omega) (fun z1 => ?_)
  refine zt_room (kc' := 12 * k + 0) (ks' := 8400 * k + 0) (by omega) (by omega) ?_
  obtain ⟨Qc, hA, hB⟩ := op_column hI (by omega) z1
  refine zt_callV1q dL_law_821 ml_L_89 (zs_0 hI.1.1) (Nat.le_of_ble_eq_true rfl) hA ?_
  intro r n1 sh1 h1 hq1
  obtain ⟨⟨es, eh⟩, v, rfl, Qm, hM, hE⟩ := hB _ _ _ _ hq1
  have hs1 : sh1 (-1000) = (160, L) := (congrArg Prod.fst es).trans hs
  have h38 : sh1 38 = (11, 64) := (congrArg Prod.snd es).trans (zs_38 hI.1.1)
  simp only [Option.toList, List.cons_append, List.nil_append]
  refine zt_aload_n dL_law_824 rfl ?_
  refine zt_aload_n dL_law_825 rfl ?_
  refine zt_iload_n dL_law_826 rfl ?_
  refine zt_iconst dL_law_827 ?_
  refine zt_iadd dL_law_828 ?_
  refine zt_sldv (v := h (-1000) (i + 1)) dL_law_829 hs1 (by omega) (by omega) (by omega) (congrFun eh _) ?_
  refine zt_callV1q dL_law_830 ml_L_92 h38 (Nat.le_of_ble_eq_true rfl) hM ?_
  intro r2 n2 sh2 h2 hq2
  obtain ⟨rfl, ⟨es2, eh2⟩, hI2⟩ := hE _ _ _ _ hq2
  simp only [Option.toList, List.cons_append, List.nil_append]
  refine zt_icmp_same (tgt := 1501) dL_law_833 (by decide) ?_
  refine zt_iinc_3 dL_law_1501 (by decide) rfl ?_
  refine zt_goto (tgt := 18) dL_law_1504 (by decide) ?_
  exact ih (i + 6) (q + 1) n2 sh2 h2 (by omega) (by omega) (by omega) hI2 (by omega) (es2.trans hs) (eh2.trans hsc)

set_option maxRecDepth 100000 in
set_option maxHeartbeats 4000000 in
theorem lw_c18 {L k n : Nat} {sh : zSh} {h : zMem} {scr : Int → Int} {i q : Int} (hL : L ≤ 3072) (ih : lwH L scr k) (hk : (L : Int) - i < 6 * (k + 1 : Nat) + 6) (h0 : 0 ≤ i) (hi : i + 6 ≤ L) (hI : INV q n sh h) (hq : q + (k + 1 : Nat) ≤ 515) (hs : sh (-1000) = (160, L)) (hsc : h (-1000) = scr) : zT yL_law cL_law 4 (some .boolean) 71 (12 * (k + 1)) (8400 * (k + 1)) lwQ 838 [some (2, -1000), some (2, 0), some (2, 38), some (0, i)] [] n sh h := by
  refine zt_aload_n dL_law_838 rfl ?_
  refine zt_aload_n dL_law_839 rfl ?_
  refine zt_iload_n dL_law_840 rfl ?_
  refine zt_iconst dL_law_841 ?_
  refine zt_iadd dL_law_842 ?_
  refine zt_sld dL_law_843 hs (by omega) (by omega) (by omega) (fun z1 => ?_)
  refine zt_aload_n dL_law_844 rfl ?_
  refine zt_iload_n dL_law_845 rfl ?_
  refine zt_iconst dL_law_846 ?_
  refine zt_iadd dL_law_847 ?_
  refine zt_sld dL_law_848 hs (by omega) (by omega) (by omega) (fun z2 => ?_)
  refine zt_room (kc' := 12 * k + 0) (ks' := 8400 * k + 0) (by omega) (by omega) ?_
  obtain ⟨Qc, hA, hB⟩ := op_settings hI (by omega) z1 z2
  refine zt_callV2q dL_law_849 ml_L_93 (zs_0 hI.1.1) (Nat.le_of_ble_eq_true rfl) hA ?_
  intro r n1 sh1 h1 hq1
  obtain ⟨⟨es, eh⟩, v, rfl, Qm, hM, hE⟩ := hB _ _ _ _ hq1
  have hs1 : sh1 (-1000) = (160, L) := (congrArg Prod.fst es).trans hs
  have h38 : sh1 38 = (11, 64) := (congrArg Prod.snd es).trans (zs_38 hI.1.1)
  simp only [Option.toList, List.cons_append, List.nil_append]
  refine zt_aload_n dL_law_852 rfl ?_
  refine zt_aload_n dL_law_853 rfl ?_
  refine zt_iload_n dL_law_854 rfl ?_
  refine zt_iconst dL_law_855 ?_
  refine zt_iadd dL_law_856 ?_
  refine zt_sldv (v := h (-1000) (i + 1)) dL_law_857 hs1 (by omega) (by omega) (by omega) (congrFun eh _) ?_
  refine zt_aload_n dL_law_858 rfl ?_
  refine zt_iload_n dL_law_859 rfl ?_
  refine zt_iconst dL_law_860 ?_
  refine zt_iadd dL_law_861 ?_
  refine zt_sldv (v := h (-1000) (i + 2)) dL_law_862 hs1 (by omega) (by omega) (by omega) (congrFun eh _) ?_
  refine zt_callV2q dL_law_863 ml_L_96 h38 (Nat.le_of_ble_eq_true rfl) hM ?_
  intro r2 n2 sh2 h2 hq2
  obtain ⟨rfl, ⟨es2, eh2⟩, hI2⟩ := hE _ _ _ _ hq2
  simp only [Option.toList, List.cons_append, List.nil_append]
  refine zt_icmp_same (tgt := 1501) dL_law_866 (by decide) ?_
  refine zt_iinc_3 dL_law_1501 (by decide) rfl ?_
  refine zt_goto (tgt := 18) dL_law_1504 (by decide) ?_
  exact ih (i + 6) (q + 1) n2 sh2 h2 (by omega) (by omega) (by omega) hI2 (by omega) (es2.trans hs) (eh2.trans hsc)

set_option maxRecDepth 100000 in
set_option maxHeartbeats 4000000 in
theorem lw_c19 {L k n : Nat} {sh : zSh} {h : zMem} {scr : Int → Int} {i q : Int} (hL : L ≤ 3072) (ih : lwH L scr k) (hk : (L : Int) - i < 6 * (k + 1 : Nat) + 6) (h0 : 0 ≤ i) (hi : i + 6 ≤ L) (hI : INV q n sh h) (hq : q + (k + 1 : Nat) ≤ 515) (hs : sh (-1000) = (160, L)) (hsc : h (-1000) = scr) : zT yL_law cL_law 4 (some .boolean) 71 (12 * (k + 1)) (8400 * (k + 1)) lwQ 871 [some (2, -1000), some (2, 0), some (2, 38), some (0, i)] [] n sh h := by
  refine zt_aload_n dL_law_871 rfl ?_
  refine zt_aload_n dL_law_872 rfl ?_
  refine zt_iload_n dL_law_873 rfl ?_
  refine zt_iconst dL_law_874 ?_
  refine zt_iadd dL_law_875 ?_
  refine zt_sld dL_law_876 hs (by omega) (by omega) (by omega) (fun z1 => ?_)
  refine zt_room (kc' := 12 * k + 0) (ks' := 8400 * k + 0) (by omega) (by omega) ?_
  obtain ⟨Qc, hA, hB⟩ := op_row hI (by omega) z1
  refine zt_callV1q dL_law_877 ml_L_97 (zs_0 hI.1.1) (Nat.le_of_ble_eq_true rfl) hA ?_
  intro r n1 sh1 h1 hq1
  obtain ⟨⟨es, eh⟩, v, rfl, Qm, hM, hE⟩ := hB _ _ _ _ hq1
  have hs1 : sh1 (-1000) = (160, L) := (congrArg Prod.fst es).trans hs
  have h38 : sh1 38 = (11, 64) := (congrArg Prod.snd es).trans (zs_38 hI.1.1)
  simp only [Option.toList, List.cons_append, List.nil_append]
  refine zt_aload_n dL_law_880 rfl ?_
  refine zt_aload_n dL_law_881 rfl ?_
  refine zt_iload_n dL_law_882 rfl ?_
  refine zt_iconst dL_law_883 ?_
  refine zt_iadd dL_law_884 ?_
  refine zt_sldv (v := h (-1000) (i + 1)) dL_law_885 hs1 (by omega) (by omega) (by omega) (congrFun eh _) ?_
  refine zt_callV1q dL_law_886 ml_L_100 h38 (Nat.le_of_ble_eq_true rfl) hM ?_
  intro r2 n2 sh2 h2 hq2
  obtain ⟨rfl, ⟨es2, eh2⟩, hI2⟩ := hE _ _ _ _ hq2
  simp only [Option.toList, List.cons_append, List.nil_append]
  refine zt_icmp_same (tgt := 1501) dL_law_889 (by decide) ?_
  refine zt_iinc_3 dL_law_1501 (by decide) rfl ?_
  refine zt_goto (tgt := 18) dL_law_1504 (by decide) ?_
  exact ih (i + 6) (q + 1) n2 sh2 h2 (by omega) (by omega) (by omega) hI2 (by omega) (es2.trans hs) (eh2.trans hsc)

set_option maxRecDepth 100000 in
set_option maxHeartbeats 4000000 in
theorem lw_c20 {L k n : Nat} {sh : zSh} {h : zMem} {scr : Int → Int} {i q : Int} (hL : L ≤ 3072) (ih : lwH L scr k) (hk : (L : Int) - i < 6 * (k + 1 : Nat) + 6) (h0 : 0 ≤ i) (hi : i + 6 ≤ L) (hI : INV q n sh h) (hq : q + (k + 1 : Nat) ≤ 515) (hs : sh (-1000) = (160, L)) (hsc : h (-1000) = scr) : zT yL_law cL_law 4 (some .boolean) 71 (12 * (k + 1)) (8400 * (k + 1)) lwQ 894 [some (2, -1000), some (2, 0), some (2, 38), some (0, i)] [] n sh h := by
  refine zt_aload_n dL_law_894 rfl ?_
  refine zt_aload_n dL_law_895 rfl ?_
  refine zt_iload_n dL_law_896 rfl ?_
  refine zt_iconst dL_law_897 ?_
  refine zt_iadd dL_law_898 ?_
  refine zt_sld dL_law_899 hs (by omega) (by omega) (by omega) (fun z1 => ?_)
  refine zt_aload_n dL_law_900 rfl ?_
  refine zt_iload_n dL_law_901 rfl ?_
  refine zt_iconst dL_law_902 ?_
  refine zt_iadd dL_law_903 ?_
  refine zt_sld dL_law_904 hs (by omega) (by omega) (by omega) (fun z2 => ?_)
  refine zt_aload_n dL_law_905 rfl ?_
  refine zt_iload_n dL_law_906 rfl ?_
  refine zt_iconst dL_law_907 ?_
  refine zt_iadd dL_law_908 ?_
  refine zt_sld dL_law_909 hs (by omega) (by omega) (by omega) (fun z3 => ?_)
  refine zt_room (kc' := 12 * k + 0) (ks' := 8400 * k + 0) (by omega) (by omega) ?_
  obtain ⟨Qc, hA, hB⟩ := op_lay hI (by omega) z1 z2 z3
  refine zt_callV3q dL_law_910 ml_L_101 (zs_0 hI.1.1) (Nat.le_of_ble_eq_true rfl) hA ?_
  intro r n1 sh1 h1 hq1
  obtain ⟨⟨es, eh⟩, v, rfl, Qm, hM, hE⟩ := hB _ _ _ _ hq1
  have hs1 : sh1 (-1000) = (160, L) := (congrArg Prod.fst es).trans hs
  have h38 : sh1 38 = (11, 64) := (congrArg Prod.snd es).trans (zs_38 hI.1.1)
  simp only [Option.toList, List.cons_append, List.nil_append]
  refine zt_aload_n dL_law_913 rfl ?_
  refine zt_aload_n dL_law_914 rfl ?_
  refine zt_iload_n dL_law_915 rfl ?_
  refine zt_iconst dL_law_916 ?_
  refine zt_iadd dL_law_917 ?_
  refine zt_sldv (v := h (-1000) (i + 1)) dL_law_918 hs1 (by omega) (by omega) (by omega) (congrFun eh _) ?_
  refine zt_aload_n dL_law_919 rfl ?_
  refine zt_iload_n dL_law_920 rfl ?_
  refine zt_iconst dL_law_921 ?_
  refine zt_iadd dL_law_922 ?_
  refine zt_sldv (v := h (-1000) (i + 2)) dL_law_923 hs1 (by omega) (by omega) (by omega) (congrFun eh _) ?_
  refine zt_aload_n dL_law_924 rfl ?_
  refine zt_iload_n dL_law_925 rfl ?_
  refine zt_iconst dL_law_926 ?_
  refine zt_iadd dL_law_927 ?_
  refine zt_sldv (v := h (-1000) (i + 3)) dL_law_928 hs1 (by omega) (by omega) (by omega) (congrFun eh _) ?_
  refine zt_callV3q dL_law_929 ml_L_104 h38 (Nat.le_of_ble_eq_true rfl) hM ?_
  intro r2 n2 sh2 h2 hq2
  obtain ⟨rfl, ⟨es2, eh2⟩, hI2⟩ := hE _ _ _ _ hq2
  simp only [Option.toList, List.cons_append, List.nil_append]
  refine zt_icmp_same (tgt := 1501) dL_law_932 (by decide) ?_
  refine zt_iinc_3 dL_law_1501 (by decide) rfl ?_
  refine zt_goto (tgt := 18) dL_law_1504 (by decide) ?_
  exact ih (i + 6) (q + 1) n2 sh2 h2 (by omega) (by omega) (by omega) hI2 (by omega) (es2.trans hs) (eh2.trans hsc)

set_option maxRecDepth 100000 in
set_option maxHeartbeats 4000000 in
theorem lw_c21 {L k n : Nat} {sh : zSh} {h : zMem} {scr : Int → Int} {i q : Int} (hL : L ≤ 3072) (ih : lwH L scr k) (hk : (L : Int) - i < 6 * (k + 1 : Nat) + 6) (h0 : 0 ≤ i) (hi : i + 6 ≤ L) (hI : INV q n sh h) (hq : q + (k + 1 : Nat) ≤ 515) (hs : sh (-1000) = (160, L)) (hsc : h (-1000) = scr) : zT yL_law cL_law 4 (some .boolean) 71 (12 * (k + 1)) (8400 * (k + 1)) lwQ 937 [some (2, -1000), some (2, 0), some (2, 38), some (0, i)] [] n sh h := by
  refine zt_aload_n dL_law_937 rfl ?_
  refine zt_room (kc' := 12 * k + 0) (ks' := 8400 * k + 0) (by omega) (by omega) ?_
  obtain ⟨Qc, hA, hB⟩ := op_clear hI (by omega)
  refine zt_callV0q dL_law_938 ml_L_105 (zs_0 hI.1.1) (Nat.le_of_ble_eq_true rfl) hA ?_
  intro r n1 sh1 h1 hq1
  obtain ⟨⟨es, eh⟩, v, rfl, Qm, hM, hE⟩ := hB _ _ _ _ hq1
  have hs1 : sh1 (-1000) = (160, L) := (congrArg Prod.fst es).trans hs
  have h38 : sh1 38 = (11, 64) := (congrArg Prod.snd es).trans (zs_38 hI.1.1)
  simp only [Option.toList, List.cons_append, List.nil_append]
  refine zt_aload_n dL_law_941 rfl ?_
  refine zt_callV0q dL_law_942 ml_L_108 h38 (Nat.le_of_ble_eq_true rfl) hM ?_
  intro r2 n2 sh2 h2 hq2
  obtain ⟨rfl, ⟨es2, eh2⟩, hI2⟩ := hE _ _ _ _ hq2
  simp only [Option.toList, List.cons_append, List.nil_append]
  refine zt_icmp_same (tgt := 1501) dL_law_945 (by decide) ?_
  refine zt_iinc_3 dL_law_1501 (by decide) rfl ?_
  refine zt_goto (tgt := 18) dL_law_1504 (by decide) ?_
  exact ih (i + 6) (q + 1) n2 sh2 h2 (by omega) (by omega) (by omega) hI2 (by omega) (es2.trans hs) (eh2.trans hsc)

set_option maxRecDepth 100000 in
set_option maxHeartbeats 4000000 in
theorem lw_c22 {L k n : Nat} {sh : zSh} {h : zMem} {scr : Int → Int} {i q : Int} (hL : L ≤ 3072) (ih : lwH L scr k) (hk : (L : Int) - i < 6 * (k + 1 : Nat) + 6) (h0 : 0 ≤ i) (hi : i + 6 ≤ L) (hI : INV q n sh h) (hq : q + (k + 1 : Nat) ≤ 515) (hs : sh (-1000) = (160, L)) (hsc : h (-1000) = scr) : zT yL_law cL_law 4 (some .boolean) 71 (12 * (k + 1)) (8400 * (k + 1)) lwQ 950 [some (2, -1000), some (2, 0), some (2, 38), some (0, i)] [] n sh h := by
  refine zt_aload_n dL_law_950 rfl ?_
  refine zt_aload_n dL_law_951 rfl ?_
  refine zt_iload_n dL_law_952 rfl ?_
  refine zt_iconst dL_law_953 ?_
  refine zt_iadd dL_law_954 ?_
  refine zt_sld dL_law_955 hs (by omega) (by omega) (by omega) (fun z1 => ?_)
  refine zt_aload_n dL_law_956 rfl ?_
  refine zt_iload_n dL_law_957 rfl ?_
  refine zt_iconst dL_law_958 ?_
  refine zt_iadd dL_law_959 ?_
  refine zt_sld dL_law_960 hs (by omega) (by omega) (by omega) (fun z2 => ?_)
  refine zt_room (kc' := 12 * k + 1) (ks' := 8400 * k + 8192) (by omega) (by omega) ?_
  obtain ⟨Qc, hA, hB⟩ := op_suspects hI (by omega) z1 z2
  refine zt_callV2q dL_law_961 ml_L_109 (zs_0 hI.1.1) (Nat.le_of_ble_eq_true rfl) hA ?_
  intro r n1 sh1 h1 hq1
  obtain ⟨⟨es, eh⟩, v, rfl, Qm, hM, hE⟩ := hB _ _ _ _ hq1
  have hs1 : sh1 (-1000) = (160, L) := (congrArg Prod.fst es).trans hs
  have h38 : sh1 38 = (11, 64) := (congrArg Prod.snd es).trans (zs_38 hI.1.1)
  simp only [Option.toList, List.cons_append, List.nil_append]
  refine zt_aload_n dL_law_964 rfl ?_
  refine zt_aload_n dL_law_965 rfl ?_
  refine zt_iload_n dL_law_966 rfl ?_
  refine zt_iconst dL_law_967 ?_
  refine zt_iadd dL_law_968 ?_
  refine zt_sldv (v := h (-1000) (i + 1)) dL_law_969 hs1 (by omega) (by omega) (by omega) (congrFun eh _) ?_
  refine zt_aload_n dL_law_970 rfl ?_
  refine zt_iload_n dL_law_971 rfl ?_
  refine zt_iconst dL_law_972 ?_
  refine zt_iadd dL_law_973 ?_
  refine zt_sldv (v := h (-1000) (i + 2)) dL_law_974 hs1 (by omega) (by omega) (by omega) (congrFun eh _) ?_
  refine zt_callV2q dL_law_975 ml_L_112 h38 (Nat.le_of_ble_eq_true rfl) hM ?_
  intro r2 n2 sh2 h2 hq2
  obtain ⟨rfl, ⟨es2, eh2⟩, hI2⟩ := hE _ _ _ _ hq2
  simp only [Option.toList, List.cons_append, List.nil_append]
  refine zt_icmp_same (tgt := 1501) dL_law_978 (by decide) ?_
  refine zt_iinc_3 dL_law_1501 (by decide) rfl ?_
  refine zt_goto (tgt := 18) dL_law_1504 (by decide) ?_
  exact ih (i + 6) (q + 1) n2 sh2 h2 (by omega) (by omega) (by omega) hI2 (by omega) (es2.trans hs) (eh2.trans hsc)

set_option maxRecDepth 100000 in
set_option maxHeartbeats 4000000 in
theorem lw_c23 {L k n : Nat} {sh : zSh} {h : zMem} {scr : Int → Int} {i q : Int} (hL : L ≤ 3072) (ih : lwH L scr k) (hk : (L : Int) - i < 6 * (k + 1 : Nat) + 6) (h0 : 0 ≤ i) (hi : i + 6 ≤ L) (hI : INV q n sh h) (hq : q + (k + 1 : Nat) ≤ 515) (hs : sh (-1000) = (160, L)) (hsc : h (-1000) = scr) : zT yL_law cL_law 4 (some .boolean) 71 (12 * (k + 1)) (8400 * (k + 1)) lwQ 983 [some (2, -1000), some (2, 0), some (2, 38), some (0, i)] [] n sh h := by
  refine zt_aload_n dL_law_983 rfl ?_
  refine zt_aload_n dL_law_984 rfl ?_
  refine zt_iload_n dL_law_985 rfl ?_
  refine zt_iconst dL_law_986 ?_
  refine zt_iadd dL_law_987 ?_
  refine zt_sld dL_law_988 hs (by omega) (by omega) (by omega) (fun z1 => ?_)
  refine zt_aload_n dL_law_989 rfl ?_
  refine zt_iload_n dL_law_990 rfl ?_
  refine zt_iconst dL_law_991 ?_
  refine zt_iadd dL_law_992 ?_
  refine zt_sld dL_law_993 hs (by omega) (by omega) (by omega) (fun z2 => ?_)
  refine zt_room (kc' := 12 * k + 1) (ks' := 8400 * k + 8192) (by omega) (by omega) ?_
  obtain ⟨Qc, hA, hB⟩ := op_rivals hI (by omega) z1 z2
  refine zt_callV2q dL_law_994 ml_L_113 (zs_0 hI.1.1) (Nat.le_of_ble_eq_true rfl) hA ?_
  intro r n1 sh1 h1 hq1
  obtain ⟨⟨es, eh⟩, v, rfl, Qm, hM, hE⟩ := hB _ _ _ _ hq1
  have hs1 : sh1 (-1000) = (160, L) := (congrArg Prod.fst es).trans hs
  have h38 : sh1 38 = (11, 64) := (congrArg Prod.snd es).trans (zs_38 hI.1.1)
  simp only [Option.toList, List.cons_append, List.nil_append]
  refine zt_aload_n dL_law_997 rfl ?_
  refine zt_aload_n dL_law_998 rfl ?_
  refine zt_iload_n dL_law_999 rfl ?_
  refine zt_iconst dL_law_1000 ?_
  refine zt_iadd dL_law_1001 ?_
  refine zt_sldv (v := h (-1000) (i + 1)) dL_law_1002 hs1 (by omega) (by omega) (by omega) (congrFun eh _) ?_
  refine zt_aload_n dL_law_1003 rfl ?_
  refine zt_iload_n dL_law_1004 rfl ?_
  refine zt_iconst dL_law_1005 ?_
  refine zt_iadd dL_law_1006 ?_
  refine zt_sldv (v := h (-1000) (i + 2)) dL_law_1007 hs1 (by omega) (by omega) (by omega) (congrFun eh _) ?_
  refine zt_callV2q dL_law_1008 ml_L_116 h38 (Nat.le_of_ble_eq_true rfl) hM ?_
  intro r2 n2 sh2 h2 hq2
  obtain ⟨rfl, ⟨es2, eh2⟩, hI2⟩ := hE _ _ _ _ hq2
  simp only [Option.toList, List.cons_append, List.nil_append]
  refine zt_icmp_same (tgt := 1501) dL_law_1011 (by decide) ?_
  refine zt_iinc_3 dL_law_1501 (by decide) rfl ?_
  refine zt_goto (tgt := 18) dL_law_1504 (by decide) ?_
  exact ih (i + 6) (q + 1) n2 sh2 h2 (by omega) (by omega) (by omega) hI2 (by omega) (es2.trans hs) (eh2.trans hsc)

set_option maxRecDepth 100000 in
set_option maxHeartbeats 4000000 in
theorem lw_c24 {L k n : Nat} {sh : zSh} {h : zMem} {scr : Int → Int} {i q : Int} (hL : L ≤ 3072) (ih : lwH L scr k) (hk : (L : Int) - i < 6 * (k + 1 : Nat) + 6) (h0 : 0 ≤ i) (hi : i + 6 ≤ L) (hI : INV q n sh h) (hq : q + (k + 1 : Nat) ≤ 515) (hs : sh (-1000) = (160, L)) (hsc : h (-1000) = scr) : zT yL_law cL_law 4 (some .boolean) 71 (12 * (k + 1)) (8400 * (k + 1)) lwQ 1016 [some (2, -1000), some (2, 0), some (2, 38), some (0, i)] [] n sh h := by
  refine zt_aload_n dL_law_1016 rfl ?_
  refine zt_aload_n dL_law_1017 rfl ?_
  refine zt_iload_n dL_law_1018 rfl ?_
  refine zt_iconst dL_law_1019 ?_
  refine zt_iadd dL_law_1020 ?_
  refine zt_sld dL_law_1021 hs (by omega) (by omega) (by omega) (fun z1 => ?_)
  refine zt_aload_n dL_law_1022 rfl ?_
  refine zt_iload_n dL_law_1023 rfl ?_
  refine zt_iconst dL_law_1024 ?_
  refine zt_iadd dL_law_1025 ?_
  refine zt_sld dL_law_1026 hs (by omega) (by omega) (by omega) (fun z2 => ?_)
  refine zt_aload_n dL_law_1027 rfl ?_
  refine zt_iload_n dL_law_1028 rfl ?_
  refine zt_iconst dL_law_1029 ?_
  refine zt_iadd dL_law_1030 ?_
  refine zt_sld dL_law_1031 hs (by omega) (by omega) (by omega) (fun z3 => ?_)
  refine zt_room (kc' := 12 * k + 0) (ks' := 8400 * k + 0) (by omega) (by omega) ?_
  obtain ⟨Qc, hA, hB⟩ := op_middle hI (by omega) z1 z2 z3
  refine zt_callV3q dL_law_1032 ml_L_117 (zs_0 hI.1.1) (Nat.le_of_ble_eq_true rfl) hA ?_
  intro r n1 sh1 h1 hq1
  obtain ⟨⟨es, eh⟩, v, rfl, Qm, hM, hE⟩ := hB _ _ _ _ hq1
  have hs1 : sh1 (-1000) = (160, L) := (congrArg Prod.fst es).trans hs
  have h38 : sh1 38 = (11, 64) := (congrArg Prod.snd es).trans (zs_38 hI.1.1)
  simp only [Option.toList, List.cons_append, List.nil_append]
  refine zt_aload_n dL_law_1035 rfl ?_
  refine zt_aload_n dL_law_1036 rfl ?_
  refine zt_iload_n dL_law_1037 rfl ?_
  refine zt_iconst dL_law_1038 ?_
  refine zt_iadd dL_law_1039 ?_
  refine zt_sldv (v := h (-1000) (i + 1)) dL_law_1040 hs1 (by omega) (by omega) (by omega) (congrFun eh _) ?_
  refine zt_aload_n dL_law_1041 rfl ?_
  refine zt_iload_n dL_law_1042 rfl ?_
  refine zt_iconst dL_law_1043 ?_
  refine zt_iadd dL_law_1044 ?_
  refine zt_sldv (v := h (-1000) (i + 2)) dL_law_1045 hs1 (by omega) (by omega) (by omega) (congrFun eh _) ?_
  refine zt_aload_n dL_law_1046 rfl ?_
  refine zt_iload_n dL_law_1047 rfl ?_
  refine zt_iconst dL_law_1048 ?_
  refine zt_iadd dL_law_1049 ?_
  refine zt_sldv (v := h (-1000) (i + 3)) dL_law_1050 hs1 (by omega) (by omega) (by omega) (congrFun eh _) ?_
  refine zt_callV3q dL_law_1051 ml_L_120 h38 (Nat.le_of_ble_eq_true rfl) hM ?_
  intro r2 n2 sh2 h2 hq2
  obtain ⟨rfl, ⟨es2, eh2⟩, hI2⟩ := hE _ _ _ _ hq2
  simp only [Option.toList, List.cons_append, List.nil_append]
  refine zt_icmp_same (tgt := 1501) dL_law_1054 (by decide) ?_
  refine zt_iinc_3 dL_law_1501 (by decide) rfl ?_
  refine zt_goto (tgt := 18) dL_law_1504 (by decide) ?_
  exact ih (i + 6) (q + 1) n2 sh2 h2 (by omega) (by omega) (by omega) hI2 (by omega) (es2.trans hs) (eh2.trans hsc)

set_option maxRecDepth 100000 in
set_option maxHeartbeats 4000000 in
theorem lw_c25 {L k n : Nat} {sh : zSh} {h : zMem} {scr : Int → Int} {i q : Int} (hL : L ≤ 3072) (ih : lwH L scr k) (hk : (L : Int) - i < 6 * (k + 1 : Nat) + 6) (h0 : 0 ≤ i) (hi : i + 6 ≤ L) (hI : INV q n sh h) (hq : q + (k + 1 : Nat) ≤ 515) (hs : sh (-1000) = (160, L)) (hsc : h (-1000) = scr) : zT yL_law cL_law 4 (some .boolean) 71 (12 * (k + 1)) (8400 * (k + 1)) lwQ 1059 [some (2, -1000), some (2, 0), some (2, 38), some (0, i)] [] n sh h := by
  refine zt_aload_n dL_law_1059 rfl ?_
  refine zt_aload_n dL_law_1060 rfl ?_
  refine zt_iload_n dL_law_1061 rfl ?_
  refine zt_iconst dL_law_1062 ?_
  refine zt_iadd dL_law_1063 ?_
  refine zt_sld dL_law_1064 hs (by omega) (by omega) (by omega) (fun z1 => ?_)
  refine zt_room (kc' := 12 * k + 0) (ks' := 8400 * k + 0) (by omega) (by omega) ?_
  obtain ⟨Qc, hA, hB⟩ := op_bound hI (by omega) z1
  refine zt_callV1q dL_law_1065 ml_L_121 (zs_0 hI.1.1) (Nat.le_of_ble_eq_true rfl) hA ?_
  intro r n1 sh1 h1 hq1
  obtain ⟨⟨es, eh⟩, v, rfl, Qm, hM, hE⟩ := hB _ _ _ _ hq1
  have hs1 : sh1 (-1000) = (160, L) := (congrArg Prod.fst es).trans hs
  have h38 : sh1 38 = (11, 64) := (congrArg Prod.snd es).trans (zs_38 hI.1.1)
  simp only [Option.toList, List.cons_append, List.nil_append]
  refine zt_aload_n dL_law_1068 rfl ?_
  refine zt_aload_n dL_law_1069 rfl ?_
  refine zt_iload_n dL_law_1070 rfl ?_
  refine zt_iconst dL_law_1071 ?_
  refine zt_iadd dL_law_1072 ?_
  refine zt_sldv (v := h (-1000) (i + 1)) dL_law_1073 hs1 (by omega) (by omega) (by omega) (congrFun eh _) ?_
  refine zt_callV1q dL_law_1074 ml_L_124 h38 (Nat.le_of_ble_eq_true rfl) hM ?_
  intro r2 n2 sh2 h2 hq2
  obtain ⟨rfl, ⟨es2, eh2⟩, hI2⟩ := hE _ _ _ _ hq2
  simp only [Option.toList, List.cons_append, List.nil_append]
  refine zt_icmp_same (tgt := 1501) dL_law_1077 (by decide) ?_
  refine zt_iinc_3 dL_law_1501 (by decide) rfl ?_
  refine zt_goto (tgt := 18) dL_law_1504 (by decide) ?_
  exact ih (i + 6) (q + 1) n2 sh2 h2 (by omega) (by omega) (by omega) hI2 (by omega) (es2.trans hs) (eh2.trans hsc)

set_option maxRecDepth 100000 in
set_option maxHeartbeats 4000000 in
theorem lw_c26 {L k n : Nat} {sh : zSh} {h : zMem} {scr : Int → Int} {i q : Int} (hL : L ≤ 3072) (ih : lwH L scr k) (hk : (L : Int) - i < 6 * (k + 1 : Nat) + 6) (h0 : 0 ≤ i) (hi : i + 6 ≤ L) (hI : INV q n sh h) (hq : q + (k + 1 : Nat) ≤ 515) (hs : sh (-1000) = (160, L)) (hsc : h (-1000) = scr) : zT yL_law cL_law 4 (some .boolean) 71 (12 * (k + 1)) (8400 * (k + 1)) lwQ 1082 [some (2, -1000), some (2, 0), some (2, 38), some (0, i)] [] n sh h := by
  refine zt_aload_n dL_law_1082 rfl ?_
  refine zt_aload_n dL_law_1083 rfl ?_
  refine zt_iload_n dL_law_1084 rfl ?_
  refine zt_iconst dL_law_1085 ?_
  refine zt_iadd dL_law_1086 ?_
  refine zt_sld dL_law_1087 hs (by omega) (by omega) (by omega) (fun z1 => ?_)
  refine zt_room (kc' := 12 * k + 0) (ks' := 8400 * k + 0) (by omega) (by omega) ?_
  obtain ⟨Qc, hA, hB⟩ := op_set hI (by omega) z1
  refine zt_callV1q dL_law_1088 ml_L_125 (zs_0 hI.1.1) (Nat.le_of_ble_eq_true rfl) hA ?_
  intro r n1 sh1 h1 hq1
  obtain ⟨⟨es, eh⟩, v, rfl, Qm, hM, hE⟩ := hB _ _ _ _ hq1
  have hs1 : sh1 (-1000) = (160, L) := (congrArg Prod.fst es).trans hs
  have h38 : sh1 38 = (11, 64) := (congrArg Prod.snd es).trans (zs_38 hI.1.1)
  simp only [Option.toList, List.cons_append, List.nil_append]
  refine zt_aload_n dL_law_1091 rfl ?_
  refine zt_aload_n dL_law_1092 rfl ?_
  refine zt_iload_n dL_law_1093 rfl ?_
  refine zt_iconst dL_law_1094 ?_
  refine zt_iadd dL_law_1095 ?_
  refine zt_sldv (v := h (-1000) (i + 1)) dL_law_1096 hs1 (by omega) (by omega) (by omega) (congrFun eh _) ?_
  refine zt_callV1q dL_law_1097 ml_L_128 h38 (Nat.le_of_ble_eq_true rfl) hM ?_
  intro r2 n2 sh2 h2 hq2
  obtain ⟨rfl, ⟨es2, eh2⟩, hI2⟩ := hE _ _ _ _ hq2
  simp only [Option.toList, List.cons_append, List.nil_append]
  refine zt_icmp_same (tgt := 1501) dL_law_1100 (by decide) ?_
  refine zt_iinc_3 dL_law_1501 (by decide) rfl ?_
  refine zt_goto (tgt := 18) dL_law_1504 (by decide) ?_
  exact ih (i + 6) (q + 1) n2 sh2 h2 (by omega) (by omega) (by omega) hI2 (by omega) (es2.trans hs) (eh2.trans hsc)

set_option maxRecDepth 100000 in
set_option maxHeartbeats 4000000 in
theorem lw_c27 {L k n : Nat} {sh : zSh} {h : zMem} {scr : Int → Int} {i q : Int} (hL : L ≤ 3072) (ih : lwH L scr k) (hk : (L : Int) - i < 6 * (k + 1 : Nat) + 6) (h0 : 0 ≤ i) (hi : i + 6 ≤ L) (hI : INV q n sh h) (hq : q + (k + 1 : Nat) ≤ 515) (hs : sh (-1000) = (160, L)) (hsc : h (-1000) = scr) : zT yL_law cL_law 4 (some .boolean) 71 (12 * (k + 1)) (8400 * (k + 1)) lwQ 1105 [some (2, -1000), some (2, 0), some (2, 38), some (0, i)] [] n sh h := by
  refine zt_aload_n dL_law_1105 rfl ?_
  refine zt_aload_n dL_law_1106 rfl ?_
  refine zt_iload_n dL_law_1107 rfl ?_
  refine zt_iconst dL_law_1108 ?_
  refine zt_iadd dL_law_1109 ?_
  refine zt_sld dL_law_1110 hs (by omega) (by omega) (by omega) (fun z1 => ?_)
  refine zt_room (kc' := 12 * k + 0) (ks' := 8400 * k + 0) (by omega) (by omega) ?_
  obtain ⟨Qc, hA, hB⟩ := op_hard hI (by omega) z1
  refine zt_callV1q dL_law_1111 ml_L_129 (zs_0 hI.1.1) (Nat.le_of_ble_eq_true rfl) hA ?_
  intro r n1 sh1 h1 hq1
  obtain ⟨⟨es, eh⟩, v, rfl, Qm, hM, hE⟩ := hB _ _ _ _ hq1
  have hs1 : sh1 (-1000) = (160, L) := (congrArg Prod.fst es).trans hs
  have h38 : sh1 38 = (11, 64) := (congrArg Prod.snd es).trans (zs_38 hI.1.1)
  simp only [Option.toList, List.cons_append, List.nil_append]
  refine zt_aload_n dL_law_1114 rfl ?_
  refine zt_aload_n dL_law_1115 rfl ?_
  refine zt_iload_n dL_law_1116 rfl ?_
  refine zt_iconst dL_law_1117 ?_
  refine zt_iadd dL_law_1118 ?_
  refine zt_sldv (v := h (-1000) (i + 1)) dL_law_1119 hs1 (by omega) (by omega) (by omega) (congrFun eh _) ?_
  refine zt_callV1q dL_law_1120 ml_L_132 h38 (Nat.le_of_ble_eq_true rfl) hM ?_
  intro r2 n2 sh2 h2 hq2
  obtain ⟨rfl, ⟨es2, eh2⟩, hI2⟩ := hE _ _ _ _ hq2
  simp only [Option.toList, List.cons_append, List.nil_append]
  refine zt_icmp_same (tgt := 1501) dL_law_1123 (by decide) ?_
  refine zt_iinc_3 dL_law_1501 (by decide) rfl ?_
  refine zt_goto (tgt := 18) dL_law_1504 (by decide) ?_
  exact ih (i + 6) (q + 1) n2 sh2 h2 (by omega) (by omega) (by omega) hI2 (by omega) (es2.trans hs) (eh2.trans hsc)

set_option maxRecDepth 100000 in
set_option maxHeartbeats 4000000 in
theorem lw_c28 {L k n : Nat} {sh : zSh} {h : zMem} {scr : Int → Int} {i q : Int} (hL : L ≤ 3072) (ih : lwH L scr k) (hk : (L : Int) - i < 6 * (k + 1 : Nat) + 6) (h0 : 0 ≤ i) (hi : i + 6 ≤ L) (hI : INV q n sh h) (hq : q + (k + 1 : Nat) ≤ 515) (hs : sh (-1000) = (160, L)) (hsc : h (-1000) = scr) : zT yL_law cL_law 4 (some .boolean) 71 (12 * (k + 1)) (8400 * (k + 1)) lwQ 1128 [some (2, -1000), some (2, 0), some (2, 38), some (0, i)] [] n sh h := by
  refine zt_aload_n dL_law_1128 rfl ?_
  refine zt_aload_n dL_law_1129 rfl ?_
  refine zt_iload_n dL_law_1130 rfl ?_
  refine zt_iconst dL_law_1131 ?_
  refine zt_iadd dL_law_1132 ?_
  refine zt_sld dL_law_1133 hs (by omega) (by omega) (by omega) (fun z1 => ?_)
  refine zt_aload_n dL_law_1134 rfl ?_
  refine zt_iload_n dL_law_1135 rfl ?_
  refine zt_iconst dL_law_1136 ?_
  refine zt_iadd dL_law_1137 ?_
  refine zt_sld dL_law_1138 hs (by omega) (by omega) (by omega) (fun z2 => ?_)
  refine zt_room (kc' := 12 * k + 0) (ks' := 8400 * k + 0) (by omega) (by omega) ?_
  obtain ⟨Qc, hA, hB⟩ := op_print hI (by omega) z1 z2
  refine zt_callV2q dL_law_1139 ml_L_133 (zs_0 hI.1.1) (Nat.le_of_ble_eq_true rfl) hA ?_
  intro r n1 sh1 h1 hq1
  obtain ⟨⟨es, eh⟩, v, rfl, Qm, hM, hE⟩ := hB _ _ _ _ hq1
  have hs1 : sh1 (-1000) = (160, L) := (congrArg Prod.fst es).trans hs
  have h38 : sh1 38 = (11, 64) := (congrArg Prod.snd es).trans (zs_38 hI.1.1)
  simp only [Option.toList, List.cons_append, List.nil_append]
  refine zt_aload_n dL_law_1142 rfl ?_
  refine zt_aload_n dL_law_1143 rfl ?_
  refine zt_iload_n dL_law_1144 rfl ?_
  refine zt_iconst dL_law_1145 ?_
  refine zt_iadd dL_law_1146 ?_
  refine zt_sldv (v := h (-1000) (i + 1)) dL_law_1147 hs1 (by omega) (by omega) (by omega) (congrFun eh _) ?_
  refine zt_aload_n dL_law_1148 rfl ?_
  refine zt_iload_n dL_law_1149 rfl ?_
  refine zt_iconst dL_law_1150 ?_
  refine zt_iadd dL_law_1151 ?_
  refine zt_sldv (v := h (-1000) (i + 2)) dL_law_1152 hs1 (by omega) (by omega) (by omega) (congrFun eh _) ?_
  refine zt_callV2q dL_law_1153 ml_L_136 h38 (Nat.le_of_ble_eq_true rfl) hM ?_
  intro r2 n2 sh2 h2 hq2
  obtain ⟨rfl, ⟨es2, eh2⟩, hI2⟩ := hE _ _ _ _ hq2
  simp only [Option.toList, List.cons_append, List.nil_append]
  refine zt_icmp_same (tgt := 1501) dL_law_1156 (by decide) ?_
  refine zt_iinc_3 dL_law_1501 (by decide) rfl ?_
  refine zt_goto (tgt := 18) dL_law_1504 (by decide) ?_
  exact ih (i + 6) (q + 1) n2 sh2 h2 (by omega) (by omega) (by omega) hI2 (by omega) (es2.trans hs) (eh2.trans hsc)

set_option maxRecDepth 100000 in
set_option maxHeartbeats 4000000 in
theorem lw_c29 {L k n : Nat} {sh : zSh} {h : zMem} {scr : Int → Int} {i q : Int} (hL : L ≤ 3072) (ih : lwH L scr k) (hk : (L : Int) - i < 6 * (k + 1 : Nat) + 6) (h0 : 0 ≤ i) (hi : i + 6 ≤ L) (hI : INV q n sh h) (hq : q + (k + 1 : Nat) ≤ 515) (hs : sh (-1000) = (160, L)) (hsc : h (-1000) = scr) : zT yL_law cL_law 4 (some .boolean) 71 (12 * (k + 1)) (8400 * (k + 1)) lwQ 1161 [some (2, -1000), some (2, 0), some (2, 38), some (0, i)] [] n sh h := by
  refine zt_aload_n dL_law_1161 rfl ?_
  refine zt_aload_n dL_law_1162 rfl ?_
  refine zt_iload_n dL_law_1163 rfl ?_
  refine zt_iconst dL_law_1164 ?_
  refine zt_iadd dL_law_1165 ?_
  refine zt_sld dL_law_1166 hs (by omega) (by omega) (by omega) (fun z1 => ?_)
  refine zt_aload_n dL_law_1167 rfl ?_
  refine zt_iload_n dL_law_1168 rfl ?_
  refine zt_iconst dL_law_1169 ?_
  refine zt_iadd dL_law_1170 ?_
  refine zt_sld dL_law_1171 hs (by omega) (by omega) (by omega) (fun z2 => ?_)
  refine zt_room (kc' := 12 * k + 0) (ks' := 8400 * k + 0) (by omega) (by omega) ?_
  obtain ⟨Qc, hA, hB⟩ := op_mend hI (by omega) z1 z2
  refine zt_callV2q dL_law_1172 ml_L_137 (zs_0 hI.1.1) (Nat.le_of_ble_eq_true rfl) hA ?_
  intro r n1 sh1 h1 hq1
  obtain ⟨⟨es, eh⟩, v, rfl, Qm, hM, hE⟩ := hB _ _ _ _ hq1
  have hs1 : sh1 (-1000) = (160, L) := (congrArg Prod.fst es).trans hs
  have h38 : sh1 38 = (11, 64) := (congrArg Prod.snd es).trans (zs_38 hI.1.1)
  simp only [Option.toList, List.cons_append, List.nil_append]
  refine zt_aload_n dL_law_1175 rfl ?_
  refine zt_aload_n dL_law_1176 rfl ?_
  refine zt_iload_n dL_law_1177 rfl ?_
  refine zt_iconst dL_law_1178 ?_
  refine zt_iadd dL_law_1179 ?_
  refine zt_sldv (v := h (-1000) (i + 1)) dL_law_1180 hs1 (by omega) (by omega) (by omega) (congrFun eh _) ?_
  refine zt_aload_n dL_law_1181 rfl ?_
  refine zt_iload_n dL_law_1182 rfl ?_
  refine zt_iconst dL_law_1183 ?_
  refine zt_iadd dL_law_1184 ?_
  refine zt_sldv (v := h (-1000) (i + 2)) dL_law_1185 hs1 (by omega) (by omega) (by omega) (congrFun eh _) ?_
  refine zt_callV2q dL_law_1186 ml_L_141 h38 (Nat.le_of_ble_eq_true rfl) hM ?_
  intro r2 n2 sh2 h2 hq2
  obtain ⟨rfl, ⟨es2, eh2⟩, hI2⟩ := hE _ _ _ _ hq2
  simp only [Option.toList, List.cons_append, List.nil_append]
  refine zt_icmp_same (tgt := 1501) dL_law_1189 (by decide) ?_
  refine zt_iinc_3 dL_law_1501 (by decide) rfl ?_
  refine zt_goto (tgt := 18) dL_law_1504 (by decide) ?_
  exact ih (i + 6) (q + 1) n2 sh2 h2 (by omega) (by omega) (by omega) hI2 (by omega) (es2.trans hs) (eh2.trans hsc)

set_option maxRecDepth 100000 in
set_option maxHeartbeats 4000000 in
theorem lw_c30 {L k n : Nat} {sh : zSh} {h : zMem} {scr : Int → Int} {i q : Int} (hL : L ≤ 3072) (ih : lwH L scr k) (hk : (L : Int) - i < 6 * (k + 1 : Nat) + 6) (h0 : 0 ≤ i) (hi : i + 6 ≤ L) (hI : INV q n sh h) (hq : q + (k + 1 : Nat) ≤ 515) (hs : sh (-1000) = (160, L)) (hsc : h (-1000) = scr) : zT yL_law cL_law 4 (some .boolean) 71 (12 * (k + 1)) (8400 * (k + 1)) lwQ 1194 [some (2, -1000), some (2, 0), some (2, 38), some (0, i)] [] n sh h := by
  refine zt_aload_n dL_law_1194 rfl ?_
  refine zt_aload_n dL_law_1195 rfl ?_
  refine zt_iload_n dL_law_1196 rfl ?_
  refine zt_iconst dL_law_1197 ?_
  refine zt_iadd dL_law_1198 ?_
  refine zt_sld dL_law_1199 hs (by omega) (by omega) (by omega) (fun z1 => ?_)
  refine zt_aload_n dL_law_1200 rfl ?_
  refine zt_iload_n dL_law_1201 rfl ?_
  refine zt_iconst dL_law_1202 ?_
  refine zt_iadd dL_law_1203 ?_
  refine zt_sld dL_law_1204 hs (by omega) (by omega) (by omega) (fun z2 => ?_)
  refine zt_room (kc' := 12 * k + 0) (ks' := 8400 * k + 0) (by omega) (by omega) ?_
  obtain ⟨Qc, hA, hB⟩ := op_read hI (by omega) z1 z2
  refine zt_callV2q dL_law_1205 ml_L_142 (zs_0 hI.1.1) (Nat.le_of_ble_eq_true rfl) hA ?_
  intro r n1 sh1 h1 hq1
  obtain ⟨⟨es, eh⟩, v, rfl, Qm, hM, hE⟩ := hB _ _ _ _ hq1
  have hs1 : sh1 (-1000) = (160, L) := (congrArg Prod.fst es).trans hs
  have h38 : sh1 38 = (11, 64) := (congrArg Prod.snd es).trans (zs_38 hI.1.1)
  simp only [Option.toList, List.cons_append, List.nil_append]
  refine zt_aload_n dL_law_1208 rfl ?_
  refine zt_aload_n dL_law_1209 rfl ?_
  refine zt_iload_n dL_law_1210 rfl ?_
  refine zt_iconst dL_law_1211 ?_
  refine zt_iadd dL_law_1212 ?_
  refine zt_sldv (v := h (-1000) (i + 1)) dL_law_1213 hs1 (by omega) (by omega) (by omega) (congrFun eh _) ?_
  refine zt_aload_n dL_law_1214 rfl ?_
  refine zt_iload_n dL_law_1215 rfl ?_
  refine zt_iconst dL_law_1216 ?_
  refine zt_iadd dL_law_1217 ?_
  refine zt_sldv (v := h (-1000) (i + 2)) dL_law_1218 hs1 (by omega) (by omega) (by omega) (congrFun eh _) ?_
  refine zt_callV2q dL_law_1219 ml_L_145 h38 (Nat.le_of_ble_eq_true rfl) hM ?_
  intro r2 n2 sh2 h2 hq2
  obtain ⟨rfl, ⟨es2, eh2⟩, hI2⟩ := hE _ _ _ _ hq2
  simp only [Option.toList, List.cons_append, List.nil_append]
  refine zt_icmp_same (tgt := 1501) dL_law_1222 (by decide) ?_
  refine zt_iinc_3 dL_law_1501 (by decide) rfl ?_
  refine zt_goto (tgt := 18) dL_law_1504 (by decide) ?_
  exact ih (i + 6) (q + 1) n2 sh2 h2 (by omega) (by omega) (by omega) hI2 (by omega) (es2.trans hs) (eh2.trans hsc)

set_option maxRecDepth 100000 in
set_option maxHeartbeats 4000000 in
theorem lw_c31 {L k n : Nat} {sh : zSh} {h : zMem} {scr : Int → Int} {i q : Int} (hL : L ≤ 3072) (ih : lwH L scr k) (hk : (L : Int) - i < 6 * (k + 1 : Nat) + 6) (h0 : 0 ≤ i) (hi : i + 6 ≤ L) (hI : INV q n sh h) (hq : q + (k + 1 : Nat) ≤ 515) (hs : sh (-1000) = (160, L)) (hsc : h (-1000) = scr) : zT yL_law cL_law 4 (some .boolean) 71 (12 * (k + 1)) (8400 * (k + 1)) lwQ 1227 [some (2, -1000), some (2, 0), some (2, 38), some (0, i)] [] n sh h := by
  refine zt_aload_n dL_law_1227 rfl ?_
  refine zt_aload_n dL_law_1228 rfl ?_
  refine zt_iload_n dL_law_1229 rfl ?_
  refine zt_iconst dL_law_1230 ?_
  refine zt_iadd dL_law_1231 ?_
  refine zt_sld dL_law_1232 hs (by omega) (by omega) (by omega) (fun z1 => ?_)
  refine zt_aload_n dL_law_1233 rfl ?_
  refine zt_iload_n dL_law_1234 rfl ?_
  refine zt_iconst dL_law_1235 ?_
  refine zt_iadd dL_law_1236 ?_
  refine zt_sld dL_law_1237 hs (by omega) (by omega) (by omega) (fun z2 => ?_)
  refine zt_aload_n dL_law_1238 rfl ?_
  refine zt_iload_n dL_law_1239 rfl ?_
  refine zt_iconst dL_law_1240 ?_
  refine zt_iadd dL_law_1241 ?_
  refine zt_sld dL_law_1242 hs (by omega) (by omega) (by omega) (fun z3 => ?_)
  refine zt_aload_n dL_law_1243 rfl ?_
  refine zt_iload_n dL_law_1244 rfl ?_
  refine zt_iconst dL_law_1245 ?_
  refine zt_iadd dL_law_1246 ?_
  refine zt_sld dL_law_1247 hs (by omega) (by omega) (by omega) (fun z4 => ?_)
  refine zt_room (kc' := 12 * k + 0) (ks' := 8400 * k + 0) (by omega) (by omega) ?_
  obtain ⟨Qc, hA, hB⟩ := op_erratum hI (by omega) z1 z2 z3 z4
  refine zt_callV4q dL_law_1248 ml_L_146 (zs_0 hI.1.1) (Nat.le_of_ble_eq_true rfl) hA ?_
  intro r n1 sh1 h1 hq1
  obtain ⟨⟨es, eh⟩, v, rfl, Qm, hM, hE⟩ := hB _ _ _ _ hq1
  have hs1 : sh1 (-1000) = (160, L) := (congrArg Prod.fst es).trans hs
  have h38 : sh1 38 = (11, 64) := (congrArg Prod.snd es).trans (zs_38 hI.1.1)
  simp only [Option.toList, List.cons_append, List.nil_append]
  refine zt_aload_n dL_law_1251 rfl ?_
  refine zt_aload_n dL_law_1252 rfl ?_
  refine zt_iload_n dL_law_1253 rfl ?_
  refine zt_iconst dL_law_1254 ?_
  refine zt_iadd dL_law_1255 ?_
  refine zt_sldv (v := h (-1000) (i + 1)) dL_law_1256 hs1 (by omega) (by omega) (by omega) (congrFun eh _) ?_
  refine zt_aload_n dL_law_1257 rfl ?_
  refine zt_iload_n dL_law_1258 rfl ?_
  refine zt_iconst dL_law_1259 ?_
  refine zt_iadd dL_law_1260 ?_
  refine zt_sldv (v := h (-1000) (i + 2)) dL_law_1261 hs1 (by omega) (by omega) (by omega) (congrFun eh _) ?_
  refine zt_aload_n dL_law_1262 rfl ?_
  refine zt_iload_n dL_law_1263 rfl ?_
  refine zt_iconst dL_law_1264 ?_
  refine zt_iadd dL_law_1265 ?_
  refine zt_sldv (v := h (-1000) (i + 3)) dL_law_1266 hs1 (by omega) (by omega) (by omega) (congrFun eh _) ?_
  refine zt_aload_n dL_law_1267 rfl ?_
  refine zt_iload_n dL_law_1268 rfl ?_
  refine zt_iconst dL_law_1269 ?_
  refine zt_iadd dL_law_1270 ?_
  refine zt_sldv (v := h (-1000) (i + 4)) dL_law_1271 hs1 (by omega) (by omega) (by omega) (congrFun eh _) ?_
  refine zt_callV4q dL_law_1272 ml_L_149 h38 (Nat.le_of_ble_eq_true rfl) hM ?_
  intro r2 n2 sh2 h2 hq2
  obtain ⟨rfl, ⟨es2, eh2⟩, hI2⟩ := hE _ _ _ _ hq2
  simp only [Option.toList, List.cons_append, List.nil_append]
  refine zt_icmp_same (tgt := 1501) dL_law_1275 (by decide) ?_
  refine zt_iinc_3 dL_law_1501 (by decide) rfl ?_
  refine zt_goto (tgt := 18) dL_law_1504 (by decide) ?_
  exact ih (i + 6) (q + 1) n2 sh2 h2 (by omega) (by omega) (by omega) hI2 (by omega) (es2.trans hs) (eh2.trans hsc)

set_option maxRecDepth 100000 in
set_option maxHeartbeats 4000000 in
theorem lw_c32 {L k n : Nat} {sh : zSh} {h : zMem} {scr : Int → Int} {i q : Int} (hL : L ≤ 3072) (ih : lwH L scr k) (hk : (L : Int) - i < 6 * (k + 1 : Nat) + 6) (h0 : 0 ≤ i) (hi : i + 6 ≤ L) (hI : INV q n sh h) (hq : q + (k + 1 : Nat) ≤ 515) (hs : sh (-1000) = (160, L)) (hsc : h (-1000) = scr) : zT yL_law cL_law 4 (some .boolean) 71 (12 * (k + 1)) (8400 * (k + 1)) lwQ 1280 [some (2, -1000), some (2, 0), some (2, 38), some (0, i)] [] n sh h := by
  refine zt_aload_n dL_law_1280 rfl ?_
  refine zt_aload_n dL_law_1281 rfl ?_
  refine zt_iload_n dL_law_1282 rfl ?_
  refine zt_iconst dL_law_1283 ?_
  refine zt_iadd dL_law_1284 ?_
  refine zt_sld dL_law_1285 hs (by omega) (by omega) (by omega) (fun z1 => ?_)
  refine zt_room (kc' := 12 * k + 0) (ks' := 8400 * k + 0) (by omega) (by omega) ?_
  obtain ⟨Qc, hA, hB⟩ := op_misses hI (by omega) z1
  refine zt_callV1q dL_law_1286 ml_L_150 (zs_0 hI.1.1) (Nat.le_of_ble_eq_true rfl) hA ?_
  intro r n1 sh1 h1 hq1
  obtain ⟨⟨es, eh⟩, v, rfl, Qm, hM, hE⟩ := hB _ _ _ _ hq1
  have hs1 : sh1 (-1000) = (160, L) := (congrArg Prod.fst es).trans hs
  have h38 : sh1 38 = (11, 64) := (congrArg Prod.snd es).trans (zs_38 hI.1.1)
  simp only [Option.toList, List.cons_append, List.nil_append]
  refine zt_aload_n dL_law_1289 rfl ?_
  refine zt_aload_n dL_law_1290 rfl ?_
  refine zt_iload_n dL_law_1291 rfl ?_
  refine zt_iconst dL_law_1292 ?_
  refine zt_iadd dL_law_1293 ?_
  refine zt_sldv (v := h (-1000) (i + 1)) dL_law_1294 hs1 (by omega) (by omega) (by omega) (congrFun eh _) ?_
  refine zt_callV1q dL_law_1295 ml_L_153 h38 (Nat.le_of_ble_eq_true rfl) hM ?_
  intro r2 n2 sh2 h2 hq2
  obtain ⟨rfl, ⟨es2, eh2⟩, hI2⟩ := hE _ _ _ _ hq2
  simp only [Option.toList, List.cons_append, List.nil_append]
  refine zt_icmp_same (tgt := 1501) dL_law_1298 (by decide) ?_
  refine zt_iinc_3 dL_law_1501 (by decide) rfl ?_
  refine zt_goto (tgt := 18) dL_law_1504 (by decide) ?_
  exact ih (i + 6) (q + 1) n2 sh2 h2 (by omega) (by omega) (by omega) hI2 (by omega) (es2.trans hs) (eh2.trans hsc)

set_option maxRecDepth 100000 in
set_option maxHeartbeats 4000000 in
theorem lw_c33 {L k n : Nat} {sh : zSh} {h : zMem} {scr : Int → Int} {i q : Int} (hL : L ≤ 3072) (ih : lwH L scr k) (hk : (L : Int) - i < 6 * (k + 1 : Nat) + 6) (h0 : 0 ≤ i) (hi : i + 6 ≤ L) (hI : INV q n sh h) (hq : q + (k + 1 : Nat) ≤ 515) (hs : sh (-1000) = (160, L)) (hsc : h (-1000) = scr) : zT yL_law cL_law 4 (some .boolean) 71 (12 * (k + 1)) (8400 * (k + 1)) lwQ 1303 [some (2, -1000), some (2, 0), some (2, 38), some (0, i)] [] n sh h := by
  refine zt_aload_n dL_law_1303 rfl ?_
  refine zt_aload_n dL_law_1304 rfl ?_
  refine zt_iload_n dL_law_1305 rfl ?_
  refine zt_iconst dL_law_1306 ?_
  refine zt_iadd dL_law_1307 ?_
  refine zt_sld dL_law_1308 hs (by omega) (by omega) (by omega) (fun z1 => ?_)
  refine zt_aload_n dL_law_1309 rfl ?_
  refine zt_iload_n dL_law_1310 rfl ?_
  refine zt_iconst dL_law_1311 ?_
  refine zt_iadd dL_law_1312 ?_
  refine zt_sld dL_law_1313 hs (by omega) (by omega) (by omega) (fun z2 => ?_)
  refine zt_aload_n dL_law_1314 rfl ?_
  refine zt_iload_n dL_law_1315 rfl ?_
  refine zt_iconst dL_law_1316 ?_
  refine zt_iadd dL_law_1317 ?_
  refine zt_sld dL_law_1318 hs (by omega) (by omega) (by omega) (fun z3 => ?_)
  refine zt_room (kc' := 12 * k + 0) (ks' := 8400 * k + 0) (by omega) (by omega) ?_
  obtain ⟨Qc, hA, hB⟩ := op_known hI (by omega) z1 z2 z3
  refine zt_callV3q dL_law_1319 ml_L_154 (zs_0 hI.1.1) (Nat.le_of_ble_eq_true rfl) hA ?_
  intro r n1 sh1 h1 hq1
  obtain ⟨⟨es, eh⟩, v, rfl, Qm, hM, hE⟩ := hB _ _ _ _ hq1
  have hs1 : sh1 (-1000) = (160, L) := (congrArg Prod.fst es).trans hs
  have h38 : sh1 38 = (11, 64) := (congrArg Prod.snd es).trans (zs_38 hI.1.1)
  simp only [Option.toList, List.cons_append, List.nil_append]
  refine zt_aload_n dL_law_1322 rfl ?_
  refine zt_aload_n dL_law_1323 rfl ?_
  refine zt_iload_n dL_law_1324 rfl ?_
  refine zt_iconst dL_law_1325 ?_
  refine zt_iadd dL_law_1326 ?_
  refine zt_sldv (v := h (-1000) (i + 1)) dL_law_1327 hs1 (by omega) (by omega) (by omega) (congrFun eh _) ?_
  refine zt_aload_n dL_law_1328 rfl ?_
  refine zt_iload_n dL_law_1329 rfl ?_
  refine zt_iconst dL_law_1330 ?_
  refine zt_iadd dL_law_1331 ?_
  refine zt_sldv (v := h (-1000) (i + 2)) dL_law_1332 hs1 (by omega) (by omega) (by omega) (congrFun eh _) ?_
  refine zt_aload_n dL_law_1333 rfl ?_
  refine zt_iload_n dL_law_1334 rfl ?_
  refine zt_iconst dL_law_1335 ?_
  refine zt_iadd dL_law_1336 ?_
  refine zt_sldv (v := h (-1000) (i + 3)) dL_law_1337 hs1 (by omega) (by omega) (by omega) (congrFun eh _) ?_
  refine zt_callV3q dL_law_1338 ml_L_157 h38 (Nat.le_of_ble_eq_true rfl) hM ?_
  intro r2 n2 sh2 h2 hq2
  obtain ⟨rfl, ⟨es2, eh2⟩, hI2⟩ := hE _ _ _ _ hq2
  simp only [Option.toList, List.cons_append, List.nil_append]
  refine zt_icmp_same (tgt := 1501) dL_law_1341 (by decide) ?_
  refine zt_iinc_3 dL_law_1501 (by decide) rfl ?_
  refine zt_goto (tgt := 18) dL_law_1504 (by decide) ?_
  exact ih (i + 6) (q + 1) n2 sh2 h2 (by omega) (by omega) (by omega) hI2 (by omega) (es2.trans hs) (eh2.trans hsc)

set_option maxRecDepth 100000 in
set_option maxHeartbeats 4000000 in
theorem lw_c34 {L k n : Nat} {sh : zSh} {h : zMem} {scr : Int → Int} {i q : Int} (hL : L ≤ 3072) (ih : lwH L scr k) (hk : (L : Int) - i < 6 * (k + 1 : Nat) + 6) (h0 : 0 ≤ i) (hi : i + 6 ≤ L) (hI : INV q n sh h) (hq : q + (k + 1 : Nat) ≤ 515) (hs : sh (-1000) = (160, L)) (hsc : h (-1000) = scr) : zT yL_law cL_law 4 (some .boolean) 71 (12 * (k + 1)) (8400 * (k + 1)) lwQ 1346 [some (2, -1000), some (2, 0), some (2, 38), some (0, i)] [] n sh h := by
  refine zt_aload_n dL_law_1346 rfl ?_
  refine zt_aload_n dL_law_1347 rfl ?_
  refine zt_iload_n dL_law_1348 rfl ?_
  refine zt_iconst dL_law_1349 ?_
  refine zt_iadd dL_law_1350 ?_
  refine zt_sld dL_law_1351 hs (by omega) (by omega) (by omega) (fun z1 => ?_)
  refine zt_aload_n dL_law_1352 rfl ?_
  refine zt_iload_n dL_law_1353 rfl ?_
  refine zt_iconst dL_law_1354 ?_
  refine zt_iadd dL_law_1355 ?_
  refine zt_sld dL_law_1356 hs (by omega) (by omega) (by omega) (fun z2 => ?_)
  refine zt_aload_n dL_law_1357 rfl ?_
  refine zt_iload_n dL_law_1358 rfl ?_
  refine zt_iconst dL_law_1359 ?_
  refine zt_iadd dL_law_1360 ?_
  refine zt_sld dL_law_1361 hs (by omega) (by omega) (by omega) (fun z3 => ?_)
  refine zt_room (kc' := 12 * k + 0) (ks' := 8400 * k + 0) (by omega) (by omega) ?_
  obtain ⟨Qc, hA, hB⟩ := op_rival hI (by omega) z1 z2 z3
  refine zt_callV3q dL_law_1362 ml_L_158 (zs_0 hI.1.1) (Nat.le_of_ble_eq_true rfl) hA ?_
  intro r n1 sh1 h1 hq1
  obtain ⟨⟨es, eh⟩, v, rfl, Qm, hM, hE⟩ := hB _ _ _ _ hq1
  have hs1 : sh1 (-1000) = (160, L) := (congrArg Prod.fst es).trans hs
  have h38 : sh1 38 = (11, 64) := (congrArg Prod.snd es).trans (zs_38 hI.1.1)
  simp only [Option.toList, List.cons_append, List.nil_append]
  refine zt_aload_n dL_law_1365 rfl ?_
  refine zt_aload_n dL_law_1366 rfl ?_
  refine zt_iload_n dL_law_1367 rfl ?_
  refine zt_iconst dL_law_1368 ?_
  refine zt_iadd dL_law_1369 ?_
  refine zt_sldv (v := h (-1000) (i + 1)) dL_law_1370 hs1 (by omega) (by omega) (by omega) (congrFun eh _) ?_
  refine zt_aload_n dL_law_1371 rfl ?_
  refine zt_iload_n dL_law_1372 rfl ?_
  refine zt_iconst dL_law_1373 ?_
  refine zt_iadd dL_law_1374 ?_
  refine zt_sldv (v := h (-1000) (i + 2)) dL_law_1375 hs1 (by omega) (by omega) (by omega) (congrFun eh _) ?_
  refine zt_aload_n dL_law_1376 rfl ?_
  refine zt_iload_n dL_law_1377 rfl ?_
  refine zt_iconst dL_law_1378 ?_
  refine zt_iadd dL_law_1379 ?_
  refine zt_sldv (v := h (-1000) (i + 3)) dL_law_1380 hs1 (by omega) (by omega) (by omega) (congrFun eh _) ?_
  refine zt_callV3q dL_law_1381 ml_L_161 h38 (Nat.le_of_ble_eq_true rfl) hM ?_
  intro r2 n2 sh2 h2 hq2
  obtain ⟨rfl, ⟨es2, eh2⟩, hI2⟩ := hE _ _ _ _ hq2
  simp only [Option.toList, List.cons_append, List.nil_append]
  refine zt_icmp_same (tgt := 1501) dL_law_1384 (by decide) ?_
  refine zt_iinc_3 dL_law_1501 (by decide) rfl ?_
  refine zt_goto (tgt := 18) dL_law_1504 (by decide) ?_
  exact ih (i + 6) (q + 1) n2 sh2 h2 (by omega) (by omega) (by omega) hI2 (by omega) (es2.trans hs) (eh2.trans hsc)

set_option maxRecDepth 100000 in
set_option maxHeartbeats 4000000 in
theorem lw_c35 {L k n : Nat} {sh : zSh} {h : zMem} {scr : Int → Int} {i q : Int} (hL : L ≤ 3072) (ih : lwH L scr k) (hk : (L : Int) - i < 6 * (k + 1 : Nat) + 6) (h0 : 0 ≤ i) (hi : i + 6 ≤ L) (hI : INV q n sh h) (hq : q + (k + 1 : Nat) ≤ 515) (hs : sh (-1000) = (160, L)) (hsc : h (-1000) = scr) : zT yL_law cL_law 4 (some .boolean) 71 (12 * (k + 1)) (8400 * (k + 1)) lwQ 1389 [some (2, -1000), some (2, 0), some (2, 38), some (0, i)] [] n sh h := by
  refine zt_aload_n dL_law_1389 rfl ?_
  refine zt_aload_n dL_law_1390 rfl ?_
  refine zt_iload_n dL_law_1391 rfl ?_
  refine zt_iconst dL_law_1392 ?_
  refine zt_iadd dL_law_1393 ?_
  refine zt_sld dL_law_1394 hs (by omega) (by omega) (by omega) (fun z1 => ?_)
  refine zt_room (kc' := 12 * k + 0) (ks' := 8400 * k + 0) (by omega) (by omega) ?_
  obtain ⟨Qc, hA, hB⟩ := op_shared hI (by omega) z1
  refine zt_callV1q dL_law_1395 ml_L_162 (zs_0 hI.1.1) (Nat.le_of_ble_eq_true rfl) hA ?_
  intro r n1 sh1 h1 hq1
  obtain ⟨⟨es, eh⟩, v, rfl, Qm, hM, hE⟩ := hB _ _ _ _ hq1
  have hs1 : sh1 (-1000) = (160, L) := (congrArg Prod.fst es).trans hs
  have h38 : sh1 38 = (11, 64) := (congrArg Prod.snd es).trans (zs_38 hI.1.1)
  simp only [Option.toList, List.cons_append, List.nil_append]
  refine zt_aload_n dL_law_1398 rfl ?_
  refine zt_aload_n dL_law_1399 rfl ?_
  refine zt_iload_n dL_law_1400 rfl ?_
  refine zt_iconst dL_law_1401 ?_
  refine zt_iadd dL_law_1402 ?_
  refine zt_sldv (v := h (-1000) (i + 1)) dL_law_1403 hs1 (by omega) (by omega) (by omega) (congrFun eh _) ?_
  refine zt_callV1q dL_law_1404 ml_L_165 h38 (Nat.le_of_ble_eq_true rfl) hM ?_
  intro r2 n2 sh2 h2 hq2
  obtain ⟨rfl, ⟨es2, eh2⟩, hI2⟩ := hE _ _ _ _ hq2
  simp only [Option.toList, List.cons_append, List.nil_append]
  refine zt_icmp_same (tgt := 1501) dL_law_1407 (by decide) ?_
  refine zt_iinc_3 dL_law_1501 (by decide) rfl ?_
  refine zt_goto (tgt := 18) dL_law_1504 (by decide) ?_
  exact ih (i + 6) (q + 1) n2 sh2 h2 (by omega) (by omega) (by omega) hI2 (by omega) (es2.trans hs) (eh2.trans hsc)

set_option maxRecDepth 100000 in
set_option maxHeartbeats 4000000 in
theorem lw_c36 {L k n : Nat} {sh : zSh} {h : zMem} {scr : Int → Int} {i q : Int} (hL : L ≤ 3072) (ih : lwH L scr k) (hk : (L : Int) - i < 6 * (k + 1 : Nat) + 6) (h0 : 0 ≤ i) (hi : i + 6 ≤ L) (hI : INV q n sh h) (hq : q + (k + 1 : Nat) ≤ 515) (hs : sh (-1000) = (160, L)) (hsc : h (-1000) = scr) : zT yL_law cL_law 4 (some .boolean) 71 (12 * (k + 1)) (8400 * (k + 1)) lwQ 1412 [some (2, -1000), some (2, 0), some (2, 38), some (0, i)] [] n sh h := by
  refine zt_aload_n dL_law_1412 rfl ?_
  refine zt_aload_n dL_law_1413 rfl ?_
  refine zt_iload_n dL_law_1414 rfl ?_
  refine zt_iconst dL_law_1415 ?_
  refine zt_iadd dL_law_1416 ?_
  refine zt_sld dL_law_1417 hs (by omega) (by omega) (by omega) (fun z1 => ?_)
  refine zt_room (kc' := 12 * k + 0) (ks' := 8400 * k + 0) (by omega) (by omega) ?_
  obtain ⟨Qc, hA, hB⟩ := op_copied hI (by omega) z1
  refine zt_callV1q dL_law_1418 ml_L_166 (zs_0 hI.1.1) (Nat.le_of_ble_eq_true rfl) hA ?_
  intro r n1 sh1 h1 hq1
  obtain ⟨⟨es, eh⟩, v, rfl, Qm, hM, hE⟩ := hB _ _ _ _ hq1
  have hs1 : sh1 (-1000) = (160, L) := (congrArg Prod.fst es).trans hs
  have h38 : sh1 38 = (11, 64) := (congrArg Prod.snd es).trans (zs_38 hI.1.1)
  simp only [Option.toList, List.cons_append, List.nil_append]
  refine zt_aload_n dL_law_1421 rfl ?_
  refine zt_aload_n dL_law_1422 rfl ?_
  refine zt_iload_n dL_law_1423 rfl ?_
  refine zt_iconst dL_law_1424 ?_
  refine zt_iadd dL_law_1425 ?_
  refine zt_sldv (v := h (-1000) (i + 1)) dL_law_1426 hs1 (by omega) (by omega) (by omega) (congrFun eh _) ?_
  refine zt_callV1q dL_law_1427 ml_L_169 h38 (Nat.le_of_ble_eq_true rfl) hM ?_
  intro r2 n2 sh2 h2 hq2
  obtain ⟨rfl, ⟨es2, eh2⟩, hI2⟩ := hE _ _ _ _ hq2
  simp only [Option.toList, List.cons_append, List.nil_append]
  refine zt_icmp_same (tgt := 1501) dL_law_1430 (by decide) ?_
  refine zt_iinc_3 dL_law_1501 (by decide) rfl ?_
  refine zt_goto (tgt := 18) dL_law_1504 (by decide) ?_
  exact ih (i + 6) (q + 1) n2 sh2 h2 (by omega) (by omega) (by omega) hI2 (by omega) (es2.trans hs) (eh2.trans hsc)

set_option maxRecDepth 100000 in
set_option maxHeartbeats 4000000 in
theorem lw_c37 {L k n : Nat} {sh : zSh} {h : zMem} {scr : Int → Int} {i q : Int} (hL : L ≤ 3072) (ih : lwH L scr k) (hk : (L : Int) - i < 6 * (k + 1 : Nat) + 6) (h0 : 0 ≤ i) (hi : i + 6 ≤ L) (hI : INV q n sh h) (hq : q + (k + 1 : Nat) ≤ 515) (hs : sh (-1000) = (160, L)) (hsc : h (-1000) = scr) : zT yL_law cL_law 4 (some .boolean) 71 (12 * (k + 1)) (8400 * (k + 1)) lwQ 1435 [some (2, -1000), some (2, 0), some (2, 38), some (0, i)] [] n sh h := by
  refine zt_aload_n dL_law_1435 rfl ?_
  refine zt_aload_n dL_law_1436 rfl ?_
  refine zt_iload_n dL_law_1437 rfl ?_
  refine zt_iconst dL_law_1438 ?_
  refine zt_iadd dL_law_1439 ?_
  refine zt_sld dL_law_1440 hs (by omega) (by omega) (by omega) (fun z1 => ?_)
  refine zt_aload_n dL_law_1441 rfl ?_
  refine zt_iload_n dL_law_1442 rfl ?_
  refine zt_iconst dL_law_1443 ?_
  refine zt_iadd dL_law_1444 ?_
  refine zt_sld dL_law_1445 hs (by omega) (by omega) (by omega) (fun z2 => ?_)
  refine zt_aload_n dL_law_1446 rfl ?_
  refine zt_iload_n dL_law_1447 rfl ?_
  refine zt_iconst dL_law_1448 ?_
  refine zt_iadd dL_law_1449 ?_
  refine zt_sld dL_law_1450 hs (by omega) (by omega) (by omega) (fun z3 => ?_)
  refine zt_room (kc' := 12 * k + 0) (ks' := 8400 * k + 0) (by omega) (by omega) ?_
  obtain ⟨Qc, hA, hB⟩ := op_lead hI (by omega) z1 z2 z3
  refine zt_callV3q dL_law_1451 ml_L_170 (zs_0 hI.1.1) (Nat.le_of_ble_eq_true rfl) hA ?_
  intro r n1 sh1 h1 hq1
  obtain ⟨⟨es, eh⟩, v, rfl, Qm, hM, hE⟩ := hB _ _ _ _ hq1
  have hs1 : sh1 (-1000) = (160, L) := (congrArg Prod.fst es).trans hs
  have h38 : sh1 38 = (11, 64) := (congrArg Prod.snd es).trans (zs_38 hI.1.1)
  simp only [Option.toList, List.cons_append, List.nil_append]
  refine zt_aload_n dL_law_1454 rfl ?_
  refine zt_aload_n dL_law_1455 rfl ?_
  refine zt_iload_n dL_law_1456 rfl ?_
  refine zt_iconst dL_law_1457 ?_
  refine zt_iadd dL_law_1458 ?_
  refine zt_sldv (v := h (-1000) (i + 1)) dL_law_1459 hs1 (by omega) (by omega) (by omega) (congrFun eh _) ?_
  refine zt_aload_n dL_law_1460 rfl ?_
  refine zt_iload_n dL_law_1461 rfl ?_
  refine zt_iconst dL_law_1462 ?_
  refine zt_iadd dL_law_1463 ?_
  refine zt_sldv (v := h (-1000) (i + 2)) dL_law_1464 hs1 (by omega) (by omega) (by omega) (congrFun eh _) ?_
  refine zt_aload_n dL_law_1465 rfl ?_
  refine zt_iload_n dL_law_1466 rfl ?_
  refine zt_iconst dL_law_1467 ?_
  refine zt_iadd dL_law_1468 ?_
  refine zt_sldv (v := h (-1000) (i + 3)) dL_law_1469 hs1 (by omega) (by omega) (by omega) (congrFun eh _) ?_
  refine zt_callV3q dL_law_1470 ml_L_173 h38 (Nat.le_of_ble_eq_true rfl) hM ?_
  intro r2 n2 sh2 h2 hq2
  obtain ⟨rfl, ⟨es2, eh2⟩, hI2⟩ := hE _ _ _ _ hq2
  simp only [Option.toList, List.cons_append, List.nil_append]
  refine zt_icmp_same (tgt := 1501) dL_law_1473 (by decide) ?_
  refine zt_iinc_3 dL_law_1501 (by decide) rfl ?_
  refine zt_goto (tgt := 18) dL_law_1504 (by decide) ?_
  exact ih (i + 6) (q + 1) n2 sh2 h2 (by omega) (by omega) (by omega) hI2 (by omega) (es2.trans hs) (eh2.trans hsc)

set_option maxRecDepth 100000 in
set_option maxHeartbeats 4000000 in
theorem lw_c38 {L k n : Nat} {sh : zSh} {h : zMem} {scr : Int → Int} {i q : Int} (hL : L ≤ 3072) (ih : lwH L scr k) (hk : (L : Int) - i < 6 * (k + 1 : Nat) + 6) (h0 : 0 ≤ i) (hi : i + 6 ≤ L) (hI : INV q n sh h) (hq : q + (k + 1 : Nat) ≤ 515) (hs : sh (-1000) = (160, L)) (hsc : h (-1000) = scr) : zT yL_law cL_law 4 (some .boolean) 71 (12 * (k + 1)) (8400 * (k + 1)) lwQ 1478 [some (2, -1000), some (2, 0), some (2, 38), some (0, i)] [] n sh h := by
  refine zt_aload_n dL_law_1478 rfl ?_
  refine zt_aload_n dL_law_1479 rfl ?_
  refine zt_iload_n dL_law_1480 rfl ?_
  refine zt_iconst dL_law_1481 ?_
  refine zt_iadd dL_law_1482 ?_
  refine zt_sld dL_law_1483 hs (by omega) (by omega) (by omega) (fun z1 => ?_)
  refine zt_room (kc' := 12 * k + 0) (ks' := 8400 * k + 0) (by omega) (by omega) ?_
  obtain ⟨Qc, hA, hB⟩ := op_count hI (by omega) z1
  refine zt_callV1q dL_law_1484 ml_L_174 (zs_0 hI.1.1) (Nat.le_of_ble_eq_true rfl) hA ?_
  intro r n1 sh1 h1 hq1
  obtain ⟨⟨es, eh⟩, v, rfl, Qm, hM, hE⟩ := hB _ _ _ _ hq1
  have hs1 : sh1 (-1000) = (160, L) := (congrArg Prod.fst es).trans hs
  have h38 : sh1 38 = (11, 64) := (congrArg Prod.snd es).trans (zs_38 hI.1.1)
  simp only [Option.toList, List.cons_append, List.nil_append]
  refine zt_aload_n dL_law_1487 rfl ?_
  refine zt_aload_n dL_law_1488 rfl ?_
  refine zt_iload_n dL_law_1489 rfl ?_
  refine zt_iconst dL_law_1490 ?_
  refine zt_iadd dL_law_1491 ?_
  refine zt_sldv (v := h (-1000) (i + 1)) dL_law_1492 hs1 (by omega) (by omega) (by omega) (congrFun eh _) ?_
  refine zt_callV1q dL_law_1493 ml_L_177 h38 (Nat.le_of_ble_eq_true rfl) hM ?_
  intro r2 n2 sh2 h2 hq2
  obtain ⟨rfl, ⟨es2, eh2⟩, hI2⟩ := hE _ _ _ _ hq2
  simp only [Option.toList, List.cons_append, List.nil_append]
  refine zt_icmp_same (tgt := 1501) dL_law_1496 (by decide) ?_
  refine zt_iinc_3 dL_law_1501 (by decide) rfl ?_
  refine zt_goto (tgt := 18) dL_law_1504 (by decide) ?_
  exact ih (i + 6) (q + 1) n2 sh2 h2 (by omega) (by omega) (by omega) hI2 (by omega) (es2.trans hs) (eh2.trans hsc)

