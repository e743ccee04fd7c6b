theorem d_ESC_propertyOf_47 : decode b_ESC_propertyOf 47 = .ok (.areturn, 1) := by decide +kernel
theorem d_ESC_propertyOf_48 : decode b_ESC_propertyOf 48 = .ok (.getstatic 52, 3) := by decide +kernel
theorem d_ESC_propertyOf_51 : decode b_ESC_propertyOf 51 = .ok (.areturn, 1) := by decide +kernel
theorem d_ESC_propertyOf_52 : decode b_ESC_propertyOf 52 = .ok (.getstatic 55, 3) := by decide +kernel
theorem d_ESC_propertyOf_55 : decode b_ESC_propertyOf 55 = .ok (.areturn, 1) := by decide +kernel
theorem d_ESC_propertyOf_56 : decode b_ESC_propertyOf 56 = .ok (.getstatic 58, 3) := by decide +kernel
theorem d_ESC_propertyOf_59 : decode b_ESC_propertyOf 59 = .ok (.areturn, 1) := by decide +kernel
theorem d_ESC_propertyOf_60 : decode b_ESC_propertyOf 60 = .ok (.getstatic 18, 3) := by decide +kernel
theorem d_ESC_propertyOf_63 : decode b_ESC_propertyOf 63 = .ok (.areturn, 1) := by decide +kernel
theorem d_ESC_readProperty_0 : decode b_ESC_readProperty 0 = .ok (.aload_n 0, 1) := by decide +kernel
theorem d_ESC_readProperty_1 : decode b_ESC_readProperty 1 = .ok (.getfield 32, 3) := by decide +kernel
theorem d_ESC_readProperty_4 : decode b_ESC_readProperty 4 = .ok (.iload_n 1, 1) := by decide +kernel
theorem d_ESC_readProperty_5 : decode b_ESC_readProperty 5 = .ok (.iconst 2, 1) := by decide +kernel
theorem d_ESC_readProperty_6 : decode b_ESC_readProperty 6 = .ok (.iadd, 1) := by decide +kernel
theorem d_ESC_readProperty_7 : decode b_ESC_readProperty 7 = .ok (.invokevirtual 61, 3) := by decide +kernel
theorem d_ESC_readProperty_10 : decode b_ESC_readProperty 10 = .ok (.istore_n 3, 1) := by decide +kernel
theorem d_ESC_readProperty_11 : decode b_ESC_readProperty 11 = .ok (.iload_n 3, 1) := by decide +kernel
theorem d_ESC_readProperty_12 : decode b_ESC_readProperty 12 = .ok (.iconst (-1), 1) := by decide +kernel
theorem d_ESC_readProperty_13 : decode b_ESC_readProperty 13 = .ok (.if_icmp .ne 5, 3) := by decide +kernel
theorem d_ESC_readProperty_16 : decode b_ESC_readProperty 16 = .ok (.iconst 5, 1) := by decide +kernel
theorem d_ESC_readProperty_17 : decode b_ESC_readProperty 17 = .ok (.ireturn, 1) := by decide +kernel
theorem d_ESC_readProperty_18 : decode b_ESC_readProperty 18 = .ok (.iload_n 3, 1) := by decide +kernel
theorem d_ESC_readProperty_19 : decode b_ESC_readProperty 19 = .ok (.invokestatic 92, 3) := by decide +kernel
theorem d_ESC_readProperty_22 : decode b_ESC_readProperty 22 = .ok (.arraylength, 1) := by decide +kernel
theorem d_ESC_readProperty_23 : decode b_ESC_readProperty 23 = .ok (.ifCond .ne 6, 3) := by decide +kernel
theorem d_ESC_readProperty_26 : decode b_ESC_readProperty 26 = .ok (.bipush 7, 2) := by decide +kernel
theorem d_ESC_readProperty_28 : decode b_ESC_readProperty 28 = .ok (.ireturn, 1) := by decide +kernel
theorem d_ESC_readProperty_29 : decode b_ESC_readProperty 29 = .ok (.aload_n 0, 1) := by decide +kernel
theorem d_ESC_readProperty_30 : decode b_ESC_readProperty 30 = .ok (.iload_n 1, 1) := by decide +kernel
theorem d_ESC_readProperty_31 : decode b_ESC_readProperty 31 = .ok (.iconst 3, 1) := by decide +kernel
theorem d_ESC_readProperty_32 : decode b_ESC_readProperty 32 = .ok (.iadd, 1) := by decide +kernel
theorem d_ESC_readProperty_33 : decode b_ESC_readProperty 33 = .ok (.putfield 29, 3) := by decide +kernel
theorem d_ESC_readProperty_36 : decode b_ESC_readProperty 36 = .ok (.aload_n 0, 1) := by decide +kernel
theorem d_ESC_readProperty_37 : decode b_ESC_readProperty 37 = .ok (.iload_n 3, 1) := by decide +kernel
theorem d_ESC_readProperty_38 : decode b_ESC_readProperty 38 = .ok (.invokestatic 92, 3) := by decide +kernel
theorem d_ESC_readProperty_41 : decode b_ESC_readProperty 41 = .ok (.iload_n 2, 1) := by decide +kernel
theorem d_ESC_readProperty_42 : decode b_ESC_readProperty 42 = .ok (.invokevirtual 74, 3) := by decide +kernel
theorem d_ESC_readProperty_45 : decode b_ESC_readProperty 45 = .ok (.ireturn, 1) := by decide +kernel
theorem d_ESC_readEscape_0 : decode b_ESC_readEscape 0 = .ok (.aload_n 0, 1) := by decide +kernel
theorem d_ESC_readEscape_1 : decode b_ESC_readEscape 1 = .ok (.getfield 32, 3) := by decide +kernel
theorem d_ESC_readEscape_4 : decode b_ESC_readEscape 4 = .ok (.iload_n 1, 1) := by decide +kernel
theorem d_ESC_readEscape_5 : decode b_ESC_readEscape 5 = .ok (.iconst 1, 1) := by decide +kernel
theorem d_ESC_readEscape_6 : decode b_ESC_readEscape 6 = .ok (.iadd, 1) := by decide +kernel
theorem d_ESC_readEscape_7 : decode b_ESC_readEscape 7 = .ok (.invokevirtual 61, 3) := by decide +kernel
theorem d_ESC_readEscape_10 : decode b_ESC_readEscape 10 = .ok (.istore_n 2, 1) := by decide +kernel
theorem d_ESC_readEscape_11 : decode b_ESC_readEscape 11 = .ok (.aload_n 0, 1) := by decide +kernel
theorem d_ESC_readEscape_12 : decode b_ESC_readEscape 12 = .ok (.iload_n 1, 1) := by decide +kernel
theorem d_ESC_readEscape_13 : decode b_ESC_readEscape 13 = .ok (.iconst 2, 1) := by decide +kernel
theorem d_ESC_readEscape_14 : decode b_ESC_readEscape 14 = .ok (.iadd, 1) := by decide +kernel
theorem d_ESC_readEscape_15 : decode b_ESC_readEscape 15 = .ok (.putfield 29, 3) := by decide +kernel
theorem d_ESC_readEscape_18 : decode b_ESC_readEscape 18 = .ok (.iload_n 2, 1) := by decide +kernel
theorem d_ESC_readEscape_19 : decode b_ESC_readEscape 19 = .ok (.tableswitch 371 65 122 #[245, 266, 273, 344, 371, 371, 371, 371, 371, 371, 371, 371, 371, 371, 371, 354, 371, 371, 344, 371, 371, 371, 344, 371, 371, 371, 371, 371, 371, 371, 371, 371, 280, 259, 371, 334, 371, 288, 371, 371, 371, 371, 371, 371, 371, 296, 371, 354, 371, 304, 334, 312, 371, 320, 334, 328, 371, 252], 245) := by decide +kernel
theorem d_ESC_readEscape_264 : decode b_ESC_readEscape 264 = .ok (.aload_n 0, 1) := by decide +kernel
theorem d_ESC_readEscape_265 : decode b_ESC_readEscape 265 = .ok (.iconst 3, 1) := by decide +kernel
theorem d_ESC_readEscape_266 : decode b_ESC_readEscape 266 = .ok (.iconst 0, 1) := by decide +kernel
theorem d_ESC_readEscape_267 : decode b_ESC_readEscape 267 = .ok (.invokevirtual 67, 3) := by decide +kernel
theorem d_ESC_readEscape_270 : decode b_ESC_readEscape 270 = .ok (.ireturn, 1) := by decide +kernel
theorem d_ESC_readEscape_271 : decode b_ESC_readEscape 271 = .ok (.aload_n 0, 1) := by decide +kernel
theorem d_ESC_readEscape_272 : decode b_ESC_readEscape 272 = .ok (.iconst 3, 1) := by decide +kernel
theorem d_ESC_readEscape_273 : decode b_ESC_readEscape 273 = .ok (.iconst 1, 1) := by decide +kernel
theorem d_ESC_readEscape_274 : decode b_ESC_readEscape 274 = .ok (.invokevirtual 67, 3) := by decide +kernel
theorem d_ESC_readEscape_277 : decode b_ESC_readEscape 277 = .ok (.ireturn, 1) := by decide +kernel
theorem d_ESC_readEscape_278 : decode b_ESC_readEscape 278 = .ok (.aload_n 0, 1) := by decide +kernel
theorem d_ESC_readEscape_279 : decode b_ESC_readEscape 279 = .ok (.iconst 3, 1) := by decide +kernel
theorem d_ESC_readEscape_280 : decode b_ESC_readEscape 280 = .ok (.iconst 4, 1) := by decide +kernel
theorem d_ESC_readEscape_281 : decode b_ESC_readEscape 281 = .ok (.invokevirtual 67, 3) := by decide +kernel
theorem d_ESC_readEscape_284 : decode b_ESC_readEscape 284 = .ok (.ireturn, 1) := by decide +kernel
theorem d_ESC_readEscape_285 : decode b_ESC_readEscape 285 = .ok (.aload_n 0, 1) := by decide +kernel
theorem d_ESC_readEscape_286 : decode b_ESC_readEscape 286 = .ok (.iconst 3, 1) := by decide +kernel
theorem d_ESC_readEscape_287 : decode b_ESC_readEscape 287 = .ok (.iconst 5, 1) := by decide +kernel
theorem d_ESC_readEscape_288 : decode b_ESC_readEscape 288 = .ok (.invokevirtual 67, 3) := by decide +kernel
theorem d_ESC_readEscape_291 : decode b_ESC_readEscape 291 = .ok (.ireturn, 1) := by decide +kernel
theorem d_ESC_readEscape_292 : decode b_ESC_readEscape 292 = .ok (.aload_n 0, 1) := by decide +kernel
theorem d_ESC_readEscape_293 : decode b_ESC_readEscape 293 = .ok (.iconst 2, 1) := by decide +kernel
theorem d_ESC_readEscape_294 : decode b_ESC_readEscape 294 = .ok (.iconst (-1), 1) := by decide +kernel
theorem d_ESC_readEscape_295 : decode b_ESC_readEscape 295 = .ok (.invokevirtual 67, 3) := by decide +kernel
theorem d_ESC_readEscape_298 : decode b_ESC_readEscape 298 = .ok (.ireturn, 1) := by decide +kernel
theorem d_ESC_readEscape_299 : decode b_ESC_readEscape 299 = .ok (.aload_n 0, 1) := by decide +kernel
theorem d_ESC_readEscape_300 : decode b_ESC_readEscape 300 = .ok (.iconst 0, 1) := by decide +kernel
theorem d_ESC_readEscape_301 : decode b_ESC_readEscape 301 = .ok (.bipush 7, 2) := by decide +kernel
theorem d_ESC_readEscape_303 : decode b_ESC_readEscape 303 = .ok (.invokevirtual 67, 3) := by decide +kernel
theorem d_ESC_readEscape_306 : decode b_ESC_readEscape 306 = .ok (.ireturn, 1) := by decide +kernel
theorem d_ESC_readEscape_307 : decode b_ESC_readEscape 307 = .ok (.aload_n 0, 1) := by decide +kernel
theorem d_ESC_readEscape_308 : decode b_ESC_readEscape 308 = .ok (.iconst 0, 1) := by decide +kernel
theorem d_ESC_readEscape_309 : decode b_ESC_readEscape 309 = .ok (.bipush 12, 2) := by decide +kernel
theorem d_ESC_readEscape_311 : decode b_ESC_readEscape 311 = .ok (.invokevirtual 67, 3) := by decide +kernel
theorem d_ESC_readEscape_314 : decode b_ESC_readEscape 314 = .ok (.ireturn, 1) := by decide +kernel
theorem d_ESC_readEscape_315 : decode b_ESC_readEscape 315 = .ok (.aload_n 0, 1) := by decide +kernel
theorem d_ESC_readEscape_316 : decode b_ESC_readEscape 316 = .ok (.iconst 0, 1) := by decide +kernel
theorem d_ESC_readEscape_317 : decode b_ESC_readEscape 317 = .ok (.bipush 10, 2) := by decide +kernel
theorem d_ESC_readEscape_319 : decode b_ESC_readEscape 319 = .ok (.invokevirtual 67, 3) := by decide +kernel
theorem d_ESC_readEscape_322 : decode b_ESC_readEscape 322 = .ok (.ireturn, 1) := by decide +kernel
theorem d_ESC_readEscape_323 : decode b_ESC_readEscape 323 = .ok (.aload_n 0, 1) := by decide +kernel
theorem d_ESC_readEscape_324 : decode b_ESC_readEscape 324 = .ok (.iconst 0, 1) := by decide +kernel
theorem d_ESC_readEscape_325 : decode b_ESC_readEscape 325 = .ok (.bipush 13, 2) := by decide +kernel
theorem d_ESC_readEscape_327 : decode b_ESC_readEscape 327 = .ok (.invokevirtual 67, 3) := by decide +kernel
theorem d_ESC_readEscape_330 : decode b_ESC_readEscape 330 = .ok (.ireturn, 1) := by decide +kernel
theorem d_ESC_readEscape_331 : decode b_ESC_readEscape 331 = .ok (.aload_n 0, 1) := by decide +kernel
theorem d_ESC_readEscape_332 : decode b_ESC_readEscape 332 = .ok (.iconst 0, 1) := by decide +kernel
theorem d_ESC_readEscape_333 : decode b_ESC_readEscape 333 = .ok (.bipush 9, 2) := by decide +kernel
theorem d_ESC_readEscape_335 : decode b_ESC_readEscape 335 = .ok (.invokevirtual 67, 3) := by decide +kernel
theorem d_ESC_readEscape_338 : decode b_ESC_readEscape 338 = .ok (.ireturn, 1) := by decide +kernel
theorem d_ESC_readEscape_339 : decode b_ESC_readEscape 339 = .ok (.aload_n 0, 1) := by decide +kernel
theorem d_ESC_readEscape_340 : decode b_ESC_readEscape 340 = .ok (.iconst 0, 1) := by decide +kernel
theorem d_ESC_readEscape_341 : decode b_ESC_readEscape 341 = .ok (.bipush 11, 2) := by decide +kernel
theorem d_ESC_readEscape_343 : decode b_ESC_readEscape 343 = .ok (.invokevirtual 67, 3) := by decide +kernel
theorem d_ESC_readEscape_346 : decode b_ESC_readEscape 346 = .ok (.ireturn, 1) := by decide +kernel
theorem d_ESC_readEscape_347 : decode b_ESC_readEscape 347 = .ok (.aload_n 0, 1) := by decide +kernel
theorem d_ESC_readEscape_348 : decode b_ESC_readEscape 348 = .ok (.iload_n 1, 1) := by decide +kernel
theorem d_ESC_readEscape_349 : decode b_ESC_readEscape 349 = .ok (.invokevirtual 71, 3) := by decide +kernel
theorem d_ESC_readEscape_352 : decode b_ESC_readEscape 352 = .ok (.ireturn, 1) := by decide +kernel
theorem d_ESC_readEscape_353 : decode b_ESC_readEscape 353 = .ok (.aload_n 0, 1) := by decide +kernel
theorem d_ESC_readEscape_354 : decode b_ESC_readEscape 354 = .ok (.iload_n 2, 1) := by decide +kernel
theorem d_ESC_readEscape_355 : decode b_ESC_readEscape 355 = .ok (.invokestatic 36, 3) := by decide +kernel
theorem d_ESC_readEscape_358 : decode b_ESC_readEscape 358 = .ok (.iconst 0, 1) := by decide +kernel
theorem d_ESC_readEscape_359 : decode b_ESC_readEscape 359 = .ok (.invokevirtual 74, 3) := by decide +kernel
theorem d_ESC_readEscape_362 : decode b_ESC_readEscape 362 = .ok (.ireturn, 1) := by decide +kernel
theorem d_ESC_readEscape_363 : decode b_ESC_readEscape 363 = .ok (.aload_n 0, 1) := by decide +kernel
theorem d_ESC_readEscape_364 : decode b_ESC_readEscape 364 = .ok (.iload_n 2, 1) := by decide +kernel
theorem d_ESC_readEscape_365 : decode b_ESC_readEscape 365 = .ok (.invokestatic 36, 3) := by decide +kernel
theorem d_ESC_readEscape_368 : decode b_ESC_readEscape 368 = .ok (.iconst 1, 1) := by decide +kernel
theorem d_ESC_readEscape_369 : decode b_ESC_readEscape 369 = .ok (.invokevirtual 74, 3) := by decide +kernel
theorem d_ESC_readEscape_372 : decode b_ESC_readEscape 372 = .ok (.ireturn, 1) := by decide +kernel
theorem d_ESC_readEscape_373 : decode b_ESC_readEscape 373 = .ok (.aload_n 0, 1) := by decide +kernel
theorem d_ESC_readEscape_374 : decode b_ESC_readEscape 374 = .ok (.iload_n 1, 1) := by decide +kernel
theorem d_ESC_readEscape_375 : decode b_ESC_readEscape 375 = .ok (.iload_n 2, 1) := by decide +kernel
theorem d_ESC_readEscape_376 : decode b_ESC_readEscape 376 = .ok (.bipush 80, 2) := by decide +kernel
theorem d_ESC_readEscape_378 : decode b_ESC_readEscape 378 = .ok (.if_icmp .ne 7, 3) := by decide +kernel
theorem d_ESC_readEscape_381 : decode b_ESC_readEscape 381 = .ok (.iconst 1, 1) := by decide +kernel
theorem d_ESC_readEscape_382 : decode b_ESC_readEscape 382 = .ok (.goto 4, 3) := by decide +kernel
theorem d_ESC_readEscape_385 : decode b_ESC_readEscape 385 = .ok (.iconst 0, 1) := by decide +kernel
theorem d_ESC_readEscape_386 : decode b_ESC_readEscape 386 = .ok (.invokevirtual 78, 3) := by decide +kernel
theorem d_ESC_readEscape_389 : decode b_ESC_readEscape 389 = .ok (.ireturn, 1) := by decide +kernel
theorem d_ESC_readEscape_390 : decode b_ESC_readEscape 390 = .ok (.iload_n 2, 1) := by decide +kernel
theorem d_ESC_readEscape_391 : decode b_ESC_readEscape 391 = .ok (.ifCond .lt 17, 3) := by decide +kernel
theorem d_ESC_readEscape_394 : decode b_ESC_readEscape 394 = .ok (.iload_n 2, 1) := by decide +kernel
theorem d_ESC_readEscape_395 : decode b_ESC_readEscape 395 = .ok (.sipush 128, 3) := by decide +kernel
theorem d_ESC_readEscape_398 : decode b_ESC_readEscape 398 = .ok (.if_icmp .ge 10, 3) := by decide +kernel
theorem d_ESC_readEscape_401 : decode b_ESC_readEscape 401 = .ok (.iload_n 2, 1) := by decide +kernel
theorem d_ESC_readEscape_402 : decode b_ESC_readEscape 402 = .ok (.invokestatic 82, 3) := by decide +kernel
theorem d_ESC_readEscape_405 : decode b_ESC_readEscape 405 = .ok (.ifCond .eq 5, 3) := by decide +kernel
theorem d_ESC_readEscape_408 : decode b_ESC_readEscape 408 = .ok (.iconst 5, 1) := by decide +kernel
theorem d_ESC_readEscape_409 : decode b_ESC_readEscape 409 = .ok (.ireturn, 1) := by decide +kernel
theorem d_ESC_readEscape_410 : decode b_ESC_readEscape 410 = .ok (.aload_n 0, 1) := by decide +kernel
theorem d_ESC_readEscape_411 : decode b_ESC_readEscape 411 = .ok (.iconst 0, 1) := by decide +kernel
theorem d_ESC_readEscape_412 : decode b_ESC_readEscape 412 = .ok (.iload_n 2, 1) := by decide +kernel
theorem d_ESC_readEscape_413 : decode b_ESC_readEscape 413 = .ok (.invokevirtual 67, 3) := by decide +kernel
theorem d_ESC_readEscape_416 : decode b_ESC_readEscape 416 = .ok (.ireturn, 1) := by decide +kernel
theorem d_CLS_refused_0 : decode b_CLS_refused 0 = .ok (.aload_n 0, 1) := by decide +kernel
theorem d_CLS_refused_1 : decode b_CLS_refused 1 = .ok (.getfield 19, 3) := by decide +kernel
theorem d_CLS_refused_4 : decode b_CLS_refused 4 = .ok (.iload_n 1, 1) := by decide +kernel
theorem d_CLS_refused_5 : decode b_CLS_refused 5 = .ok (.iload_n 2, 1) := by decide +kernel
theorem d_CLS_refused_6 : decode b_CLS_refused 6 = .ok (.invokevirtual 152, 3) := by decide +kernel
theorem d_CLS_refused_9 : decode b_CLS_refused 9 = .ok (.iconst (-1), 1) := by decide +kernel
theorem d_CLS_refused_10 : decode b_CLS_refused 10 = .ok (.ireturn, 1) := by decide +kernel
theorem d_SET_addSet_0 : decode b_SET_addSet 0 = .ok (.iconst 0, 1) := by decide +kernel
theorem d_SET_addSet_1 : decode b_SET_addSet 1 = .ok (.istore_n 3, 1) := by decide +kernel
theorem d_SET_addSet_2 : decode b_SET_addSet 2 = .ok (.iconst 0, 1) := by decide +kernel
theorem d_SET_addSet_3 : decode b_SET_addSet 3 = .ok (.istore 4, 2) := by decide +kernel
theorem d_SET_addSet_5 : decode b_SET_addSet 5 = .ok (.iload 4, 2) := by decide +kernel
theorem d_SET_addSet_7 : decode b_SET_addSet 7 = .ok (.iconst 1, 1) := by decide +kernel
theorem d_SET_addSet_8 : decode b_SET_addSet 8 = .ok (.iadd, 1) := by decide +kernel
theorem d_SET_addSet_9 : decode b_SET_addSet 9 = .ok (.aload_n 1, 1) := by decide +kernel
theorem d_SET_addSet_10 : decode b_SET_addSet 10 = .ok (.arraylength, 1) := by decide +kernel
theorem d_SET_addSet_11 : decode b_SET_addSet 11 = .ok (.if_icmp .ge 50, 3) := by decide +kernel
theorem d_SET_addSet_14 : decode b_SET_addSet 14 = .ok (.iload_n 2, 1) := by decide +kernel
theorem d_SET_addSet_15 : decode b_SET_addSet 15 = .ok (.ifCond .eq 17, 3) := by decide +kernel
theorem d_SET_addSet_18 : decode b_SET_addSet 18 = .ok (.aload_n 0, 1) := by decide +kernel
theorem d_SET_addSet_19 : decode b_SET_addSet 19 = .ok (.iload_n 3, 1) := by decide +kernel
theorem d_SET_addSet_20 : decode b_SET_addSet 20 = .ok (.aload_n 1, 1) := by decide +kernel
theorem d_SET_addSet_21 : decode b_SET_addSet 21 = .ok (.iload 4, 2) := by decide +kernel
theorem d_SET_addSet_23 : decode b_SET_addSet 23 = .ok (.iaload, 1) := by decide +kernel
theorem d_SET_addSet_24 : decode b_SET_addSet 24 = .ok (.iconst 1, 1) := by decide +kernel
theorem d_SET_addSet_25 : decode b_SET_addSet 25 = .ok (.isub, 1) := by decide +kernel
theorem d_SET_addSet_26 : decode b_SET_addSet 26 = .ok (.invokevirtual 28, 3) := by decide +kernel
theorem d_SET_addSet_29 : decode b_SET_addSet 29 = .ok (.goto 17, 3) := by decide +kernel
theorem d_SET_addSet_32 : decode b_SET_addSet 32 = .ok (.aload_n 0, 1) := by decide +kernel
theorem d_SET_addSet_33 : decode b_SET_addSet 33 = .ok (.aload_n 1, 1) := by decide +kernel
theorem d_SET_addSet_34 : decode b_SET_addSet 34 = .ok (.iload 4, 2) := by decide +kernel
theorem d_SET_addSet_36 : decode b_SET_addSet 36 = .ok (.iaload, 1) := by decide +kernel
theorem d_SET_addSet_37 : decode b_SET_addSet 37 = .ok (.aload_n 1, 1) := by decide +kernel
theorem d_SET_addSet_38 : decode b_SET_addSet 38 = .ok (.iload 4, 2) := by decide +kernel
theorem d_SET_addSet_40 : decode b_SET_addSet 40 = .ok (.iconst 1, 1) := by decide +kernel
theorem d_SET_addSet_41 : decode b_SET_addSet 41 = .ok (.iadd, 1) := by decide +kernel
theorem d_SET_addSet_42 : decode b_SET_addSet 42 = .ok (.iaload, 1) := by decide +kernel
theorem d_SET_addSet_43 : decode b_SET_addSet 43 = .ok (.invokevirtual 28, 3) := by decide +kernel
theorem d_SET_addSet_46 : decode b_SET_addSet 46 = .ok (.aload_n 1, 1) := by decide +kernel
theorem d_SET_addSet_47 : decode b_SET_addSet 47 = .ok (.iload 4, 2) := by decide +kernel
theorem d_SET_addSet_49 : decode b_SET_addSet 49 = .ok (.iconst 1, 1) := by decide +kernel
theorem d_SET_addSet_50 : decode b_SET_addSet 50 = .ok (.iadd, 1) := by decide +kernel
theorem d_SET_addSet_51 : decode b_SET_addSet 51 = .ok (.iaload, 1) := by decide +kernel
theorem d_SET_addSet_52 : decode b_SET_addSet 52 = .ok (.iconst 1, 1) := by decide +kernel
theorem d_SET_addSet_53 : decode b_SET_addSet 53 = .ok (.iadd, 1) := by decide +kernel
theorem d_SET_addSet_54 : decode b_SET_addSet 54 = .ok (.istore_n 3, 1) := by decide +kernel
theorem d_SET_addSet_55 : decode b_SET_addSet 55 = .ok (.iinc 4 2, 3) := by decide +kernel
theorem d_SET_addSet_58 : decode b_SET_addSet 58 = .ok (.goto (-53), 3) := by decide +kernel
theorem d_SET_addSet_61 : decode b_SET_addSet 61 = .ok (.iload_n 2, 1) := by decide +kernel
theorem d_SET_addSet_62 : decode b_SET_addSet 62 = .ok (.ifCond .eq 10, 3) := by decide +kernel
theorem d_SET_addSet_65 : decode b_SET_addSet 65 = .ok (.aload_n 0, 1) := by decide +kernel
theorem d_SET_addSet_66 : decode b_SET_addSet 66 = .ok (.iload_n 3, 1) := by decide +kernel
theorem d_SET_addSet_67 : decode b_SET_addSet 67 = .ok (.ldc 51, 2) := by decide +kernel
theorem d_SET_addSet_69 : decode b_SET_addSet 69 = .ok (.invokevirtual 28, 3) := by decide +kernel
theorem d_SET_addSet_72 : decode b_SET_addSet 72 = .ok (.return_, 1) := by decide +kernel
theorem d_CLS_readSetEscape_0 : decode b_CLS_readSetEscape 0 = .ok (.aload_n 0, 1) := by decide +kernel
theorem d_CLS_readSetEscape_1 : decode b_CLS_readSetEscape 1 = .ok (.getfield 23, 3) := by decide +kernel
theorem d_CLS_readSetEscape_4 : decode b_CLS_readSetEscape 4 = .ok (.iload_n 1, 1) := by decide +kernel
theorem d_CLS_readSetEscape_5 : decode b_CLS_readSetEscape 5 = .ok (.invokevirtual 80, 3) := by decide +kernel
theorem d_CLS_readSetEscape_8 : decode b_CLS_readSetEscape 8 = .ok (.istore_n 2, 1) := by decide +kernel
theorem d_CLS_readSetEscape_9 : decode b_CLS_readSetEscape 9 = .ok (.iload_n 2, 1) := by decide +kernel
theorem d_CLS_readSetEscape_10 : decode b_CLS_readSetEscape 10 = .ok (.ifCond .eq 10, 3) := by decide +kernel
theorem d_CLS_readSetEscape_13 : decode b_CLS_readSetEscape 13 = .ok (.aload_n 0, 1) := by decide +kernel
theorem d_CLS_readSetEscape_14 : decode b_CLS_readSetEscape 14 = .ok (.iload_n 2, 1) := by decide +kernel
theorem d_CLS_readSetEscape_15 : decode b_CLS_readSetEscape 15 = .ok (.iload_n 1, 1) := by decide +kernel
theorem d_CLS_readSetEscape_16 : decode b_CLS_readSetEscape 16 = .ok (.invokevirtual 60, 3) := by decide +kernel
theorem d_CLS_readSetEscape_19 : decode b_CLS_readSetEscape 19 = .ok (.ireturn, 1) := by decide +kernel
theorem d_CLS_readSetEscape_20 : decode b_CLS_readSetEscape 20 = .ok (.aload_n 0, 1) := by decide +kernel
theorem d_CLS_readSetEscape_21 : decode b_CLS_readSetEscape 21 = .ok (.getfield 27, 3) := by decide +kernel
theorem d_CLS_readSetEscape_24 : decode b_CLS_readSetEscape 24 = .ok (.aload_n 0, 1) := by decide +kernel
theorem d_CLS_readSetEscape_25 : decode b_CLS_readSetEscape 25 = .ok (.getfield 23, 3) := by decide +kernel
theorem d_CLS_readSetEscape_28 : decode b_CLS_readSetEscape 28 = .ok (.getfield 83, 3) := by decide +kernel
theorem d_CLS_readSetEscape_31 : decode b_CLS_readSetEscape 31 = .ok (.aload_n 0, 1) := by decide +kernel
theorem d_CLS_readSetEscape_32 : decode b_CLS_readSetEscape 32 = .ok (.getfield 23, 3) := by decide +kernel
theorem d_CLS_readSetEscape_35 : decode b_CLS_readSetEscape 35 = .ok (.getfield 86, 3) := by decide +kernel
theorem d_CLS_readSetEscape_38 : decode b_CLS_readSetEscape 38 = .ok (.invokevirtual 76, 3) := by decide +kernel
theorem d_CLS_readSetEscape_41 : decode b_CLS_readSetEscape 41 = .ok (.aload_n 0, 1) := by decide +kernel
theorem d_CLS_readSetEscape_42 : decode b_CLS_readSetEscape 42 = .ok (.getfield 23, 3) := by decide +kernel
theorem d_CLS_readSetEscape_45 : decode b_CLS_readSetEscape 45 = .ok (.getfield 90, 3) := by decide +kernel
theorem d_CLS_readSetEscape_48 : decode b_CLS_readSetEscape 48 = .ok (.ireturn, 1) := by decide +kernel
theorem d_PAT_hasText_0 : decode b_PAT_hasText 0 = .ok (.iconst 0, 1) := by decide +kernel
theorem d_PAT_hasText_1 : decode b_PAT_hasText 1 = .ok (.istore_n 3, 1) := by decide +kernel
theorem d_PAT_hasText_2 : decode b_PAT_hasText 2 = .ok (.iload_n 3, 1) := by decide +kernel
theorem d_PAT_hasText_3 : decode b_PAT_hasText 3 = .ok (.aload_n 2, 1) := by decide +kernel
theorem d_PAT_hasText_4 : decode b_PAT_hasText 4 = .ok (.invokevirtual 30, 3) := by decide +kernel
theorem d_PAT_hasText_7 : decode b_PAT_hasText 7 = .ok (.if_icmp .ge 26, 3) := by decide +kernel
theorem d_PAT_hasText_10 : decode b_PAT_hasText 10 = .ok (.aload_n 0, 1) := by decide +kernel
theorem d_PAT_hasText_11 : decode b_PAT_hasText 11 = .ok (.iload_n 1, 1) := by decide +kernel
theorem d_PAT_hasText_12 : decode b_PAT_hasText 12 = .ok (.iload_n 3, 1) := by decide +kernel
theorem d_PAT_hasText_13 : decode b_PAT_hasText 13 = .ok (.iadd, 1) := by decide +kernel
theorem d_PAT_hasText_14 : decode b_PAT_hasText 14 = .ok (.invokevirtual 19, 3) := by decide +kernel
theorem d_PAT_hasText_17 : decode b_PAT_hasText 17 = .ok (.aload_n 2, 1) := by decide +kernel
theorem d_PAT_hasText_18 : decode b_PAT_hasText 18 = .ok (.iload_n 3, 1) := by decide +kernel
theorem d_PAT_hasText_19 : decode b_PAT_hasText 19 = .ok (.invokevirtual 35, 3) := by decide +kernel
theorem d_PAT_hasText_22 : decode b_PAT_hasText 22 = .ok (.if_icmp .eq 5, 3) := by decide +kernel
theorem d_PAT_hasText_25 : decode b_PAT_hasText 25 = .ok (.iconst 0, 1) := by decide +kernel
theorem d_PAT_hasText_26 : decode b_PAT_hasText 26 = .ok (.ireturn, 1) := by decide +kernel
theorem d_PAT_hasText_27 : decode b_PAT_hasText 27 = .ok (.iinc 3 1, 3) := by decide +kernel
theorem d_PAT_hasText_30 : decode b_PAT_hasText 30 = .ok (.goto (-28), 3) := by decide +kernel
theorem d_PAT_hasText_33 : decode b_PAT_hasText 33 = .ok (.iconst 1, 1) := by decide +kernel
theorem d_PAT_hasText_34 : decode b_PAT_hasText 34 = .ok (.ireturn, 1) := by decide +kernel
theorem d_CLS_setNamedAt_0 : decode b_CLS_setNamedAt 0 = .ok (.aload_n 0, 1) := by decide +kernel
theorem d_CLS_setNamedAt_1 : decode b_CLS_setNamedAt 1 = .ok (.getfield 15, 3) := by decide +kernel
theorem d_CLS_setNamedAt_4 : decode b_CLS_setNamedAt 4 = .ok (.iload_n 1, 1) := by decide +kernel
theorem d_CLS_setNamedAt_5 : decode b_CLS_setNamedAt 5 = .ok (.ldc 93, 2) := by decide +kernel
theorem d_CLS_setNamedAt_7 : decode b_CLS_setNamedAt 7 = .ok (.invokevirtual 95, 3) := by decide +kernel
theorem d_CLS_setNamedAt_10 : decode b_CLS_setNamedAt 10 = .ok (.ifCond .eq 7, 3) := by decide +kernel
theorem d_CLS_setNamedAt_13 : decode b_CLS_setNamedAt 13 = .ok (.getstatic 99, 3) := by decide +kernel
theorem d_CLS_setNamedAt_16 : decode b_CLS_setNamedAt 16 = .ok (.areturn, 1) := by decide +kernel
theorem d_CLS_setNamedAt_17 : decode b_CLS_setNamedAt 17 = .ok (.aload_n 0, 1) := by decide +kernel
theorem d_CLS_setNamedAt_18 : decode b_CLS_setNamedAt 18 = .ok (.getfield 15, 3) := by decide +kernel
theorem d_CLS_setNamedAt_21 : decode b_CLS_setNamedAt 21 = .ok (.iload_n 1, 1) := by decide +kernel
theorem d_CLS_setNamedAt_22 : decode b_CLS_setNamedAt 22 = .ok (.ldc 102, 2) := by decide +kernel
theorem d_CLS_setNamedAt_24 : decode b_CLS_setNamedAt 24 = .ok (.invokevirtual 95, 3) := by decide +kernel
theorem d_CLS_setNamedAt_27 : decode b_CLS_setNamedAt 27 = .ok (.ifCond .eq 7, 3) := by decide +kernel
theorem d_CLS_setNamedAt_30 : decode b_CLS_setNamedAt 30 = .ok (.getstatic 104, 3) := by decide +kernel
theorem d_CLS_setNamedAt_33 : decode b_CLS_setNamedAt 33 = .ok (.areturn, 1) := by decide +kernel
theorem d_CLS_setNamedAt_34 : decode b_CLS_setNamedAt 34 = .ok (.aload_n 0, 1) := by decide +kernel
theorem d_CLS_setNamedAt_35 : decode b_CLS_setNamedAt 35 = .ok (.getfield 15, 3) := by decide +kernel
theorem d_CLS_setNamedAt_38 : decode b_CLS_setNamedAt 38 = .ok (.iload_n 1, 1) := by decide +kernel
theorem d_CLS_setNamedAt_39 : decode b_CLS_setNamedAt 39 = .ok (.ldc 107, 2) := by decide +kernel
theorem d_CLS_setNamedAt_41 : decode b_CLS_setNamedAt 41 = .ok (.invokevirtual 95, 3) := by decide +kernel
theorem d_CLS_setNamedAt_44 : decode b_CLS_setNamedAt 44 = .ok (.ifCond .eq 7, 3) := by decide +kernel
theorem d_CLS_setNamedAt_47 : decode b_CLS_setNamedAt 47 = .ok (.getstatic 109, 3) := by decide +kernel
theorem d_CLS_setNamedAt_50 : decode b_CLS_setNamedAt 50 = .ok (.areturn, 1) := by decide +kernel
theorem d_CLS_setNamedAt_51 : decode b_CLS_setNamedAt 51 = .ok (.aload_n 0, 1) := by decide +kernel
theorem d_CLS_setNamedAt_52 : decode b_CLS_setNamedAt 52 = .ok (.getfield 15, 3) := by decide +kernel
theorem d_CLS_setNamedAt_55 : decode b_CLS_setNamedAt 55 = .ok (.iload_n 1, 1) := by decide +kernel
theorem d_CLS_setNamedAt_56 : decode b_CLS_setNamedAt 56 = .ok (.ldc 112, 2) := by decide +kernel
theorem d_CLS_setNamedAt_58 : decode b_CLS_setNamedAt 58 = .ok (.invokevirtual 95, 3) := by decide +kernel
theorem d_CLS_setNamedAt_61 : decode b_CLS_setNamedAt 61 = .ok (.ifCond .eq 7, 3) := by decide +kernel
theorem d_CLS_setNamedAt_64 : decode b_CLS_setNamedAt 64 = .ok (.getstatic 114, 3) := by decide +kernel
theorem d_CLS_setNamedAt_67 : decode b_CLS_setNamedAt 67 = .ok (.areturn, 1) := by decide +kernel
theorem d_CLS_setNamedAt_68 : decode b_CLS_setNamedAt 68 = .ok (.aload_n 0, 1) := by decide +kernel
theorem d_CLS_setNamedAt_69 : decode b_CLS_setNamedAt 69 = .ok (.getfield 15, 3) := by decide +kernel
theorem d_CLS_setNamedAt_72 : decode b_CLS_setNamedAt 72 = .ok (.iload_n 1, 1) := by decide +kernel
theorem d_CLS_setNamedAt_73 : decode b_CLS_setNamedAt 73 = .ok (.ldc 117, 2) := by decide +kernel
theorem d_CLS_setNamedAt_75 : decode b_CLS_setNamedAt 75 = .ok (.invokevirtual 95, 3) := by decide +kernel
theorem d_CLS_setNamedAt_78 : decode b_CLS_setNamedAt 78 = .ok (.ifCond .eq 7, 3) := by decide +kernel
theorem d_CLS_setNamedAt_81 : decode b_CLS_setNamedAt 81 = .ok (.getstatic 119, 3) := by decide +kernel
theorem d_CLS_setNamedAt_84 : decode b_CLS_setNamedAt 84 = .ok (.areturn, 1) := by decide +kernel
theorem d_CLS_setNamedAt_85 : decode b_CLS_setNamedAt 85 = .ok (.aload_n 0, 1) := by decide +kernel
theorem d_CLS_setNamedAt_86 : decode b_CLS_setNamedAt 86 = .ok (.getfield 15, 3) := by decide +kernel
theorem d_CLS_setNamedAt_89 : decode b_CLS_setNamedAt 89 = .ok (.iload_n 1, 1) := by decide +kernel
theorem d_CLS_setNamedAt_90 : decode b_CLS_setNamedAt 90 = .ok (.ldc 122, 2) := by decide +kernel
theorem d_CLS_setNamedAt_92 : decode b_CLS_setNamedAt 92 = .ok (.invokevirtual 95, 3) := by decide +kernel
theorem d_CLS_setNamedAt_95 : decode b_CLS_setNamedAt 95 = .ok (.ifCond .eq 9, 3) := by decide +kernel
theorem d_CLS_setNamedAt_98 : decode b_CLS_setNamedAt 98 = .ok (.getstatic 124, 3) := by decide +kernel
theorem d_CLS_setNamedAt_101 : decode b_CLS_setNamedAt 101 = .ok (.goto 6, 3) := by decide +kernel
theorem d_CLS_setNamedAt_104 : decode b_CLS_setNamedAt 104 = .ok (.getstatic 127, 3) := by decide +kernel
theorem d_CLS_setNamedAt_107 : decode b_CLS_setNamedAt 107 = .ok (.areturn, 1) := by decide +kernel
theorem d_CLS_readSetItem_0 : decode b_CLS_readSetItem 0 = .ok (.aload_n 0, 1) := by decide +kernel
theorem d_CLS_readSetItem_1 : decode b_CLS_readSetItem 1 = .ok (.getfield 15, 3) := by decide +kernel
theorem d_CLS_readSetItem_4 : decode b_CLS_readSetItem 4 = .ok (.iload_n 1, 1) := by decide +kernel
theorem d_CLS_readSetItem_5 : decode b_CLS_readSetItem 5 = .ok (.invokevirtual 31, 3) := by decide +kernel
theorem d_CLS_readSetItem_8 : decode b_CLS_readSetItem 8 = .ok (.bipush 92, 2) := by decide +kernel
theorem d_CLS_readSetItem_10 : decode b_CLS_readSetItem 10 = .ok (.if_icmp .ne 9, 3) := by decide +kernel
theorem d_CLS_readSetItem_13 : decode b_CLS_readSetItem 13 = .ok (.aload_n 0, 1) := by decide +kernel
theorem d_CLS_readSetItem_14 : decode b_CLS_readSetItem 14 = .ok (.iload_n 1, 1) := by decide +kernel
theorem d_CLS_readSetItem_15 : decode b_CLS_readSetItem 15 = .ok (.invokevirtual 69, 3) := by decide +kernel
theorem d_CLS_readSetItem_18 : decode b_CLS_readSetItem 18 = .ok (.ireturn, 1) := by decide +kernel
theorem d_CLS_readSetItem_19 : decode b_CLS_readSetItem 19 = .ok (.aload_n 0, 1) := by decide +kernel
theorem d_CLS_readSetItem_20 : decode b_CLS_readSetItem 20 = .ok (.getfield 15, 3) := by decide +kernel
theorem d_CLS_readSetItem_23 : decode b_CLS_readSetItem 23 = .ok (.iload_n 1, 1) := by decide +kernel
theorem d_CLS_readSetItem_24 : decode b_CLS_readSetItem 24 = .ok (.iconst 2, 1) := by decide +kernel
theorem d_CLS_readSetItem_25 : decode b_CLS_readSetItem 25 = .ok (.iadd, 1) := by decide +kernel
theorem d_CLS_readSetItem_26 : decode b_CLS_readSetItem 26 = .ok (.invokevirtual 31, 3) := by decide +kernel
theorem d_CLS_readSetItem_29 : decode b_CLS_readSetItem 29 = .ok (.bipush 94, 2) := by decide +kernel
theorem d_CLS_readSetItem_31 : decode b_CLS_readSetItem 31 = .ok (.if_icmp .ne 7, 3) := by decide +kernel
theorem d_CLS_readSetItem_34 : decode b_CLS_readSetItem 34 = .ok (.iconst 1, 1) := by decide +kernel
theorem d_CLS_readSetItem_35 : decode b_CLS_readSetItem 35 = .ok (.goto 4, 3) := by decide +kernel
theorem d_CLS_readSetItem_38 : decode b_CLS_readSetItem 38 = .ok (.iconst 0, 1) := by decide +kernel
theorem d_CLS_readSetItem_39 : decode b_CLS_readSetItem 39 = .ok (.istore_n 2, 1) := by decide +kernel
theorem d_CLS_readSetItem_40 : decode b_CLS_readSetItem 40 = .ok (.iload_n 2, 1) := by decide +kernel
theorem d_CLS_readSetItem_41 : decode b_CLS_readSetItem 41 = .ok (.ifCond .eq 9, 3) := by decide +kernel
theorem d_CLS_readSetItem_44 : decode b_CLS_readSetItem 44 = .ok (.iload_n 1, 1) := by decide +kernel
theorem d_CLS_readSetItem_45 : decode b_CLS_readSetItem 45 = .ok (.iconst 3, 1) := by decide +kernel
theorem d_CLS_readSetItem_46 : decode b_CLS_readSetItem 46 = .ok (.iadd, 1) := by decide +kernel
theorem d_CLS_readSetItem_47 : decode b_CLS_readSetItem 47 = .ok (.goto 6, 3) := by decide +kernel
theorem d_CLS_readSetItem_50 : decode b_CLS_readSetItem 50 = .ok (.iload_n 1, 1) := by decide +kernel
theorem d_CLS_readSetItem_51 : decode b_CLS_readSetItem 51 = .ok (.iconst 2, 1) := by decide +kernel
theorem d_CLS_readSetItem_52 : decode b_CLS_readSetItem 52 = .ok (.iadd, 1) := by decide +kernel
theorem d_CLS_readSetItem_53 : decode b_CLS_readSetItem 53 = .ok (.istore_n 3, 1) := by decide +kernel
theorem d_CLS_readSetItem_54 : decode b_CLS_readSetItem 54 = .ok (.aload_n 0, 1) := by decide +kernel
theorem d_CLS_readSetItem_55 : decode b_CLS_readSetItem 55 = .ok (.iload_n 3, 1) := by decide +kernel
theorem d_CLS_readSetItem_56 : decode b_CLS_readSetItem 56 = .ok (.invokevirtual 72, 3) := by decide +kernel
theorem d_CLS_readSetItem_59 : decode b_CLS_readSetItem 59 = .ok (.astore 4, 2) := by decide +kernel
theorem d_CLS_readSetItem_61 : decode b_CLS_readSetItem 61 = .ok (.aload 4, 2) := by decide +kernel
theorem d_CLS_readSetItem_63 : decode b_CLS_readSetItem 63 = .ok (.arraylength, 1) := by decide +kernel
theorem d_CLS_readSetItem_64 : decode b_CLS_readSetItem 64 = .ok (.ifCond .ne 11, 3) := by decide +kernel
theorem d_CLS_readSetItem_67 : decode b_CLS_readSetItem 67 = .ok (.aload_n 0, 1) := by decide +kernel
theorem d_CLS_readSetItem_68 : decode b_CLS_readSetItem 68 = .ok (.bipush 7, 2) := by decide +kernel
theorem d_CLS_readSetItem_70 : decode b_CLS_readSetItem 70 = .ok (.iload_n 1, 1) := by decide +kernel
theorem d_CLS_readSetItem_71 : decode b_CLS_readSetItem 71 = .ok (.invokevirtual 60, 3) := by decide +kernel
theorem d_CLS_readSetItem_74 : decode b_CLS_readSetItem 74 = .ok (.ireturn, 1) := by decide +kernel
theorem d_CLS_readSetItem_75 : decode b_CLS_readSetItem 75 = .ok (.aload_n 0, 1) := by decide +kernel
theorem d_CLS_readSetItem_76 : decode b_CLS_readSetItem 76 = .ok (.getfield 27, 3) := by decide +kernel
theorem d_CLS_readSetItem_79 : decode b_CLS_readSetItem 79 = .ok (.aload 4, 2) := by decide +kernel
theorem d_CLS_readSetItem_81 : decode b_CLS_readSetItem 81 = .ok (.iload_n 2, 1) := by decide +kernel
theorem d_CLS_readSetItem_82 : decode b_CLS_readSetItem 82 = .ok (.invokevirtual 76, 3) := by decide +kernel
theorem d_CLS_readSetItem_85 : decode b_CLS_readSetItem 85 = .ok (.iload_n 3, 1) := by decide +kernel
theorem d_CLS_readSetItem_86 : decode b_CLS_readSetItem 86 = .ok (.bipush 7, 2) := by decide +kernel
theorem d_CLS_readSetItem_88 : decode b_CLS_readSetItem 88 = .ok (.iadd, 1) := by decide +kernel
theorem d_CLS_readSetItem_89 : decode b_CLS_readSetItem 89 = .ok (.ireturn, 1) := by decide +kernel
theorem d_PN_widthOf_0 : decode b_PN_widthOf 0 = .ok (.iload_n 0, 1) := by decide +kernel
theorem d_PN_widthOf_1 : decode b_PN_widthOf 1 = .ok (.sipush 128, 3) := by decide +kernel
theorem d_PN_widthOf_4 : decode b_PN_widthOf 4 = .ok (.if_icmp .ge 5, 3) := by decide +kernel
theorem d_PN_widthOf_7 : decode b_PN_widthOf 7 = .ok (.iconst 1, 1) := by decide +kernel
theorem d_PN_widthOf_8 : decode b_PN_widthOf 8 = .ok (.ireturn, 1) := by decide +kernel
theorem d_PN_widthOf_9 : decode b_PN_widthOf 9 = .ok (.iload_n 0, 1) := by decide +kernel
theorem d_PN_widthOf_10 : decode b_PN_widthOf 10 = .ok (.sipush 2048, 3) := by decide +kernel
theorem d_PN_widthOf_13 : decode b_PN_widthOf 13 = .ok (.if_icmp .ge 5, 3) := by decide +kernel
theorem d_PN_widthOf_16 : decode b_PN_widthOf 16 = .ok (.iconst 2, 1) := by decide +kernel
theorem d_PN_widthOf_17 : decode b_PN_widthOf 17 = .ok (.ireturn, 1) := by decide +kernel
theorem d_PN_widthOf_18 : decode b_PN_widthOf 18 = .ok (.iload_n 0, 1) := by decide +kernel
theorem d_PN_widthOf_19 : decode b_PN_widthOf 19 = .ok (.ldc 108, 2) := by decide +kernel
theorem d_PN_widthOf_21 : decode b_PN_widthOf 21 = .ok (.if_icmp .ge 7, 3) := by decide +kernel
theorem d_PN_widthOf_24 : decode b_PN_widthOf 24 = .ok (.iconst 3, 1) := by decide +kernel
theorem d_PN_widthOf_25 : decode b_PN_widthOf 25 = .ok (.goto 4, 3) := by decide +kernel
theorem d_PN_widthOf_28 : decode b_PN_widthOf 28 = .ok (.iconst 4, 1) := by decide +kernel
theorem d_PN_widthOf_29 : decode b_PN_widthOf 29 = .ok (.ireturn, 1) := by decide +kernel
theorem d_PAT_characterAt_0 : decode b_PAT_characterAt 0 = .ok (.aload_n 0, 1) := by decide +kernel
theorem d_PAT_characterAt_1 : decode b_PAT_characterAt 1 = .ok (.iload_n 1, 1) := by decide +kernel
theorem d_PAT_characterAt_2 : decode b_PAT_characterAt 2 = .ok (.invokevirtual 19, 3) := by decide +kernel
theorem d_PAT_characterAt_5 : decode b_PAT_characterAt 5 = .ok (.istore_n 2, 1) := by decide +kernel
theorem d_PAT_characterAt_6 : decode b_PAT_characterAt 6 = .ok (.iload_n 2, 1) := by decide +kernel
theorem d_PAT_characterAt_7 : decode b_PAT_characterAt 7 = .ok (.sipush 128, 3) := by decide +kernel
theorem d_PAT_characterAt_10 : decode b_PAT_characterAt 10 = .ok (.if_icmp .ge 5, 3) := by decide +kernel
theorem d_PAT_characterAt_13 : decode b_PAT_characterAt 13 = .ok (.iload_n 2, 1) := by decide +kernel
theorem d_PAT_characterAt_14 : decode b_PAT_characterAt 14 = .ok (.ireturn, 1) := by decide +kernel
theorem d_PAT_characterAt_15 : decode b_PAT_characterAt 15 = .ok (.iload_n 2, 1) := by decide +kernel
theorem d_PAT_characterAt_16 : decode b_PAT_characterAt 16 = .ok (.sipush 192, 3) := by decide +kernel
theorem d_PAT_characterAt_19 : decode b_PAT_characterAt 19 = .ok (.if_icmp .lt 10, 3) := by decide +kernel
theorem d_PAT_characterAt_22 : decode b_PAT_characterAt 22 = .ok (.iload_n 2, 1) := by decide +kernel
theorem d_PAT_characterAt_23 : decode b_PAT_characterAt 23 = .ok (.sipush 248, 3) := by decide +kernel
theorem d_PAT_characterAt_26 : decode b_PAT_characterAt 26 = .ok (.if_icmp .lt 5, 3) := by decide +kernel
theorem d_PAT_characterAt_29 : decode b_PAT_characterAt 29 = .ok (.iconst (-1), 1) := by decide +kernel
theorem d_PAT_characterAt_30 : decode b_PAT_characterAt 30 = .ok (.ireturn, 1) := by decide +kernel
theorem d_PAT_characterAt_31 : decode b_PAT_characterAt 31 = .ok (.iload_n 2, 1) := by decide +kernel
theorem d_PAT_characterAt_32 : decode b_PAT_characterAt 32 = .ok (.sipush 224, 3) := by decide +kernel
theorem d_PAT_characterAt_35 : decode b_PAT_characterAt 35 = .ok (.if_icmp .ge 7, 3) := by decide +kernel
theorem d_PAT_characterAt_38 : decode b_PAT_characterAt 38 = .ok (.iconst 1, 1) := by decide +kernel
theorem d_PAT_characterAt_39 : decode b_PAT_characterAt 39 = .ok (.goto 15, 3) := by decide +kernel
theorem d_PAT_characterAt_42 : decode b_PAT_characterAt 42 = .ok (.iload_n 2, 1) := by decide +kernel
theorem d_PAT_characterAt_43 : decode b_PAT_characterAt 43 = .ok (.sipush 240, 3) := by decide +kernel
theorem d_PAT_characterAt_46 : decode b_PAT_characterAt 46 = .ok (.if_icmp .ge 7, 3) := by decide +kernel
theorem d_PAT_characterAt_49 : decode b_PAT_characterAt 49 = .ok (.iconst 2, 1) := by decide +kernel
theorem d_PAT_characterAt_50 : decode b_PAT_characterAt 50 = .ok (.goto 4, 3) := by decide +kernel
theorem d_PAT_characterAt_53 : decode b_PAT_characterAt 53 = .ok (.iconst 3, 1) := by decide +kernel
theorem d_PAT_characterAt_54 : decode b_PAT_characterAt 54 = .ok (.istore_n 3, 1) := by decide +kernel
theorem d_PAT_characterAt_55 : decode b_PAT_characterAt 55 = .ok (.iload_n 2, 1) := by decide +kernel
theorem d_PAT_characterAt_56 : decode b_PAT_characterAt 56 = .ok (.bipush 63, 2) := by decide +kernel
theorem d_PAT_characterAt_58 : decode b_PAT_characterAt 58 = .ok (.iload_n 3, 1) := by decide +kernel
theorem d_PAT_characterAt_59 : decode b_PAT_characterAt 59 = .ok (.ishr, 1) := by decide +kernel
theorem d_PAT_characterAt_60 : decode b_PAT_characterAt 60 = .ok (.iand, 1) := by decide +kernel
theorem d_PAT_characterAt_61 : decode b_PAT_characterAt 61 = .ok (.istore 4, 2) := by decide +kernel
theorem d_PAT_characterAt_63 : decode b_PAT_characterAt 63 = .ok (.iconst 1, 1) := by decide +kernel
theorem d_PAT_characterAt_64 : decode b_PAT_characterAt 64 = .ok (.istore 5, 2) := by decide +kernel
theorem d_PAT_characterAt_66 : decode b_PAT_characterAt 66 = .ok (.iload 5, 2) := by decide +kernel
theorem d_PAT_characterAt_68 : decode b_PAT_characterAt 68 = .ok (.iload_n 3, 1) := by decide +kernel
theorem d_PAT_characterAt_69 : decode b_PAT_characterAt 69 = .ok (.if_icmp .gt 50, 3) := by decide +kernel
theorem d_PAT_characterAt_72 : decode b_PAT_characterAt 72 = .ok (.aload_n 0, 1) := by decide +kernel
theorem d_PAT_characterAt_73 : decode b_PAT_characterAt 73 = .ok (.iload_n 1, 1) := by decide +kernel
theorem d_PAT_characterAt_74 : decode b_PAT_characterAt 74 = .ok (.iload 5, 2) := by decide +kernel
theorem d_PAT_characterAt_76 : decode b_PAT_characterAt 76 = .ok (.iadd, 1) := by decide +kernel
theorem d_PAT_characterAt_77 : decode b_PAT_characterAt 77 = .ok (.invokevirtual 19, 3) := by decide +kernel
theorem d_PAT_characterAt_80 : decode b_PAT_characterAt 80 = .ok (.istore 6, 2) := by decide +kernel
theorem d_PAT_characterAt_82 : decode b_PAT_characterAt 82 = .ok (.iload 6, 2) := by decide +kernel
theorem d_PAT_characterAt_84 : decode b_PAT_characterAt 84 = .ok (.sipush 128, 3) := by decide +kernel
theorem d_PAT_characterAt_87 : decode b_PAT_characterAt 87 = .ok (.if_icmp .lt 11, 3) := by decide +kernel
theorem d_PAT_characterAt_90 : decode b_PAT_characterAt 90 = .ok (.iload 6, 2) := by decide +kernel
theorem d_PAT_characterAt_92 : decode b_PAT_characterAt 92 = .ok (.sipush 192, 3) := by decide +kernel
theorem d_PAT_characterAt_95 : decode b_PAT_characterAt 95 = .ok (.if_icmp .lt 5, 3) := by decide +kernel
theorem d_PAT_characterAt_98 : decode b_PAT_characterAt 98 = .ok (.iconst (-1), 1) := by decide +kernel
theorem d_PAT_characterAt_99 : decode b_PAT_characterAt 99 = .ok (.ireturn, 1) := by decide +kernel
theorem d_PAT_characterAt_100 : decode b_PAT_characterAt 100 = .ok (.iload 4, 2) := by decide +kernel
theorem d_PAT_characterAt_102 : decode b_PAT_characterAt 102 = .ok (.bipush 6, 2) := by decide +kernel
theorem d_PAT_characterAt_104 : decode b_PAT_characterAt 104 = .ok (.ishl, 1) := by decide +kernel
theorem d_PAT_characterAt_105 : decode b_PAT_characterAt 105 = .ok (.iload 6, 2) := by decide +kernel
theorem d_PAT_characterAt_107 : decode b_PAT_characterAt 107 = .ok (.bipush 63, 2) := by decide +kernel
theorem d_PAT_characterAt_109 : decode b_PAT_characterAt 109 = .ok (.iand, 1) := by decide +kernel
theorem d_PAT_characterAt_110 : decode b_PAT_characterAt 110 = .ok (.ior, 1) := by decide +kernel
theorem d_PAT_characterAt_111 : decode b_PAT_characterAt 111 = .ok (.istore 4, 2) := by decide +kernel
theorem d_PAT_characterAt_113 : decode b_PAT_characterAt 113 = .ok (.iinc 5 1, 3) := by decide +kernel
theorem d_PAT_characterAt_116 : decode b_PAT_characterAt 116 = .ok (.goto (-50), 3) := by decide +kernel
theorem d_PAT_characterAt_119 : decode b_PAT_characterAt 119 = .ok (.iload 4, 2) := by decide +kernel
theorem d_PAT_characterAt_121 : decode b_PAT_characterAt 121 = .ok (.invokestatic 23, 3) := by decide +kernel
theorem d_PAT_characterAt_124 : decode b_PAT_characterAt 124 = .ok (.ifCond .eq 19, 3) := by decide +kernel
theorem d_PAT_characterAt_127 : decode b_PAT_characterAt 127 = .ok (.iload 4, 2) := by decide +kernel
theorem d_PAT_characterAt_129 : decode b_PAT_characterAt 129 = .ok (.invokestatic 27, 3) := by decide +kernel
theorem d_PAT_characterAt_132 : decode b_PAT_characterAt 132 = .ok (.iload_n 3, 1) := by decide +kernel
theorem d_PAT_characterAt_133 : decode b_PAT_characterAt 133 = .ok (.iconst 1, 1) := by decide +kernel
theorem d_PAT_characterAt_134 : decode b_PAT_characterAt 134 = .ok (.iadd, 1) := by decide +kernel
theorem d_PAT_characterAt_135 : decode b_PAT_characterAt 135 = .ok (.if_icmp .ne 8, 3) := by decide +kernel
theorem d_PAT_characterAt_138 : decode b_PAT_characterAt 138 = .ok (.iload 4, 2) := by decide +kernel
theorem d_PAT_characterAt_140 : decode b_PAT_characterAt 140 = .ok (.goto 4, 3) := by decide +kernel
theorem d_PAT_characterAt_143 : decode b_PAT_characterAt 143 = .ok (.iconst (-1), 1) := by decide +kernel
theorem d_PAT_characterAt_144 : decode b_PAT_characterAt 144 = .ok (.ireturn, 1) := by decide +kernel
theorem d_CLS_readSingle_0 : decode b_CLS_readSingle 0 = .ok (.aload_n 0, 1) := by decide +kernel
theorem d_CLS_readSingle_1 : decode b_CLS_readSingle 1 = .ok (.getfield 15, 3) := by decide +kernel
theorem d_CLS_readSingle_4 : decode b_CLS_readSingle 4 = .ok (.iload_n 1, 1) := by decide +kernel
theorem d_CLS_readSingle_5 : decode b_CLS_readSingle 5 = .ok (.invokevirtual 31, 3) := by decide +kernel
theorem d_CLS_readSingle_8 : decode b_CLS_readSingle 8 = .ok (.bipush 92, 2) := by decide +kernel
theorem d_CLS_readSingle_10 : decode b_CLS_readSingle 10 = .ok (.if_icmp .eq 42, 3) := by decide +kernel
theorem d_CLS_readSingle_13 : decode b_CLS_readSingle 13 = .ok (.aload_n 0, 1) := by decide +kernel
theorem d_CLS_readSingle_14 : decode b_CLS_readSingle 14 = .ok (.aload_n 0, 1) := by decide +kernel
theorem d_CLS_readSingle_15 : decode b_CLS_readSingle 15 = .ok (.getfield 15, 3) := by decide +kernel
theorem d_CLS_readSingle_18 : decode b_CLS_readSingle 18 = .ok (.iload_n 1, 1) := by decide +kernel
theorem d_CLS_readSingle_19 : decode b_CLS_readSingle 19 = .ok (.invokevirtual 140, 3) := by decide +kernel
theorem d_CLS_readSingle_22 : decode b_CLS_readSingle 22 = .ok (.putfield 9, 3) := by decide +kernel
theorem d_CLS_readSingle_25 : decode b_CLS_readSingle 25 = .ok (.aload_n 0, 1) := by decide +kernel
theorem d_CLS_readSingle_26 : decode b_CLS_readSingle 26 = .ok (.getfield 9, 3) := by decide +kernel
theorem d_CLS_readSingle_29 : decode b_CLS_readSingle 29 = .ok (.iconst (-1), 1) := by decide +kernel
theorem d_CLS_readSingle_30 : decode b_CLS_readSingle 30 = .ok (.if_icmp .ne 12, 3) := by decide +kernel
theorem d_CLS_readSingle_33 : decode b_CLS_readSingle 33 = .ok (.aload_n 0, 1) := by decide +kernel
theorem d_CLS_readSingle_34 : decode b_CLS_readSingle 34 = .ok (.iconst 1, 1) := by decide +kernel
theorem d_CLS_readSingle_35 : decode b_CLS_readSingle 35 = .ok (.iload_n 1, 1) := by decide +kernel
theorem d_CLS_readSingle_36 : decode b_CLS_readSingle 36 = .ok (.invokevirtual 60, 3) := by decide +kernel
theorem d_CLS_readSingle_39 : decode b_CLS_readSingle 39 = .ok (.goto 12, 3) := by decide +kernel
theorem d_CLS_readSingle_42 : decode b_CLS_readSingle 42 = .ok (.iload_n 1, 1) := by decide +kernel
theorem d_CLS_readSingle_43 : decode b_CLS_readSingle 43 = .ok (.aload_n 0, 1) := by decide +kernel
theorem d_CLS_readSingle_44 : decode b_CLS_readSingle 44 = .ok (.getfield 9, 3) := by decide +kernel
theorem d_CLS_readSingle_47 : decode b_CLS_readSingle 47 = .ok (.invokestatic 143, 3) := by decide +kernel
theorem d_CLS_readSingle_50 : decode b_CLS_readSingle 50 = .ok (.iadd, 1) := by decide +kernel
theorem d_CLS_readSingle_51 : decode b_CLS_readSingle 51 = .ok (.ireturn, 1) := by decide +kernel
theorem d_CLS_readSingle_52 : decode b_CLS_readSingle 52 = .ok (.aload_n 0, 1) := by decide +kernel
theorem d_CLS_readSingle_53 : decode b_CLS_readSingle 53 = .ok (.getfield 23, 3) := by decide +kernel
theorem d_CLS_readSingle_56 : decode b_CLS_readSingle 56 = .ok (.iload_n 1, 1) := by decide +kernel
theorem d_CLS_readSingle_57 : decode b_CLS_readSingle 57 = .ok (.invokevirtual 80, 3) := by decide +kernel
theorem d_CLS_readSingle_60 : decode b_CLS_readSingle 60 = .ok (.istore_n 2, 1) := by decide +kernel
theorem d_CLS_readSingle_61 : decode b_CLS_readSingle 61 = .ok (.iload_n 2, 1) := by decide +kernel
theorem d_CLS_readSingle_62 : decode b_CLS_readSingle 62 = .ok (.ifCond .ne 15, 3) := by decide +kernel
theorem d_CLS_readSingle_65 : decode b_CLS_readSingle 65 = .ok (.aload_n 0, 1) := by decide +kernel
theorem d_CLS_readSingle_66 : decode b_CLS_readSingle 66 = .ok (.getfield 23, 3) := by decide +kernel
theorem d_CLS_readSingle_69 : decode b_CLS_readSingle 69 = .ok (.getfield 146, 3) := by decide +kernel
theorem d_CLS_readSingle_72 : decode b_CLS_readSingle 72 = .ok (.ifCond .eq 5, 3) := by decide +kernel
theorem d_CLS_readSingle_75 : decode b_CLS_readSingle 75 = .ok (.iconst 5, 1) := by decide +kernel
theorem d_CLS_readSingle_76 : decode b_CLS_readSingle 76 = .ok (.istore_n 2, 1) := by decide +kernel
theorem d_CLS_readSingle_77 : decode b_CLS_readSingle 77 = .ok (.aload_n 0, 1) := by decide +kernel
theorem d_CLS_readSingle_78 : decode b_CLS_readSingle 78 = .ok (.aload_n 0, 1) := by decide +kernel
theorem d_CLS_readSingle_79 : decode b_CLS_readSingle 79 = .ok (.getfield 23, 3) := by decide +kernel
theorem d_CLS_readSingle_82 : decode b_CLS_readSingle 82 = .ok (.getfield 149, 3) := by decide +kernel
theorem d_CLS_readSingle_85 : decode b_CLS_readSingle 85 = .ok (.putfield 9, 3) := by decide +kernel
theorem d_CLS_readSingle_88 : decode b_CLS_readSingle 88 = .ok (.iload_n 2, 1) := by decide +kernel
theorem d_CLS_readSingle_89 : decode b_CLS_readSingle 89 = .ok (.ifCond .eq 12, 3) := by decide +kernel
theorem d_CLS_readSingle_92 : decode b_CLS_readSingle 92 = .ok (.aload_n 0, 1) := by decide +kernel
theorem d_CLS_readSingle_93 : decode b_CLS_readSingle 93 = .ok (.iload_n 2, 1) := by decide +kernel
theorem d_CLS_readSingle_94 : decode b_CLS_readSingle 94 = .ok (.iload_n 1, 1) := by decide +kernel
theorem d_CLS_readSingle_95 : decode b_CLS_readSingle 95 = .ok (.invokevirtual 60, 3) := by decide +kernel
theorem d_CLS_readSingle_98 : decode b_CLS_readSingle 98 = .ok (.goto 10, 3) := by decide +kernel
theorem d_CLS_readSingle_101 : decode b_CLS_readSingle 101 = .ok (.aload_n 0, 1) := by decide +kernel
theorem d_CLS_readSingle_102 : decode b_CLS_readSingle 102 = .ok (.getfield 23, 3) := by decide +kernel
theorem d_CLS_readSingle_105 : decode b_CLS_readSingle 105 = .ok (.getfield 90, 3) := by decide +kernel
theorem d_CLS_readSingle_108 : decode b_CLS_readSingle 108 = .ok (.ireturn, 1) := by decide +kernel
theorem d_SET_addKin_0 : decode b_SET_addKin 0 = .ok (.iconst 0, 1) := by decide +kernel
theorem d_SET_addKin_1 : decode b_SET_addKin 1 = .ok (.istore 4, 2) := by decide +kernel
theorem d_SET_addKin_3 : decode b_SET_addKin 3 = .ok (.iload_n 1, 1) := by decide +kernel
theorem d_SET_addKin_4 : decode b_SET_addKin 4 = .ok (.istore 5, 2) := by decide +kernel
theorem d_SET_addKin_6 : decode b_SET_addKin 6 = .ok (.iload 5, 2) := by decide +kernel
theorem d_SET_addKin_8 : decode b_SET_addKin 8 = .ok (.iload_n 1, 1) := by decide +kernel
theorem d_SET_addKin_9 : decode b_SET_addKin 9 = .ok (.iconst 4, 1) := by decide +kernel
theorem d_SET_addKin_10 : decode b_SET_addKin 10 = .ok (.iadd, 1) := by decide +kernel
theorem d_SET_addKin_11 : decode b_SET_addKin 11 = .ok (.if_icmp .ge 50, 3) := by decide +kernel
theorem d_SET_addKin_14 : decode b_SET_addKin 14 = .ok (.iload 5, 2) := by decide +kernel
theorem d_SET_addKin_16 : decode b_SET_addKin 16 = .ok (.getstatic 44, 3) := by decide +kernel
theorem d_SET_addKin_19 : decode b_SET_addKin 19 = .ok (.arraylength, 1) := by decide +kernel
theorem d_SET_addKin_20 : decode b_SET_addKin 20 = .ok (.if_icmp .ge 41, 3) := by decide +kernel
theorem d_SET_addKin_23 : decode b_SET_addKin 23 = .ok (.iload 4, 2) := by decide +kernel
theorem d_SET_addKin_25 : decode b_SET_addKin 25 = .ok (.ifCond .ne 23, 3) := by decide +kernel
theorem d_SET_addKin_28 : decode b_SET_addKin 28 = .ok (.getstatic 44, 3) := by decide +kernel
theorem d_SET_addKin_31 : decode b_SET_addKin 31 = .ok (.iload 5, 2) := by decide +kernel
theorem d_SET_addKin_33 : decode b_SET_addKin 33 = .ok (.iaload, 1) := by decide +kernel
theorem d_SET_addKin_34 : decode b_SET_addKin 34 = .ok (.iload_n 2, 1) := by decide +kernel
theorem d_SET_addKin_35 : decode b_SET_addKin 35 = .ok (.if_icmp .lt 17, 3) := by decide +kernel
theorem d_SET_addKin_38 : decode b_SET_addKin 38 = .ok (.getstatic 44, 3) := by decide +kernel
theorem d_SET_addKin_41 : decode b_SET_addKin 41 = .ok (.iload 5, 2) := by decide +kernel
theorem d_SET_addKin_43 : decode b_SET_addKin 43 = .ok (.iaload, 1) := by decide +kernel
theorem d_SET_addKin_44 : decode b_SET_addKin 44 = .ok (.iload_n 3, 1) := by decide +kernel
theorem d_SET_addKin_45 : decode b_SET_addKin 45 = .ok (.if_icmp .gt 7, 3) := by decide +kernel
theorem d_SET_addKin_48 : decode b_SET_addKin 48 = .ok (.iconst 1, 1) := by decide +kernel
theorem d_SET_addKin_49 : decode b_SET_addKin 49 = .ok (.goto 4, 3) := by decide +kernel
theorem d_SET_addKin_52 : decode b_SET_addKin 52 = .ok (.iconst 0, 1) := by decide +kernel
theorem d_SET_addKin_53 : decode b_SET_addKin 53 = .ok (.istore 4, 2) := by decide +kernel
theorem d_SET_addKin_55 : decode b_SET_addKin 55 = .ok (.iinc 5 1, 3) := by decide +kernel
theorem d_SET_addKin_58 : decode b_SET_addKin 58 = .ok (.goto (-52), 3) := by decide +kernel
theorem d_SET_addKin_61 : decode b_SET_addKin 61 = .ok (.iload_n 1, 1) := by decide +kernel
theorem d_SET_addKin_62 : decode b_SET_addKin 62 = .ok (.istore 5, 2) := by decide +kernel
theorem d_SET_addKin_64 : decode b_SET_addKin 64 = .ok (.iload 4, 2) := by decide +kernel
theorem d_SET_addKin_66 : decode b_SET_addKin 66 = .ok (.ifCond .eq 42, 3) := by decide +kernel
theorem d_SET_addKin_69 : decode b_SET_addKin 69 = .ok (.iload 5, 2) := by decide +kernel
theorem d_SET_addKin_71 : decode b_SET_addKin 71 = .ok (.iload_n 1, 1) := by decide +kernel
theorem d_SET_addKin_72 : decode b_SET_addKin 72 = .ok (.iconst 4, 1) := by decide +kernel
theorem d_SET_addKin_73 : decode b_SET_addKin 73 = .ok (.iadd, 1) := by decide +kernel
theorem d_SET_addKin_74 : decode b_SET_addKin 74 = .ok (.if_icmp .ge 34, 3) := by decide +kernel
theorem d_SET_addKin_77 : decode b_SET_addKin 77 = .ok (.iload 5, 2) := by decide +kernel
theorem d_SET_addKin_79 : decode b_SET_addKin 79 = .ok (.getstatic 44, 3) := by decide +kernel
theorem d_SET_addKin_82 : decode b_SET_addKin 82 = .ok (.arraylength, 1) := by decide +kernel
theorem d_SET_addKin_83 : decode b_SET_addKin 83 = .ok (.if_icmp .ge 25, 3) := by decide +kernel
theorem d_SET_addKin_86 : decode b_SET_addKin 86 = .ok (.aload_n 0, 1) := by decide +kernel
theorem d_SET_addKin_87 : decode b_SET_addKin 87 = .ok (.getstatic 44, 3) := by decide +kernel
theorem d_SET_addKin_90 : decode b_SET_addKin 90 = .ok (.iload 5, 2) := by decide +kernel
theorem d_SET_addKin_92 : decode b_SET_addKin 92 = .ok (.iaload, 1) := by decide +kernel
theorem d_SET_addKin_93 : decode b_SET_addKin 93 = .ok (.getstatic 44, 3) := by decide +kernel
theorem d_SET_addKin_96 : decode b_SET_addKin 96 = .ok (.iload 5, 2) := by decide +kernel
theorem d_SET_addKin_98 : decode b_SET_addKin 98 = .ok (.iaload, 1) := by decide +kernel
theorem d_SET_addKin_99 : decode b_SET_addKin 99 = .ok (.invokevirtual 28, 3) := by decide +kernel
theorem d_SET_addKin_102 : decode b_SET_addKin 102 = .ok (.iinc 5 1, 3) := by decide +kernel
theorem d_SET_addKin_105 : decode b_SET_addKin 105 = .ok (.goto (-41), 3) := by decide +kernel
theorem d_SET_addKin_108 : decode b_SET_addKin 108 = .ok (.return_, 1) := by decide +kernel
theorem d_SET_addWithAlike_0 : decode b_SET_addWithAlike 0 = .ok (.aload_n 0, 1) := by decide +kernel
theorem d_SET_addWithAlike_1 : decode b_SET_addWithAlike 1 = .ok (.iload_n 1, 1) := by decide +kernel
theorem d_SET_addWithAlike_2 : decode b_SET_addWithAlike 2 = .ok (.iload_n 2, 1) := by decide +kernel
theorem d_SET_addWithAlike_3 : decode b_SET_addWithAlike 3 = .ok (.invokevirtual 28, 3) := by decide +kernel
theorem d_SET_addWithAlike_6 : decode b_SET_addWithAlike 6 = .ok (.iconst 0, 1) := by decide +kernel
theorem d_SET_addWithAlike_7 : decode b_SET_addWithAlike 7 = .ok (.istore_n 3, 1) := by decide +kernel
theorem d_SET_addWithAlike_8 : decode b_SET_addWithAlike 8 = .ok (.iload_n 3, 1) := by decide +kernel
theorem d_SET_addWithAlike_9 : decode b_SET_addWithAlike 9 = .ok (.iconst 2, 1) := by decide +kernel
theorem d_SET_addWithAlike_10 : decode b_SET_addWithAlike 10 = .ok (.iadd, 1) := by decide +kernel
theorem d_SET_addWithAlike_11 : decode b_SET_addWithAlike 11 = .ok (.getstatic 32, 3) := by decide +kernel
theorem d_SET_addWithAlike_14 : decode b_SET_addWithAlike 14 = .ok (.arraylength, 1) := by decide +kernel
theorem d_SET_addWithAlike_15 : decode b_SET_addWithAlike 15 = .ok (.if_icmp .ge 48, 3) := by decide +kernel
theorem d_SET_addWithAlike_18 : decode b_SET_addWithAlike 18 = .ok (.getstatic 32, 3) := by decide +kernel
theorem d_SET_addWithAlike_21 : decode b_SET_addWithAlike 21 = .ok (.iload_n 3, 1) := by decide +kernel
theorem d_SET_addWithAlike_22 : decode b_SET_addWithAlike 22 = .ok (.iconst 2, 1) := by decide +kernel
theorem d_SET_addWithAlike_23 : decode b_SET_addWithAlike 23 = .ok (.iadd, 1) := by decide +kernel
theorem d_SET_addWithAlike_24 : decode b_SET_addWithAlike 24 = .ok (.iaload, 1) := by decide +kernel
theorem d_SET_addWithAlike_25 : decode b_SET_addWithAlike 25 = .ok (.istore 4, 2) := by decide +kernel
theorem d_SET_addWithAlike_27 : decode b_SET_addWithAlike 27 = .ok (.aload_n 0, 1) := by decide +kernel
theorem d_SET_addWithAlike_28 : decode b_SET_addWithAlike 28 = .ok (.iload_n 1, 1) := by decide +kernel
theorem d_SET_addWithAlike_29 : decode b_SET_addWithAlike 29 = .ok (.getstatic 32, 3) := by decide +kernel
theorem d_SET_addWithAlike_32 : decode b_SET_addWithAlike 32 = .ok (.iload_n 3, 1) := by decide +kernel
theorem d_SET_addWithAlike_33 : decode b_SET_addWithAlike 33 = .ok (.iaload, 1) := by decide +kernel
theorem d_SET_addWithAlike_34 : decode b_SET_addWithAlike 34 = .ok (.invokestatic 35, 3) := by decide +kernel
theorem d_SET_addWithAlike_37 : decode b_SET_addWithAlike 37 = .ok (.iload 4, 2) := by decide +kernel
theorem d_SET_addWithAlike_39 : decode b_SET_addWithAlike 39 = .ok (.iadd, 1) := by decide +kernel
theorem d_SET_addWithAlike_40 : decode b_SET_addWithAlike 40 = .ok (.iload_n 2, 1) := by decide +kernel
theorem d_SET_addWithAlike_41 : decode b_SET_addWithAlike 41 = .ok (.getstatic 32, 3) := by decide +kernel
theorem d_SET_addWithAlike_44 : decode b_SET_addWithAlike 44 = .ok (.iload_n 3, 1) := by decide +kernel
theorem d_SET_addWithAlike_45 : decode b_SET_addWithAlike 45 = .ok (.iconst 1, 1) := by decide +kernel
theorem d_SET_addWithAlike_46 : decode b_SET_addWithAlike 46 = .ok (.iadd, 1) := by decide +kernel
theorem d_SET_addWithAlike_47 : decode b_SET_addWithAlike 47 = .ok (.iaload, 1) := by decide +kernel
theorem d_SET_addWithAlike_48 : decode b_SET_addWithAlike 48 = .ok (.invokestatic 41, 3) := by decide +kernel
theorem d_SET_addWithAlike_51 : decode b_SET_addWithAlike 51 = .ok (.iload 4, 2) := by decide +kernel
theorem d_SET_addWithAlike_53 : decode b_SET_addWithAlike 53 = .ok (.iadd, 1) := by decide +kernel
theorem d_SET_addWithAlike_54 : decode b_SET_addWithAlike 54 = .ok (.invokevirtual 28, 3) := by decide +kernel
theorem d_SET_addWithAlike_57 : decode b_SET_addWithAlike 57 = .ok (.iinc 3 3, 3) := by decide +kernel
theorem d_SET_addWithAlike_60 : decode b_SET_addWithAlike 60 = .ok (.goto (-52), 3) := by decide +kernel
theorem d_SET_addWithAlike_63 : decode b_SET_addWithAlike 63 = .ok (.iconst 0, 1) := by decide +kernel
theorem d_SET_addWithAlike_64 : decode b_SET_addWithAlike 64 = .ok (.istore_n 3, 1) := by decide +kernel
theorem d_SET_addWithAlike_65 : decode b_SET_addWithAlike 65 = .ok (.iload_n 3, 1) := by decide +kernel
theorem d_SET_addWithAlike_66 : decode b_SET_addWithAlike 66 = .ok (.iconst 3, 1) := by decide +kernel
theorem d_SET_addWithAlike_67 : decode b_SET_addWithAlike 67 = .ok (.iadd, 1) := by decide +kernel
theorem d_SET_addWithAlike_68 : decode b_SET_addWithAlike 68 = .ok (.getstatic 44, 3) := by decide +kernel
theorem d_SET_addWithAlike_71 : decode b_SET_addWithAlike 71 = .ok (.arraylength, 1) := by decide +kernel
theorem d_SET_addWithAlike_72 : decode b_SET_addWithAlike 72 = .ok (.if_icmp .ge 16, 3) := by decide +kernel
theorem d_SET_addWithAlike_75 : decode b_SET_addWithAlike 75 = .ok (.aload_n 0, 1) := by decide +kernel
theorem d_SET_addWithAlike_76 : decode b_SET_addWithAlike 76 = .ok (.iload_n 3, 1) := by decide +kernel
theorem d_SET_addWithAlike_77 : decode b_SET_addWithAlike 77 = .ok (.iload_n 1, 1) := by decide +kernel
theorem d_SET_addWithAlike_78 : decode b_SET_addWithAlike 78 = .ok (.iload_n 2, 1) := by decide +kernel
theorem d_SET_addWithAlike_79 : decode b_SET_addWithAlike 79 = .ok (.invokevirtual 47, 3) := by decide +kernel
theorem d_SET_addWithAlike_82 : decode b_SET_addWithAlike 82 = .ok (.iinc 3 4, 3) := by decide +kernel
theorem d_SET_addWithAlike_85 : decode b_SET_addWithAlike 85 = .ok (.goto (-20), 3) := by decide +kernel
theorem d_SET_addWithAlike_88 : decode b_SET_addWithAlike 88 = .ok (.return_, 1) := by decide +kernel
theorem d_CLS_readRange_0 : decode b_CLS_readRange 0 = .ok (.aload_n 0, 1) := by decide +kernel
theorem d_CLS_readRange_1 : decode b_CLS_readRange 1 = .ok (.iload_n 1, 1) := by decide +kernel
theorem d_CLS_readRange_2 : decode b_CLS_readRange 2 = .ok (.invokevirtual 130, 3) := by decide +kernel
theorem d_CLS_readRange_5 : decode b_CLS_readRange 5 = .ok (.istore_n 3, 1) := by decide +kernel
theorem d_CLS_readRange_6 : decode b_CLS_readRange 6 = .ok (.iload_n 3, 1) := by decide +kernel
theorem d_CLS_readRange_7 : decode b_CLS_readRange 7 = .ok (.iconst (-1), 1) := by decide +kernel
theorem d_CLS_readRange_8 : decode b_CLS_readRange 8 = .ok (.if_icmp .ne 5, 3) := by decide +kernel
theorem d_CLS_readRange_11 : decode b_CLS_readRange 11 = .ok (.iconst (-1), 1) := by decide +kernel
theorem d_CLS_readRange_12 : decode b_CLS_readRange 12 = .ok (.ireturn, 1) := by decide +kernel
theorem d_CLS_readRange_13 : decode b_CLS_readRange 13 = .ok (.aload_n 0, 1) := by decide +kernel
theorem d_CLS_readRange_14 : decode b_CLS_readRange 14 = .ok (.getfield 9, 3) := by decide +kernel
theorem d_CLS_readRange_17 : decode b_CLS_readRange 17 = .ok (.istore 4, 2) := by decide +kernel
theorem d_CLS_readRange_19 : decode b_CLS_readRange 19 = .ok (.aload_n 0, 1) := by decide +kernel
theorem d_CLS_readRange_20 : decode b_CLS_readRange 20 = .ok (.getfield 15, 3) := by decide +kernel
theorem d_CLS_readRange_23 : decode b_CLS_readRange 23 = .ok (.iload_n 3, 1) := by decide +kernel
theorem d_CLS_readRange_24 : decode b_CLS_readRange 24 = .ok (.iconst 1, 1) := by decide +kernel
theorem d_CLS_readRange_25 : decode b_CLS_readRange 25 = .ok (.iadd, 1) := by decide +kernel
theorem d_CLS_readRange_26 : decode b_CLS_readRange 26 = .ok (.invokevirtual 31, 3) := by decide +kernel
theorem d_CLS_readRange_29 : decode b_CLS_readRange 29 = .ok (.istore 5, 2) := by decide +kernel
theorem d_CLS_readRange_31 : decode b_CLS_readRange 31 = .ok (.aload_n 0, 1) := by decide +kernel
theorem d_CLS_readRange_32 : decode b_CLS_readRange 32 = .ok (.getfield 15, 3) := by decide +kernel
theorem d_CLS_readRange_35 : decode b_CLS_readRange 35 = .ok (.iload_n 3, 1) := by decide +kernel
theorem d_CLS_readRange_36 : decode b_CLS_readRange 36 = .ok (.invokevirtual 31, 3) := by decide +kernel
theorem d_CLS_readRange_39 : decode b_CLS_readRange 39 = .ok (.bipush 45, 2) := by decide +kernel
theorem d_CLS_readRange_41 : decode b_CLS_readRange 41 = .ok (.if_icmp .ne 49, 3) := by decide +kernel
theorem d_CLS_readRange_44 : decode b_CLS_readRange 44 = .ok (.iload 5, 2) := by decide +kernel
theorem d_CLS_readRange_46 : decode b_CLS_readRange 46 = .ok (.bipush 93, 2) := by decide +kernel
theorem d_CLS_readRange_48 : decode b_CLS_readRange 48 = .ok (.if_icmp .eq 42, 3) := by decide +kernel
theorem d_CLS_readRange_51 : decode b_CLS_readRange 51 = .ok (.iload 5, 2) := by decide +kernel
theorem d_CLS_readRange_53 : decode b_CLS_readRange 53 = .ok (.iconst (-1), 1) := by decide +kernel
theorem d_CLS_readRange_54 : decode b_CLS_readRange 54 = .ok (.if_icmp .eq 36, 3) := by decide +kernel
theorem d_CLS_readRange_57 : decode b_CLS_readRange 57 = .ok (.aload_n 0, 1) := by decide +kernel
theorem d_CLS_readRange_58 : decode b_CLS_readRange 58 = .ok (.iload_n 3, 1) := by decide +kernel
theorem d_CLS_readRange_59 : decode b_CLS_readRange 59 = .ok (.iconst 1, 1) := by decide +kernel
theorem d_CLS_readRange_60 : decode b_CLS_readRange 60 = .ok (.iadd, 1) := by decide +kernel
theorem d_CLS_readRange_61 : decode b_CLS_readRange 61 = .ok (.invokevirtual 49, 3) := by decide +kernel
theorem d_CLS_readRange_64 : decode b_CLS_readRange 64 = .ok (.ifCond .eq 11, 3) := by decide +kernel
theorem d_CLS_readRange_67 : decode b_CLS_readRange 67 = .ok (.aload_n 0, 1) := by decide +kernel
theorem d_CLS_readRange_68 : decode b_CLS_readRange 68 = .ok (.bipush 6, 2) := by decide +kernel
theorem d_CLS_readRange_70 : decode b_CLS_readRange 70 = .ok (.iload_n 1, 1) := by decide +kernel
theorem d_CLS_readRange_71 : decode b_CLS_readRange 71 = .ok (.invokevirtual 60, 3) := by decide +kernel
theorem d_CLS_readRange_74 : decode b_CLS_readRange 74 = .ok (.ireturn, 1) := by decide +kernel
theorem d_CLS_readRange_75 : decode b_CLS_readRange 75 = .ok (.aload_n 0, 1) := by decide +kernel
theorem d_CLS_readRange_76 : decode b_CLS_readRange 76 = .ok (.iload_n 3, 1) := by decide +kernel
theorem d_CLS_readRange_77 : decode b_CLS_readRange 77 = .ok (.iconst 1, 1) := by decide +kernel
theorem d_CLS_readRange_78 : decode b_CLS_readRange 78 = .ok (.iadd, 1) := by decide +kernel
theorem d_CLS_readRange_79 : decode b_CLS_readRange 79 = .ok (.invokevirtual 130, 3) := by decide +kernel
theorem d_CLS_readRange_82 : decode b_CLS_readRange 82 = .ok (.istore_n 3, 1) := by decide +kernel
theorem d_CLS_readRange_83 : decode b_CLS_readRange 83 = .ok (.iload_n 3, 1) := by decide +kernel
theorem d_CLS_readRange_84 : decode b_CLS_readRange 84 = .ok (.iconst (-1), 1) := by decide +kernel
theorem d_CLS_readRange_85 : decode b_CLS_readRange 85 = .ok (.if_icmp .ne 5, 3) := by decide +kernel
theorem d_CLS_readRange_88 : decode b_CLS_readRange 88 = .ok (.iconst (-1), 1) := by decide +kernel
theorem d_CLS_readRange_89 : decode b_CLS_readRange 89 = .ok (.ireturn, 1) := by decide +kernel
theorem d_CLS_readRange_90 : decode b_CLS_readRange 90 = .ok (.aload_n 0, 1) := by decide +kernel
theorem d_CLS_readRange_91 : decode b_CLS_readRange 91 = .ok (.getfield 9, 3) := by decide +kernel
theorem d_CLS_readRange_94 : decode b_CLS_readRange 94 = .ok (.iload 4, 2) := by decide +kernel
theorem d_CLS_readRange_96 : decode b_CLS_readRange 96 = .ok (.if_icmp .ge 11, 3) := by decide +kernel
theorem d_CLS_readRange_99 : decode b_CLS_readRange 99 = .ok (.aload_n 0, 1) := by decide +kernel
theorem d_CLS_readRange_100 : decode b_CLS_readRange 100 = .ok (.bipush 6, 2) := by decide +kernel
theorem d_CLS_readRange_102 : decode b_CLS_readRange 102 = .ok (.iload_n 1, 1) := by decide +kernel
theorem d_CLS_readRange_103 : decode b_CLS_readRange 103 = .ok (.invokevirtual 60, 3) := by decide +kernel
theorem d_CLS_readRange_106 : decode b_CLS_readRange 106 = .ok (.ireturn, 1) := by decide +kernel
theorem d_CLS_readRange_107 : decode b_CLS_readRange 107 = .ok (.iload_n 2, 1) := by decide +kernel
theorem d_CLS_readRange_108 : decode b_CLS_readRange 108 = .ok (.ifCond .eq 19, 3) := by decide +kernel
theorem d_CLS_readRange_111 : decode b_CLS_readRange 111 = .ok (.aload_n 0, 1) := by decide +kernel
theorem d_CLS_readRange_112 : decode b_CLS_readRange 112 = .ok (.getfield 27, 3) := by decide +kernel
theorem d_CLS_readRange_115 : decode b_CLS_readRange 115 = .ok (.iload 4, 2) := by decide +kernel
theorem d_CLS_readRange_117 : decode b_CLS_readRange 117 = .ok (.aload_n 0, 1) := by decide +kernel
theorem d_CLS_readRange_118 : decode b_CLS_readRange 118 = .ok (.getfield 9, 3) := by decide +kernel
theorem d_CLS_readRange_121 : decode b_CLS_readRange 121 = .ok (.invokevirtual 133, 3) := by decide +kernel
theorem d_CLS_readRange_124 : decode b_CLS_readRange 124 = .ok (.goto 16, 3) := by decide +kernel
theorem d_CLS_readRange_127 : decode b_CLS_readRange 127 = .ok (.aload_n 0, 1) := by decide +kernel
theorem d_CLS_readRange_128 : decode b_CLS_readRange 128 = .ok (.getfield 27, 3) := by decide +kernel
theorem d_CLS_readRange_131 : decode b_CLS_readRange 131 = .ok (.iload 4, 2) := by decide +kernel
theorem d_CLS_readRange_133 : decode b_CLS_readRange 133 = .ok (.aload_n 0, 1) := by decide +kernel
theorem d_CLS_readRange_134 : decode b_CLS_readRange 134 = .ok (.getfield 9, 3) := by decide +kernel
theorem d_CLS_readRange_137 : decode b_CLS_readRange 137 = .ok (.invokevirtual 137, 3) := by decide +kernel
theorem d_CLS_readRange_140 : decode b_CLS_readRange 140 = .ok (.iload_n 3, 1) := by decide +kernel
theorem d_CLS_readRange_141 : decode b_CLS_readRange 141 = .ok (.ireturn, 1) := by decide +kernel
theorem d_CLS_readClass_0 : decode b_CLS_readClass 0 = .ok (.aload_n 0, 1) := by decide +kernel
theorem d_CLS_readClass_1 : decode b_CLS_readClass 1 = .ok (.getfield 15, 3) := by decide +kernel
theorem d_CLS_readClass_4 : decode b_CLS_readClass 4 = .ok (.iload_n 1, 1) := by decide +kernel
theorem d_CLS_readClass_5 : decode b_CLS_readClass 5 = .ok (.iconst 1, 1) := by decide +kernel
theorem d_CLS_readClass_6 : decode b_CLS_readClass 6 = .ok (.iadd, 1) := by decide +kernel
theorem d_CLS_readClass_7 : decode b_CLS_readClass 7 = .ok (.invokevirtual 31, 3) := by decide +kernel
theorem d_CLS_readClass_10 : decode b_CLS_readClass 10 = .ok (.bipush 94, 2) := by decide +kernel
theorem d_CLS_readClass_12 : decode b_CLS_readClass 12 = .ok (.if_icmp .ne 7, 3) := by decide +kernel
theorem d_CLS_readClass_15 : decode b_CLS_readClass 15 = .ok (.iconst 1, 1) := by decide +kernel
theorem d_CLS_readClass_16 : decode b_CLS_readClass 16 = .ok (.goto 4, 3) := by decide +kernel
