theorem dX12_hour_289 : decode cX12_hour 289 = .ok (.getfield 115, 3) := by decide +kernel
theorem dX12_hour_292 : decode cX12_hour 292 = .ok (.if_icmp .ge 98, 3) := by decide +kernel
theorem dX12_hour_295 : decode cX12_hour 295 = .ok (.aload_n 0, 1) := by decide +kernel
theorem dX12_hour_296 : decode cX12_hour 296 = .ok (.iload 5, 2) := by decide +kernel
theorem dX12_hour_298 : decode cX12_hour 298 = .ok (.invokevirtual 118, 3) := by decide +kernel
theorem dX12_hour_301 : decode cX12_hour 301 = .ok (.aload_n 0, 1) := by decide +kernel
theorem dX12_hour_302 : decode cX12_hour 302 = .ok (.getfield 16, 3) := by decide +kernel
theorem dX12_hour_305 : decode cX12_hour 305 = .ok (.aload_n 0, 1) := by decide +kernel
theorem dX12_hour_306 : decode cX12_hour 306 = .ok (.getfield 34, 3) := by decide +kernel
theorem dX12_hour_309 : decode cX12_hour 309 = .ok (.iload 5, 2) := by decide +kernel
theorem dX12_hour_311 : decode cX12_hour 311 = .ok (.iaload, 1) := by decide +kernel
theorem dX12_hour_312 : decode cX12_hour 312 = .ok (.iaload, 1) := by decide +kernel
theorem dX12_hour_313 : decode cX12_hour 313 = .ok (.aload_n 0, 1) := by decide +kernel
theorem dX12_hour_314 : decode cX12_hour 314 = .ok (.getfield 19, 3) := by decide +kernel
theorem dX12_hour_317 : decode cX12_hour 317 = .ok (.aload_n 0, 1) := by decide +kernel
theorem dX12_hour_318 : decode cX12_hour 318 = .ok (.getfield 34, 3) := by decide +kernel
theorem dX12_hour_321 : decode cX12_hour 321 = .ok (.iload 5, 2) := by decide +kernel
theorem dX12_hour_323 : decode cX12_hour 323 = .ok (.iaload, 1) := by decide +kernel
theorem dX12_hour_324 : decode cX12_hour 324 = .ok (.iaload, 1) := by decide +kernel
theorem dX12_hour_325 : decode cX12_hour 325 = .ok (.iadd, 1) := by decide +kernel
theorem dX12_hour_326 : decode cX12_hour 326 = .ok (.if_icmp .gt 6, 3) := by decide +kernel
theorem dX12_hour_329 : decode cX12_hour 329 = .ok (.goto 55, 3) := by decide +kernel
theorem dX12_hour_332 : decode cX12_hour 332 = .ok (.aload_n 0, 1) := by decide +kernel
theorem dX12_hour_333 : decode cX12_hour 333 = .ok (.getfield 86, 3) := by decide +kernel
theorem dX12_hour_336 : decode cX12_hour 336 = .ok (.bipush 40, 2) := by decide +kernel
theorem dX12_hour_338 : decode cX12_hour 338 = .ok (.iload 5, 2) := by decide +kernel
theorem dX12_hour_340 : decode cX12_hour 340 = .ok (.iadd, 1) := by decide +kernel
theorem dX12_hour_341 : decode cX12_hour 341 = .ok (.dup2, 1) := by decide +kernel
theorem dX12_hour_342 : decode cX12_hour 342 = .ok (.iaload, 1) := by decide +kernel
theorem dX12_hour_343 : decode cX12_hour 343 = .ok (.aload_n 0, 1) := by decide +kernel
theorem dX12_hour_344 : decode cX12_hour 344 = .ok (.getfield 86, 3) := by decide +kernel
theorem dX12_hour_347 : decode cX12_hour 347 = .ok (.iconst 0, 1) := by decide +kernel
theorem dX12_hour_348 : decode cX12_hour 348 = .ok (.iload 5, 2) := by decide +kernel
theorem dX12_hour_350 : decode cX12_hour 350 = .ok (.iadd, 1) := by decide +kernel
theorem dX12_hour_351 : decode cX12_hour 351 = .ok (.iaload, 1) := by decide +kernel
theorem dX12_hour_352 : decode cX12_hour 352 = .ok (.iadd, 1) := by decide +kernel
theorem dX12_hour_353 : decode cX12_hour 353 = .ok (.iastore, 1) := by decide +kernel
theorem dX12_hour_354 : decode cX12_hour 354 = .ok (.aload_n 0, 1) := by decide +kernel
theorem dX12_hour_355 : decode cX12_hour 355 = .ok (.getfield 86, 3) := by decide +kernel
theorem dX12_hour_358 : decode cX12_hour 358 = .ok (.sipush 754, 3) := by decide +kernel
theorem dX12_hour_361 : decode cX12_hour 361 = .ok (.dup2, 1) := by decide +kernel
theorem dX12_hour_362 : decode cX12_hour 362 = .ok (.iaload, 1) := by decide +kernel
theorem dX12_hour_363 : decode cX12_hour 363 = .ok (.aload_n 0, 1) := by decide +kernel
theorem dX12_hour_364 : decode cX12_hour 364 = .ok (.getfield 86, 3) := by decide +kernel
theorem dX12_hour_367 : decode cX12_hour 367 = .ok (.iconst 0, 1) := by decide +kernel
theorem dX12_hour_368 : decode cX12_hour 368 = .ok (.iload 5, 2) := by decide +kernel
theorem dX12_hour_370 : decode cX12_hour 370 = .ok (.iadd, 1) := by decide +kernel
theorem dX12_hour_371 : decode cX12_hour 371 = .ok (.iaload, 1) := by decide +kernel
theorem dX12_hour_372 : decode cX12_hour 372 = .ok (.iadd, 1) := by decide +kernel
theorem dX12_hour_373 : decode cX12_hour 373 = .ok (.iastore, 1) := by decide +kernel
theorem dX12_hour_374 : decode cX12_hour 374 = .ok (.aload_n 0, 1) := by decide +kernel
theorem dX12_hour_375 : decode cX12_hour 375 = .ok (.getfield 86, 3) := by decide +kernel
theorem dX12_hour_378 : decode cX12_hour 378 = .ok (.iconst 0, 1) := by decide +kernel
theorem dX12_hour_379 : decode cX12_hour 379 = .ok (.iload 5, 2) := by decide +kernel
theorem dX12_hour_381 : decode cX12_hour 381 = .ok (.iadd, 1) := by decide +kernel
theorem dX12_hour_382 : decode cX12_hour 382 = .ok (.iconst 0, 1) := by decide +kernel
theorem dX12_hour_383 : decode cX12_hour 383 = .ok (.iastore, 1) := by decide +kernel
theorem dX12_hour_384 : decode cX12_hour 384 = .ok (.iinc 5 1, 3) := by decide +kernel
theorem dX12_hour_387 : decode cX12_hour 387 = .ok (.goto (-101), 3) := by decide +kernel
theorem dX12_hour_390 : decode cX12_hour 390 = .ok (.return_, 1) := by decide +kernel
theorem dX12_hours_0 : decode cX12_hours 0 = .ok (.iload_n 1, 1) := by decide +kernel
theorem dX12_hours_1 : decode cX12_hours 1 = .ok (.iconst 1, 1) := by decide +kernel
theorem dX12_hours_2 : decode cX12_hours 2 = .ok (.sipush 2400, 3) := by decide +kernel
theorem dX12_hours_5 : decode cX12_hours 5 = .ok (.aload_n 0, 1) := by decide +kernel
theorem dX12_hours_6 : decode cX12_hours 6 = .ok (.getfield 86, 3) := by decide +kernel
theorem dX12_hours_9 : decode cX12_hours 9 = .ok (.sipush 751, 3) := by decide +kernel
theorem dX12_hours_12 : decode cX12_hours 12 = .ok (.iaload, 1) := by decide +kernel
theorem dX12_hours_13 : decode cX12_hours 13 = .ok (.isub, 1) := by decide +kernel
theorem dX12_hours_14 : decode cX12_hours 14 = .ok (.invokestatic 99, 3) := by decide +kernel
theorem dX12_hours_17 : decode cX12_hours 17 = .ok (.istore_n 2, 1) := by decide +kernel
theorem dX12_hours_18 : decode cX12_hours 18 = .ok (.iload_n 2, 1) := by decide +kernel
theorem dX12_hours_19 : decode cX12_hours 19 = .ok (.ifCond .eq 9, 3) := by decide +kernel
theorem dX12_hours_22 : decode cX12_hours 22 = .ok (.aload_n 0, 1) := by decide +kernel
theorem dX12_hours_23 : decode cX12_hours 23 = .ok (.iload_n 2, 1) := by decide +kernel
theorem dX12_hours_24 : decode cX12_hours 24 = .ok (.invokevirtual 103, 3) := by decide +kernel
theorem dX12_hours_27 : decode cX12_hours 27 = .ok (.ireturn, 1) := by decide +kernel
theorem dX12_hours_28 : decode cX12_hours 28 = .ok (.aload_n 0, 1) := by decide +kernel
theorem dX12_hours_29 : decode cX12_hours 29 = .ok (.getfield 86, 3) := by decide +kernel
theorem dX12_hours_32 : decode cX12_hours 32 = .ok (.sipush 752, 3) := by decide +kernel
theorem dX12_hours_35 : decode cX12_hours 35 = .ok (.iaload, 1) := by decide +kernel
theorem dX12_hours_36 : decode cX12_hours 36 = .ok (.istore_n 3, 1) := by decide +kernel
theorem dX12_hours_37 : decode cX12_hours 37 = .ok (.iconst 0, 1) := by decide +kernel
theorem dX12_hours_38 : decode cX12_hours 38 = .ok (.istore 4, 2) := by decide +kernel
theorem dX12_hours_40 : decode cX12_hours 40 = .ok (.iload 4, 2) := by decide +kernel
theorem dX12_hours_42 : decode cX12_hours 42 = .ok (.iload_n 1, 1) := by decide +kernel
theorem dX12_hours_43 : decode cX12_hours 43 = .ok (.if_icmp .ge 13, 3) := by decide +kernel
theorem dX12_hours_46 : decode cX12_hours 46 = .ok (.aload_n 0, 1) := by decide +kernel
theorem dX12_hours_47 : decode cX12_hours 47 = .ok (.invokevirtual 196, 3) := by decide +kernel
theorem dX12_hours_50 : decode cX12_hours 50 = .ok (.iinc 4 1, 3) := by decide +kernel
theorem dX12_hours_53 : decode cX12_hours 53 = .ok (.goto (-13), 3) := by decide +kernel
theorem dX12_hours_56 : decode cX12_hours 56 = .ok (.aload_n 0, 1) := by decide +kernel
theorem dX12_hours_57 : decode cX12_hours 57 = .ok (.getfield 86, 3) := by decide +kernel
theorem dX12_hours_60 : decode cX12_hours 60 = .ok (.sipush 752, 3) := by decide +kernel
theorem dX12_hours_63 : decode cX12_hours 63 = .ok (.iaload, 1) := by decide +kernel
theorem dX12_hours_64 : decode cX12_hours 64 = .ok (.iload_n 3, 1) := by decide +kernel
theorem dX12_hours_65 : decode cX12_hours 65 = .ok (.isub, 1) := by decide +kernel
theorem dX12_hours_66 : decode cX12_hours 66 = .ok (.ireturn, 1) := by decide +kernel
theorem dX12_begins_0 : decode cX12_begins 0 = .ok (.iconst 0, 1) := by decide +kernel
theorem dX12_begins_1 : decode cX12_begins 1 = .ok (.istore_n 1, 1) := by decide +kernel
theorem dX12_begins_2 : decode cX12_begins 2 = .ok (.iload_n 1, 1) := by decide +kernel
theorem dX12_begins_3 : decode cX12_begins 3 = .ok (.sipush 755, 3) := by decide +kernel
theorem dX12_begins_6 : decode cX12_begins 6 = .ok (.if_icmp .ge 21, 3) := by decide +kernel
theorem dX12_begins_9 : decode cX12_begins 9 = .ok (.aload_n 0, 1) := by decide +kernel
theorem dX12_begins_10 : decode cX12_begins 10 = .ok (.getfield 89, 3) := by decide +kernel
theorem dX12_begins_13 : decode cX12_begins 13 = .ok (.iload_n 1, 1) := by decide +kernel
theorem dX12_begins_14 : decode cX12_begins 14 = .ok (.aload_n 0, 1) := by decide +kernel
theorem dX12_begins_15 : decode cX12_begins 15 = .ok (.getfield 86, 3) := by decide +kernel
theorem dX12_begins_18 : decode cX12_begins 18 = .ok (.iload_n 1, 1) := by decide +kernel
theorem dX12_begins_19 : decode cX12_begins 19 = .ok (.iaload, 1) := by decide +kernel
theorem dX12_begins_20 : decode cX12_begins 20 = .ok (.iastore, 1) := by decide +kernel
theorem dX12_begins_21 : decode cX12_begins 21 = .ok (.iinc 1 1, 3) := by decide +kernel
theorem dX12_begins_24 : decode cX12_begins 24 = .ok (.goto (-22), 3) := by decide +kernel
theorem dX12_begins_27 : decode cX12_begins 27 = .ok (.aload_n 0, 1) := by decide +kernel
theorem dX12_begins_28 : decode cX12_begins 28 = .ok (.iconst 1, 1) := by decide +kernel
theorem dX12_begins_29 : decode cX12_begins 29 = .ok (.putfield 176, 3) := by decide +kernel
theorem dX12_begins_32 : decode cX12_begins 32 = .ok (.return_, 1) := by decide +kernel
theorem dX12_ends_0 : decode cX12_ends 0 = .ok (.iconst 0, 1) := by decide +kernel
theorem dX12_ends_1 : decode cX12_ends 1 = .ok (.istore_n 1, 1) := by decide +kernel
theorem dX12_ends_2 : decode cX12_ends 2 = .ok (.iload_n 1, 1) := by decide +kernel
theorem dX12_ends_3 : decode cX12_ends 3 = .ok (.sipush 755, 3) := by decide +kernel
theorem dX12_ends_6 : decode cX12_ends 6 = .ok (.if_icmp .ge 21, 3) := by decide +kernel
theorem dX12_ends_9 : decode cX12_ends 9 = .ok (.aload_n 0, 1) := by decide +kernel
theorem dX12_ends_10 : decode cX12_ends 10 = .ok (.getfield 86, 3) := by decide +kernel
theorem dX12_ends_13 : decode cX12_ends 13 = .ok (.iload_n 1, 1) := by decide +kernel
theorem dX12_ends_14 : decode cX12_ends 14 = .ok (.aload_n 0, 1) := by decide +kernel
theorem dX12_ends_15 : decode cX12_ends 15 = .ok (.getfield 89, 3) := by decide +kernel
theorem dX12_ends_18 : decode cX12_ends 18 = .ok (.iload_n 1, 1) := by decide +kernel
theorem dX12_ends_19 : decode cX12_ends 19 = .ok (.iaload, 1) := by decide +kernel
theorem dX12_ends_20 : decode cX12_ends 20 = .ok (.iastore, 1) := by decide +kernel
theorem dX12_ends_21 : decode cX12_ends 21 = .ok (.iinc 1 1, 3) := by decide +kernel
theorem dX12_ends_24 : decode cX12_ends 24 = .ok (.goto (-22), 3) := by decide +kernel
theorem dX12_ends_27 : decode cX12_ends 27 = .ok (.aload_n 0, 1) := by decide +kernel
theorem dX12_ends_28 : decode cX12_ends 28 = .ok (.iconst 0, 1) := by decide +kernel
theorem dX12_ends_29 : decode cX12_ends 29 = .ok (.putfield 176, 3) := by decide +kernel
theorem dX12_ends_32 : decode cX12_ends 32 = .ok (.return_, 1) := by decide +kernel
theorem dX12_dried_0 : decode cX12_dried 0 = .ok (.aload_n 0, 1) := by decide +kernel
theorem dX12_dried_1 : decode cX12_dried 1 = .ok (.iconst 2, 1) := by decide +kernel
theorem dX12_dried_2 : decode cX12_dried 2 = .ok (.invokevirtual 193, 3) := by decide +kernel
theorem dX12_dried_5 : decode cX12_dried 5 = .ok (.aload_n 0, 1) := by decide +kernel
theorem dX12_dried_6 : decode cX12_dried 6 = .ok (.iconst 3, 1) := by decide +kernel
theorem dX12_dried_7 : decode cX12_dried 7 = .ok (.invokevirtual 193, 3) := by decide +kernel
theorem dX12_dried_10 : decode cX12_dried 10 = .ok (.iadd, 1) := by decide +kernel
theorem dX12_dried_11 : decode cX12_dried 11 = .ok (.ireturn, 1) := by decide +kernel
theorem dX12_foretell_0 : decode cX12_foretell 0 = .ok (.iload_n 2, 1) := by decide +kernel
theorem dX12_foretell_1 : decode cX12_foretell 1 = .ok (.iconst 5, 1) := by decide +kernel
theorem dX12_foretell_2 : decode cX12_foretell 2 = .ok (.invokestatic 95, 3) := by decide +kernel
theorem dX12_foretell_5 : decode cX12_foretell 5 = .ok (.ifCond .ne 8, 3) := by decide +kernel
theorem dX12_foretell_8 : decode cX12_foretell 8 = .ok (.bipush (-2), 2) := by decide +kernel
theorem dX12_foretell_10 : decode cX12_foretell 10 = .ok (.goto 26, 3) := by decide +kernel
theorem dX12_foretell_13 : decode cX12_foretell 13 = .ok (.iload_n 1, 1) := by decide +kernel
theorem dX12_foretell_14 : decode cX12_foretell 14 = .ok (.iconst 1, 1) := by decide +kernel
theorem dX12_foretell_15 : decode cX12_foretell 15 = .ok (.sipush 240, 3) := by decide +kernel
theorem dX12_foretell_18 : decode cX12_foretell 18 = .ok (.sipush 2400, 3) := by decide +kernel
theorem dX12_foretell_21 : decode cX12_foretell 21 = .ok (.aload_n 0, 1) := by decide +kernel
theorem dX12_foretell_22 : decode cX12_foretell 22 = .ok (.getfield 86, 3) := by decide +kernel
theorem dX12_foretell_25 : decode cX12_foretell 25 = .ok (.sipush 751, 3) := by decide +kernel
theorem dX12_foretell_28 : decode cX12_foretell 28 = .ok (.iaload, 1) := by decide +kernel
theorem dX12_foretell_29 : decode cX12_foretell 29 = .ok (.isub, 1) := by decide +kernel
theorem dX12_foretell_30 : decode cX12_foretell 30 = .ok (.invokestatic 124, 3) := by decide +kernel
theorem dX12_foretell_33 : decode cX12_foretell 33 = .ok (.invokestatic 99, 3) := by decide +kernel
theorem dX12_foretell_36 : decode cX12_foretell 36 = .ok (.istore_n 3, 1) := by decide +kernel
theorem dX12_foretell_37 : decode cX12_foretell 37 = .ok (.iload_n 3, 1) := by decide +kernel
theorem dX12_foretell_38 : decode cX12_foretell 38 = .ok (.ifCond .eq 9, 3) := by decide +kernel
theorem dX12_foretell_41 : decode cX12_foretell 41 = .ok (.aload_n 0, 1) := by decide +kernel
theorem dX12_foretell_42 : decode cX12_foretell 42 = .ok (.iload_n 3, 1) := by decide +kernel
theorem dX12_foretell_43 : decode cX12_foretell 43 = .ok (.invokevirtual 103, 3) := by decide +kernel
theorem dX12_foretell_46 : decode cX12_foretell 46 = .ok (.ireturn, 1) := by decide +kernel
theorem dX12_foretell_47 : decode cX12_foretell 47 = .ok (.aload_n 0, 1) := by decide +kernel
theorem dX12_foretell_48 : decode cX12_foretell 48 = .ok (.invokevirtual 199, 3) := by decide +kernel
theorem dX12_foretell_51 : decode cX12_foretell 51 = .ok (.iconst 0, 1) := by decide +kernel
theorem dX12_foretell_52 : decode cX12_foretell 52 = .ok (.istore 4, 2) := by decide +kernel
theorem dX12_foretell_54 : decode cX12_foretell 54 = .ok (.iload 4, 2) := by decide +kernel
theorem dX12_foretell_56 : decode cX12_foretell 56 = .ok (.iload_n 1, 1) := by decide +kernel
theorem dX12_foretell_57 : decode cX12_foretell 57 = .ok (.if_icmp .ge 13, 3) := by decide +kernel
theorem dX12_foretell_60 : decode cX12_foretell 60 = .ok (.aload_n 0, 1) := by decide +kernel
theorem dX12_foretell_61 : decode cX12_foretell 61 = .ok (.invokevirtual 196, 3) := by decide +kernel
theorem dX12_foretell_64 : decode cX12_foretell 64 = .ok (.iinc 4 1, 3) := by decide +kernel
theorem dX12_foretell_67 : decode cX12_foretell 67 = .ok (.goto (-13), 3) := by decide +kernel
theorem dX12_foretell_70 : decode cX12_foretell 70 = .ok (.iload_n 2, 1) := by decide +kernel
theorem dX12_foretell_71 : decode cX12_foretell 71 = .ok (.ifCond .ne 14, 3) := by decide +kernel
theorem dX12_foretell_74 : decode cX12_foretell 74 = .ok (.aload_n 0, 1) := by decide +kernel
theorem dX12_foretell_75 : decode cX12_foretell 75 = .ok (.getfield 86, 3) := by decide +kernel
theorem dX12_foretell_78 : decode cX12_foretell 78 = .ok (.sipush 752, 3) := by decide +kernel
theorem dX12_foretell_81 : decode cX12_foretell 81 = .ok (.iaload, 1) := by decide +kernel
theorem dX12_foretell_82 : decode cX12_foretell 82 = .ok (.goto 48, 3) := by decide +kernel
theorem dX12_foretell_85 : decode cX12_foretell 85 = .ok (.iload_n 2, 1) := by decide +kernel
theorem dX12_foretell_86 : decode cX12_foretell 86 = .ok (.iconst 1, 1) := by decide +kernel
theorem dX12_foretell_87 : decode cX12_foretell 87 = .ok (.if_icmp .ne 10, 3) := by decide +kernel
theorem dX12_foretell_90 : decode cX12_foretell 90 = .ok (.aload_n 0, 1) := by decide +kernel
theorem dX12_foretell_91 : decode cX12_foretell 91 = .ok (.invokevirtual 202, 3) := by decide +kernel
theorem dX12_foretell_94 : decode cX12_foretell 94 = .ok (.goto 36, 3) := by decide +kernel
theorem dX12_foretell_97 : decode cX12_foretell 97 = .ok (.iload_n 2, 1) := by decide +kernel
theorem dX12_foretell_98 : decode cX12_foretell 98 = .ok (.iconst 2, 1) := by decide +kernel
theorem dX12_foretell_99 : decode cX12_foretell 99 = .ok (.if_icmp .ne 14, 3) := by decide +kernel
theorem dX12_foretell_102 : decode cX12_foretell 102 = .ok (.aload_n 0, 1) := by decide +kernel
theorem dX12_foretell_103 : decode cX12_foretell 103 = .ok (.getfield 86, 3) := by decide +kernel
theorem dX12_foretell_106 : decode cX12_foretell 106 = .ok (.sipush 753, 3) := by decide +kernel
theorem dX12_foretell_109 : decode cX12_foretell 109 = .ok (.iaload, 1) := by decide +kernel
theorem dX12_foretell_110 : decode cX12_foretell 110 = .ok (.goto 20, 3) := by decide +kernel
theorem dX12_foretell_113 : decode cX12_foretell 113 = .ok (.iload_n 2, 1) := by decide +kernel
theorem dX12_foretell_114 : decode cX12_foretell 114 = .ok (.iconst 3, 1) := by decide +kernel
theorem dX12_foretell_115 : decode cX12_foretell 115 = .ok (.if_icmp .ne 14, 3) := by decide +kernel
theorem dX12_foretell_118 : decode cX12_foretell 118 = .ok (.aload_n 0, 1) := by decide +kernel
theorem dX12_foretell_119 : decode cX12_foretell 119 = .ok (.getfield 86, 3) := by decide +kernel
theorem dX12_foretell_122 : decode cX12_foretell 122 = .ok (.sipush 754, 3) := by decide +kernel
theorem dX12_foretell_125 : decode cX12_foretell 125 = .ok (.iaload, 1) := by decide +kernel
theorem dX12_foretell_126 : decode cX12_foretell 126 = .ok (.goto 4, 3) := by decide +kernel
theorem dX12_foretell_129 : decode cX12_foretell 129 = .ok (.iconst 0, 1) := by decide +kernel
theorem dX12_foretell_130 : decode cX12_foretell 130 = .ok (.istore 4, 2) := by decide +kernel
theorem dX12_foretell_132 : decode cX12_foretell 132 = .ok (.iconst 0, 1) := by decide +kernel
theorem dX12_foretell_133 : decode cX12_foretell 133 = .ok (.istore 5, 2) := by decide +kernel
theorem dX12_foretell_135 : decode cX12_foretell 135 = .ok (.iload 5, 2) := by decide +kernel
theorem dX12_foretell_137 : decode cX12_foretell 137 = .ok (.bipush 9, 2) := by decide +kernel
theorem dX12_foretell_139 : decode cX12_foretell 139 = .ok (.if_icmp .ge 29, 3) := by decide +kernel
theorem dX12_foretell_142 : decode cX12_foretell 142 = .ok (.iload_n 2, 1) := by decide +kernel
theorem dX12_foretell_143 : decode cX12_foretell 143 = .ok (.iconst 4, 1) := by decide +kernel
theorem dX12_foretell_144 : decode cX12_foretell 144 = .ok (.if_icmp .ne 24, 3) := by decide +kernel
theorem dX12_foretell_147 : decode cX12_foretell 147 = .ok (.iload 4, 2) := by decide +kernel
theorem dX12_foretell_149 : decode cX12_foretell 149 = .ok (.aload_n 0, 1) := by decide +kernel
theorem dX12_foretell_150 : decode cX12_foretell 150 = .ok (.getfield 86, 3) := by decide +kernel
theorem dX12_foretell_153 : decode cX12_foretell 153 = .ok (.bipush 96, 2) := by decide +kernel
theorem dX12_foretell_155 : decode cX12_foretell 155 = .ok (.iload 5, 2) := by decide +kernel
theorem dX12_foretell_157 : decode cX12_foretell 157 = .ok (.iadd, 1) := by decide +kernel
theorem dX12_foretell_158 : decode cX12_foretell 158 = .ok (.iaload, 1) := by decide +kernel
theorem dX12_foretell_159 : decode cX12_foretell 159 = .ok (.iadd, 1) := by decide +kernel
theorem dX12_foretell_160 : decode cX12_foretell 160 = .ok (.istore 4, 2) := by decide +kernel
theorem dX12_foretell_162 : decode cX12_foretell 162 = .ok (.iinc 5 1, 3) := by decide +kernel
theorem dX12_foretell_165 : decode cX12_foretell 165 = .ok (.goto (-30), 3) := by decide +kernel
theorem dX12_foretell_168 : decode cX12_foretell 168 = .ok (.aload_n 0, 1) := by decide +kernel
theorem dX12_foretell_169 : decode cX12_foretell 169 = .ok (.invokevirtual 205, 3) := by decide +kernel
theorem dX12_foretell_172 : decode cX12_foretell 172 = .ok (.iload 4, 2) := by decide +kernel
theorem dX12_foretell_174 : decode cX12_foretell 174 = .ok (.ireturn, 1) := by decide +kernel
theorem dX12_when_0 : decode cX12_when 0 = .ok (.iload_n 1, 1) := by decide +kernel
theorem dX12_when_1 : decode cX12_when 1 = .ok (.iconst 0, 1) := by decide +kernel
theorem dX12_when_2 : decode cX12_when 2 = .ok (.bipush 80, 2) := by decide +kernel
theorem dX12_when_4 : decode cX12_when 4 = .ok (.invokestatic 99, 3) := by decide +kernel
theorem dX12_when_7 : decode cX12_when 7 = .ok (.istore_n 2, 1) := by decide +kernel
theorem dX12_when_8 : decode cX12_when 8 = .ok (.iload_n 2, 1) := by decide +kernel
theorem dX12_when_9 : decode cX12_when 9 = .ok (.ifCond .eq 9, 3) := by decide +kernel
theorem dX12_when_12 : decode cX12_when 12 = .ok (.aload_n 0, 1) := by decide +kernel
theorem dX12_when_13 : decode cX12_when 13 = .ok (.iload_n 2, 1) := by decide +kernel
theorem dX12_when_14 : decode cX12_when 14 = .ok (.invokevirtual 103, 3) := by decide +kernel
theorem dX12_when_17 : decode cX12_when 17 = .ok (.ireturn, 1) := by decide +kernel
theorem dX12_when_18 : decode cX12_when 18 = .ok (.aload_n 0, 1) := by decide +kernel
theorem dX12_when_19 : decode cX12_when 19 = .ok (.invokevirtual 199, 3) := by decide +kernel
theorem dX12_when_22 : decode cX12_when 22 = .ok (.iconst 0, 1) := by decide +kernel
theorem dX12_when_23 : decode cX12_when 23 = .ok (.istore_n 3, 1) := by decide +kernel
theorem dX12_when_24 : decode cX12_when 24 = .ok (.iload_n 3, 1) := by decide +kernel
theorem dX12_when_25 : decode cX12_when 25 = .ok (.sipush 240, 3) := by decide +kernel
theorem dX12_when_28 : decode cX12_when 28 = .ok (.if_icmp .ge 35, 3) := by decide +kernel
theorem dX12_when_31 : decode cX12_when 31 = .ok (.aload_n 0, 1) := by decide +kernel
theorem dX12_when_32 : decode cX12_when 32 = .ok (.invokevirtual 202, 3) := by decide +kernel
theorem dX12_when_35 : decode cX12_when 35 = .ok (.iload_n 1, 1) := by decide +kernel
theorem dX12_when_36 : decode cX12_when 36 = .ok (.if_icmp .ge 27, 3) := by decide +kernel
theorem dX12_when_39 : decode cX12_when 39 = .ok (.aload_n 0, 1) := by decide +kernel
theorem dX12_when_40 : decode cX12_when 40 = .ok (.getfield 86, 3) := by decide +kernel
theorem dX12_when_43 : decode cX12_when 43 = .ok (.sipush 751, 3) := by decide +kernel
theorem dX12_when_46 : decode cX12_when 46 = .ok (.iaload, 1) := by decide +kernel
theorem dX12_when_47 : decode cX12_when 47 = .ok (.sipush 2400, 3) := by decide +kernel
theorem dX12_when_50 : decode cX12_when 50 = .ok (.if_icmp .ge 13, 3) := by decide +kernel
theorem dX12_when_53 : decode cX12_when 53 = .ok (.aload_n 0, 1) := by decide +kernel
theorem dX12_when_54 : decode cX12_when 54 = .ok (.invokevirtual 196, 3) := by decide +kernel
theorem dX12_when_57 : decode cX12_when 57 = .ok (.iinc 3 1, 3) := by decide +kernel
theorem dX12_when_60 : decode cX12_when 60 = .ok (.goto (-36), 3) := by decide +kernel
theorem dX12_when_63 : decode cX12_when 63 = .ok (.aload_n 0, 1) := by decide +kernel
theorem dX12_when_64 : decode cX12_when 64 = .ok (.invokevirtual 202, 3) := by decide +kernel
theorem dX12_when_67 : decode cX12_when 67 = .ok (.iload_n 1, 1) := by decide +kernel
theorem dX12_when_68 : decode cX12_when 68 = .ok (.if_icmp .lt 14, 3) := by decide +kernel
theorem dX12_when_71 : decode cX12_when 71 = .ok (.aload_n 0, 1) := by decide +kernel
theorem dX12_when_72 : decode cX12_when 72 = .ok (.getfield 86, 3) := by decide +kernel
theorem dX12_when_75 : decode cX12_when 75 = .ok (.sipush 751, 3) := by decide +kernel
theorem dX12_when_78 : decode cX12_when 78 = .ok (.iaload, 1) := by decide +kernel
theorem dX12_when_79 : decode cX12_when 79 = .ok (.goto 5, 3) := by decide +kernel
theorem dX12_when_82 : decode cX12_when 82 = .ok (.bipush (-9), 2) := by decide +kernel
theorem dX12_when_84 : decode cX12_when 84 = .ok (.istore_n 3, 1) := by decide +kernel
theorem dX12_when_85 : decode cX12_when 85 = .ok (.aload_n 0, 1) := by decide +kernel
theorem dX12_when_86 : decode cX12_when 86 = .ok (.invokevirtual 205, 3) := by decide +kernel
theorem dX12_when_89 : decode cX12_when 89 = .ok (.iload_n 3, 1) := by decide +kernel
theorem dX12_when_90 : decode cX12_when 90 = .ok (.ireturn, 1) := by decide +kernel
theorem dX12_mark_0 : decode cX12_mark 0 = .ok (.iload_n 1, 1) := by decide +kernel
theorem dX12_mark_1 : decode cX12_mark 1 = .ok (.aload_n 0, 1) := by decide +kernel
theorem dX12_mark_2 : decode cX12_mark 2 = .ok (.getfield 86, 3) := by decide +kernel
theorem dX12_mark_5 : decode cX12_mark 5 = .ok (.sipush 752, 3) := by decide +kernel
theorem dX12_mark_8 : decode cX12_mark 8 = .ok (.iaload, 1) := by decide +kernel
theorem dX12_mark_9 : decode cX12_mark 9 = .ok (.invokestatic 95, 3) := by decide +kernel
theorem dX12_mark_12 : decode cX12_mark 12 = .ok (.ifCond .eq 40, 3) := by decide +kernel
theorem dX12_mark_15 : decode cX12_mark 15 = .ok (.iload_n 2, 1) := by decide +kernel
theorem dX12_mark_16 : decode cX12_mark 16 = .ok (.bipush 60, 2) := by decide +kernel
theorem dX12_mark_18 : decode cX12_mark 18 = .ok (.invokestatic 95, 3) := by decide +kernel
theorem dX12_mark_21 : decode cX12_mark 21 = .ok (.ifCond .eq 31, 3) := by decide +kernel
theorem dX12_mark_24 : decode cX12_mark 24 = .ok (.iload_n 3, 1) := by decide +kernel
theorem dX12_mark_25 : decode cX12_mark 25 = .ok (.bipush 6, 2) := by decide +kernel
theorem dX12_mark_27 : decode cX12_mark 27 = .ok (.invokestatic 95, 3) := by decide +kernel
theorem dX12_mark_30 : decode cX12_mark 30 = .ok (.ifCond .eq 22, 3) := by decide +kernel
theorem dX12_mark_33 : decode cX12_mark 33 = .ok (.aload_n 0, 1) := by decide +kernel
theorem dX12_mark_34 : decode cX12_mark 34 = .ok (.getfield 77, 3) := by decide +kernel
theorem dX12_mark_37 : decode cX12_mark 37 = .ok (.bipush 6, 2) := by decide +kernel
theorem dX12_mark_39 : decode cX12_mark 39 = .ok (.bipush 60, 2) := by decide +kernel
theorem dX12_mark_41 : decode cX12_mark 41 = .ok (.iload_n 1, 1) := by decide +kernel
theorem dX12_mark_42 : decode cX12_mark 42 = .ok (.imul, 1) := by decide +kernel
theorem dX12_mark_43 : decode cX12_mark 43 = .ok (.iload_n 2, 1) := by decide +kernel
theorem dX12_mark_44 : decode cX12_mark 44 = .ok (.iadd, 1) := by decide +kernel
theorem dX12_mark_45 : decode cX12_mark 45 = .ok (.imul, 1) := by decide +kernel
theorem dX12_mark_46 : decode cX12_mark 46 = .ok (.iload_n 3, 1) := by decide +kernel
theorem dX12_mark_47 : decode cX12_mark 47 = .ok (.iadd, 1) := by decide +kernel
theorem dX12_mark_48 : decode cX12_mark 48 = .ok (.iaload, 1) := by decide +kernel
theorem dX12_mark_49 : decode cX12_mark 49 = .ok (.goto 8, 3) := by decide +kernel
theorem dX12_mark_52 : decode cX12_mark 52 = .ok (.aload_n 0, 1) := by decide +kernel
theorem dX12_mark_53 : decode cX12_mark 53 = .ok (.iconst (-1), 1) := by decide +kernel
theorem dX12_mark_54 : decode cX12_mark 54 = .ok (.invokevirtual 103, 3) := by decide +kernel
theorem dX12_mark_57 : decode cX12_mark 57 = .ok (.ireturn, 1) := by decide +kernel
theorem dX12_olds_0 : decode cX12_olds 0 = .ok (.iload_n 2, 1) := by decide +kernel
theorem dX12_olds_1 : decode cX12_olds 1 = .ok (.iconst (-1), 1) := by decide +kernel
theorem dX12_olds_2 : decode cX12_olds 2 = .ok (.if_icmp .lt 14, 3) := by decide +kernel
theorem dX12_olds_5 : decode cX12_olds 5 = .ok (.iload_n 3, 1) := by decide +kernel
theorem dX12_olds_6 : decode cX12_olds 6 = .ok (.iconst (-1), 1) := by decide +kernel
theorem dX12_olds_7 : decode cX12_olds 7 = .ok (.if_icmp .lt 9, 3) := by decide +kernel
theorem dX12_olds_10 : decode cX12_olds 10 = .ok (.iload 4, 2) := by decide +kernel
theorem dX12_olds_12 : decode cX12_olds 12 = .ok (.iconst (-1), 1) := by decide +kernel
theorem dX12_olds_13 : decode cX12_olds 13 = .ok (.if_icmp .ge 10, 3) := by decide +kernel
theorem dX12_olds_16 : decode cX12_olds 16 = .ok (.aload_n 0, 1) := by decide +kernel
theorem dX12_olds_17 : decode cX12_olds 17 = .ok (.bipush (-4), 2) := by decide +kernel
theorem dX12_olds_19 : decode cX12_olds 19 = .ok (.invokevirtual 103, 3) := by decide +kernel
theorem dX12_olds_22 : decode cX12_olds 22 = .ok (.ireturn, 1) := by decide +kernel
theorem dX12_olds_23 : decode cX12_olds 23 = .ok (.iload_n 2, 1) := by decide +kernel
theorem dX12_olds_24 : decode cX12_olds 24 = .ok (.bipush 99, 2) := by decide +kernel
theorem dX12_olds_26 : decode cX12_olds 26 = .ok (.if_icmp .gt 16, 3) := by decide +kernel
theorem dX12_olds_29 : decode cX12_olds 29 = .ok (.iload_n 3, 1) := by decide +kernel
theorem dX12_olds_30 : decode cX12_olds 30 = .ok (.bipush 99, 2) := by decide +kernel
theorem dX12_olds_32 : decode cX12_olds 32 = .ok (.if_icmp .gt 10, 3) := by decide +kernel
theorem dX12_olds_35 : decode cX12_olds 35 = .ok (.iload 4, 2) := by decide +kernel
theorem dX12_olds_37 : decode cX12_olds 37 = .ok (.bipush 99, 2) := by decide +kernel
theorem dX12_olds_39 : decode cX12_olds 39 = .ok (.if_icmp .le 10, 3) := by decide +kernel
theorem dX12_olds_42 : decode cX12_olds 42 = .ok (.aload_n 0, 1) := by decide +kernel
theorem dX12_olds_43 : decode cX12_olds 43 = .ok (.bipush (-6), 2) := by decide +kernel
theorem dX12_olds_45 : decode cX12_olds 45 = .ok (.invokevirtual 103, 3) := by decide +kernel
theorem dX12_olds_48 : decode cX12_olds 48 = .ok (.ireturn, 1) := by decide +kernel
theorem dX12_olds_49 : decode cX12_olds 49 = .ok (.aload_n 0, 1) := by decide +kernel
theorem dX12_olds_50 : decode cX12_olds 50 = .ok (.getfield 83, 3) := by decide +kernel
theorem dX12_olds_53 : decode cX12_olds 53 = .ok (.iload_n 1, 1) := by decide +kernel
theorem dX12_olds_54 : decode cX12_olds 54 = .ok (.iload_n 2, 1) := by decide +kernel
theorem dX12_olds_55 : decode cX12_olds 55 = .ok (.iastore, 1) := by decide +kernel
theorem dX12_olds_56 : decode cX12_olds 56 = .ok (.aload_n 0, 1) := by decide +kernel
theorem dX12_olds_57 : decode cX12_olds 57 = .ok (.getfield 83, 3) := by decide +kernel
theorem dX12_olds_60 : decode cX12_olds 60 = .ok (.iload_n 1, 1) := by decide +kernel
theorem dX12_olds_61 : decode cX12_olds 61 = .ok (.iconst 1, 1) := by decide +kernel
theorem dX12_olds_62 : decode cX12_olds 62 = .ok (.iadd, 1) := by decide +kernel
theorem dX12_olds_63 : decode cX12_olds 63 = .ok (.iload_n 3, 1) := by decide +kernel
theorem dX12_olds_64 : decode cX12_olds 64 = .ok (.iastore, 1) := by decide +kernel
theorem dX12_olds_65 : decode cX12_olds 65 = .ok (.aload_n 0, 1) := by decide +kernel
theorem dX12_olds_66 : decode cX12_olds 66 = .ok (.getfield 83, 3) := by decide +kernel
theorem dX12_olds_69 : decode cX12_olds 69 = .ok (.iload_n 1, 1) := by decide +kernel
theorem dX12_olds_70 : decode cX12_olds 70 = .ok (.iconst 2, 1) := by decide +kernel
theorem dX12_olds_71 : decode cX12_olds 71 = .ok (.iadd, 1) := by decide +kernel
theorem dX12_olds_72 : decode cX12_olds 72 = .ok (.iload 4, 2) := by decide +kernel
theorem dX12_olds_74 : decode cX12_olds 74 = .ok (.iastore, 1) := by decide +kernel
theorem dX12_olds_75 : decode cX12_olds 75 = .ok (.iconst 1, 1) := by decide +kernel
theorem dX12_olds_76 : decode cX12_olds 76 = .ok (.ireturn, 1) := by decide +kernel
theorem dX12_oldA_0 : decode cX12_oldA 0 = .ok (.aload_n 0, 1) := by decide +kernel
theorem dX12_oldA_1 : decode cX12_oldA 1 = .ok (.iconst 0, 1) := by decide +kernel
theorem dX12_oldA_2 : decode cX12_oldA 2 = .ok (.iload_n 1, 1) := by decide +kernel
theorem dX12_oldA_3 : decode cX12_oldA 3 = .ok (.iload_n 2, 1) := by decide +kernel
theorem dX12_oldA_4 : decode cX12_oldA 4 = .ok (.iload_n 3, 1) := by decide +kernel
theorem dX12_oldA_5 : decode cX12_oldA 5 = .ok (.invokevirtual 208, 3) := by decide +kernel
theorem dX12_oldA_8 : decode cX12_oldA 8 = .ok (.ireturn, 1) := by decide +kernel
theorem dX12_oldB_0 : decode cX12_oldB 0 = .ok (.aload_n 0, 1) := by decide +kernel
theorem dX12_oldB_1 : decode cX12_oldB 1 = .ok (.iconst 3, 1) := by decide +kernel
theorem dX12_oldB_2 : decode cX12_oldB 2 = .ok (.iload_n 1, 1) := by decide +kernel
theorem dX12_oldB_3 : decode cX12_oldB 3 = .ok (.iload_n 2, 1) := by decide +kernel
theorem dX12_oldB_4 : decode cX12_oldB 4 = .ok (.iload_n 3, 1) := by decide +kernel
theorem dX12_oldB_5 : decode cX12_oldB 5 = .ok (.invokevirtual 208, 3) := by decide +kernel
theorem dX12_oldB_8 : decode cX12_oldB 8 = .ok (.ireturn, 1) := by decide +kernel
theorem dX12_far_0 : decode cX12_far 0 = .ok (.aload_n 0, 1) := by decide +kernel
theorem dX12_far_1 : decode cX12_far 1 = .ok (.getfield 83, 3) := by decide +kernel
theorem dX12_far_4 : decode cX12_far 4 = .ok (.iload_n 2, 1) := by decide +kernel
theorem dX12_far_5 : decode cX12_far 5 = .ok (.iaload, 1) := by decide +kernel
theorem dX12_far_6 : decode cX12_far 6 = .ok (.ifCond .ge 7, 3) := by decide +kernel
theorem dX12_far_9 : decode cX12_far 9 = .ok (.iconst 0, 1) := by decide +kernel
theorem dX12_far_10 : decode cX12_far 10 = .ok (.goto 24, 3) := by decide +kernel
theorem dX12_far_13 : decode cX12_far 13 = .ok (.aload_n 0, 1) := by decide +kernel
theorem dX12_far_14 : decode cX12_far 14 = .ok (.getfield 83, 3) := by decide +kernel
theorem dX12_far_17 : decode cX12_far 17 = .ok (.iload_n 2, 1) := by decide +kernel
theorem dX12_far_18 : decode cX12_far 18 = .ok (.iaload, 1) := by decide +kernel
theorem dX12_far_19 : decode cX12_far 19 = .ok (.aload_n 0, 1) := by decide +kernel
theorem dX12_far_20 : decode cX12_far 20 = .ok (.getfield 77, 3) := by decide +kernel
theorem dX12_far_23 : decode cX12_far 23 = .ok (.bipush 6, 2) := by decide +kernel
theorem dX12_far_25 : decode cX12_far 25 = .ok (.iload_n 1, 1) := by decide +kernel
theorem dX12_far_26 : decode cX12_far 26 = .ok (.imul, 1) := by decide +kernel
theorem dX12_far_27 : decode cX12_far 27 = .ok (.iload_n 2, 1) := by decide +kernel
theorem dX12_far_28 : decode cX12_far 28 = .ok (.iadd, 1) := by decide +kernel
theorem dX12_far_29 : decode cX12_far 29 = .ok (.iaload, 1) := by decide +kernel
theorem dX12_far_30 : decode cX12_far 30 = .ok (.isub, 1) := by decide +kernel
theorem dX12_far_31 : decode cX12_far 31 = .ok (.invokestatic 212, 3) := by decide +kernel
theorem dX12_far_34 : decode cX12_far 34 = .ok (.ireturn, 1) := by decide +kernel
theorem dX12_isBy_0 : decode cX12_isBy 0 = .ok (.iconst 1, 1) := by decide +kernel
theorem dX12_isBy_1 : decode cX12_isBy 1 = .ok (.istore_n 3, 1) := by decide +kernel
theorem dX12_isBy_2 : decode cX12_isBy 2 = .ok (.iconst 0, 1) := by decide +kernel
theorem dX12_isBy_3 : decode cX12_isBy 3 = .ok (.istore 4, 2) := by decide +kernel
theorem dX12_isBy_5 : decode cX12_isBy 5 = .ok (.iload 4, 2) := by decide +kernel
theorem dX12_isBy_7 : decode cX12_isBy 7 = .ok (.bipush 6, 2) := by decide +kernel
theorem dX12_isBy_9 : decode cX12_isBy 9 = .ok (.if_icmp .ge 30, 3) := by decide +kernel
theorem dX12_isBy_12 : decode cX12_isBy 12 = .ok (.iload_n 3, 1) := by decide +kernel
theorem dX12_isBy_13 : decode cX12_isBy 13 = .ok (.ifCond .eq 18, 3) := by decide +kernel
theorem dX12_isBy_16 : decode cX12_isBy 16 = .ok (.aload_n 0, 1) := by decide +kernel
theorem dX12_isBy_17 : decode cX12_isBy 17 = .ok (.iload_n 1, 1) := by decide +kernel
theorem dX12_isBy_18 : decode cX12_isBy 18 = .ok (.iload 4, 2) := by decide +kernel
theorem dX12_isBy_20 : decode cX12_isBy 20 = .ok (.invokevirtual 215, 3) := by decide +kernel
theorem dX12_isBy_23 : decode cX12_isBy 23 = .ok (.iload_n 2, 1) := by decide +kernel
theorem dX12_isBy_24 : decode cX12_isBy 24 = .ok (.if_icmp .gt 7, 3) := by decide +kernel
theorem dX12_isBy_27 : decode cX12_isBy 27 = .ok (.iconst 1, 1) := by decide +kernel
theorem dX12_isBy_28 : decode cX12_isBy 28 = .ok (.goto 4, 3) := by decide +kernel
theorem dX12_isBy_31 : decode cX12_isBy 31 = .ok (.iconst 0, 1) := by decide +kernel
theorem dX12_isBy_32 : decode cX12_isBy 32 = .ok (.istore_n 3, 1) := by decide +kernel
theorem dX12_isBy_33 : decode cX12_isBy 33 = .ok (.iinc 4 1, 3) := by decide +kernel
theorem dX12_isBy_36 : decode cX12_isBy 36 = .ok (.goto (-31), 3) := by decide +kernel
theorem dX12_isBy_39 : decode cX12_isBy 39 = .ok (.iload_n 3, 1) := by decide +kernel
theorem dX12_isBy_40 : decode cX12_isBy 40 = .ok (.ireturn, 1) := by decide +kernel
theorem dX12_lies_0 : decode cX12_lies 0 = .ok (.iload_n 1, 1) := by decide +kernel
theorem dX12_lies_1 : decode cX12_lies 1 = .ok (.iconst 0, 1) := by decide +kernel
theorem dX12_lies_2 : decode cX12_lies 2 = .ok (.bipush 99, 2) := by decide +kernel
theorem dX12_lies_4 : decode cX12_lies 4 = .ok (.invokestatic 99, 3) := by decide +kernel
theorem dX12_lies_7 : decode cX12_lies 7 = .ok (.istore_n 2, 1) := by decide +kernel
theorem dX12_lies_8 : decode cX12_lies 8 = .ok (.iload_n 2, 1) := by decide +kernel
theorem dX12_lies_9 : decode cX12_lies 9 = .ok (.ifCond .eq 9, 3) := by decide +kernel
theorem dX12_lies_12 : decode cX12_lies 12 = .ok (.aload_n 0, 1) := by decide +kernel
theorem dX12_lies_13 : decode cX12_lies 13 = .ok (.iload_n 2, 1) := by decide +kernel
theorem dX12_lies_14 : decode cX12_lies 14 = .ok (.invokevirtual 103, 3) := by decide +kernel
theorem dX12_lies_17 : decode cX12_lies 17 = .ok (.ireturn, 1) := by decide +kernel
theorem dX12_lies_18 : decode cX12_lies 18 = .ok (.iconst 0, 1) := by decide +kernel
theorem dX12_lies_19 : decode cX12_lies 19 = .ok (.istore_n 3, 1) := by decide +kernel
theorem dX12_lies_20 : decode cX12_lies 20 = .ok (.iconst 0, 1) := by decide +kernel
theorem dX12_lies_21 : decode cX12_lies 21 = .ok (.istore 4, 2) := by decide +kernel
theorem dX12_lies_23 : decode cX12_lies 23 = .ok (.iload 4, 2) := by decide +kernel
theorem dX12_lies_25 : decode cX12_lies 25 = .ok (.bipush 60, 2) := by decide +kernel
theorem dX12_lies_27 : decode cX12_lies 27 = .ok (.aload_n 0, 1) := by decide +kernel
theorem dX12_lies_28 : decode cX12_lies 28 = .ok (.getfield 86, 3) := by decide +kernel
theorem dX12_lies_31 : decode cX12_lies 31 = .ok (.sipush 752, 3) := by decide +kernel
theorem dX12_lies_34 : decode cX12_lies 34 = .ok (.iaload, 1) := by decide +kernel
theorem dX12_lies_35 : decode cX12_lies 35 = .ok (.imul, 1) := by decide +kernel
theorem dX12_lies_36 : decode cX12_lies 36 = .ok (.if_icmp .ge 27, 3) := by decide +kernel
theorem dX12_lies_39 : decode cX12_lies 39 = .ok (.iload_n 3, 1) := by decide +kernel
theorem dX12_lies_40 : decode cX12_lies 40 = .ok (.aload_n 0, 1) := by decide +kernel
theorem dX12_lies_41 : decode cX12_lies 41 = .ok (.iload 4, 2) := by decide +kernel
theorem dX12_lies_43 : decode cX12_lies 43 = .ok (.iload_n 1, 1) := by decide +kernel
theorem dX12_lies_44 : decode cX12_lies 44 = .ok (.invokevirtual 218, 3) := by decide +kernel
theorem dX12_lies_47 : decode cX12_lies 47 = .ok (.ifCond .eq 7, 3) := by decide +kernel
theorem dX12_lies_50 : decode cX12_lies 50 = .ok (.iconst 1, 1) := by decide +kernel
theorem dX12_lies_51 : decode cX12_lies 51 = .ok (.goto 4, 3) := by decide +kernel
theorem dX12_lies_54 : decode cX12_lies 54 = .ok (.iconst 0, 1) := by decide +kernel
theorem dX12_lies_55 : decode cX12_lies 55 = .ok (.iadd, 1) := by decide +kernel
theorem dX12_lies_56 : decode cX12_lies 56 = .ok (.istore_n 3, 1) := by decide +kernel
theorem dX12_lies_57 : decode cX12_lies 57 = .ok (.iinc 4 1, 3) := by decide +kernel
theorem dX12_lies_60 : decode cX12_lies 60 = .ok (.goto (-37), 3) := by decide +kernel
theorem dX12_lies_63 : decode cX12_lies 63 = .ok (.iload_n 3, 1) := by decide +kernel
theorem dX12_lies_64 : decode cX12_lies 64 = .ok (.ireturn, 1) := by decide +kernel
theorem dX12_mouldOfSheet_0 : decode cX12_mouldOfSheet 0 = .ok (.iconst 2, 1) := by decide +kernel
theorem dX12_mouldOfSheet_1 : decode cX12_mouldOfSheet 1 = .ok (.aload_n 0, 1) := by decide +kernel
theorem dX12_mouldOfSheet_2 : decode cX12_mouldOfSheet 2 = .ok (.iload_n 1, 1) := by decide +kernel
theorem dX12_mouldOfSheet_3 : decode cX12_mouldOfSheet 3 = .ok (.bipush 60, 2) := by decide +kernel
theorem dX12_mouldOfSheet_5 : decode cX12_mouldOfSheet 5 = .ok (.idiv, 1) := by decide +kernel
theorem dX12_mouldOfSheet_6 : decode cX12_mouldOfSheet 6 = .ok (.iconst 1, 1) := by decide +kernel
theorem dX12_mouldOfSheet_7 : decode cX12_mouldOfSheet 7 = .ok (.invokevirtual 138, 3) := by decide +kernel
theorem dX12_mouldOfSheet_10 : decode cX12_mouldOfSheet 10 = .ok (.imul, 1) := by decide +kernel
theorem dX12_mouldOfSheet_11 : decode cX12_mouldOfSheet 11 = .ok (.iload_n 1, 1) := by decide +kernel
theorem dX12_mouldOfSheet_12 : decode cX12_mouldOfSheet 12 = .ok (.iconst 2, 1) := by decide +kernel
theorem dX12_mouldOfSheet_13 : decode cX12_mouldOfSheet 13 = .ok (.irem, 1) := by decide +kernel
theorem dX12_mouldOfSheet_14 : decode cX12_mouldOfSheet 14 = .ok (.iadd, 1) := by decide +kernel
theorem dX12_mouldOfSheet_15 : decode cX12_mouldOfSheet 15 = .ok (.ireturn, 1) := by decide +kernel
theorem dX12_nearest_0 : decode cX12_nearest 0 = .ok (.iload_n 1, 1) := by decide +kernel
theorem dX12_nearest_1 : decode cX12_nearest 1 = .ok (.iconst 5, 1) := by decide +kernel
theorem dX12_nearest_2 : decode cX12_nearest 2 = .ok (.invokestatic 95, 3) := by decide +kernel
theorem dX12_nearest_5 : decode cX12_nearest 5 = .ok (.ifCond .ne 10, 3) := by decide +kernel
theorem dX12_nearest_8 : decode cX12_nearest 8 = .ok (.aload_n 0, 1) := by decide +kernel
theorem dX12_nearest_9 : decode cX12_nearest 9 = .ok (.bipush (-2), 2) := by decide +kernel
theorem dX12_nearest_11 : decode cX12_nearest 11 = .ok (.invokevirtual 103, 3) := by decide +kernel
theorem dX12_nearest_14 : decode cX12_nearest 14 = .ok (.ireturn, 1) := by decide +kernel
theorem dX12_nearest_15 : decode cX12_nearest 15 = .ok (.iconst (-1), 1) := by decide +kernel
theorem dX12_nearest_16 : decode cX12_nearest 16 = .ok (.istore_n 2, 1) := by decide +kernel
theorem dX12_nearest_17 : decode cX12_nearest 17 = .ok (.iconst 0, 1) := by decide +kernel
theorem dX12_nearest_18 : decode cX12_nearest 18 = .ok (.istore_n 3, 1) := by decide +kernel
theorem dX12_nearest_19 : decode cX12_nearest 19 = .ok (.iconst 0, 1) := by decide +kernel
theorem dX12_nearest_20 : decode cX12_nearest 20 = .ok (.istore 4, 2) := by decide +kernel
theorem dX12_nearest_22 : decode cX12_nearest 22 = .ok (.iload 4, 2) := by decide +kernel
theorem dX12_nearest_24 : decode cX12_nearest 24 = .ok (.bipush 60, 2) := by decide +kernel
theorem dX12_nearest_26 : decode cX12_nearest 26 = .ok (.aload_n 0, 1) := by decide +kernel
theorem dX12_nearest_27 : decode cX12_nearest 27 = .ok (.getfield 86, 3) := by decide +kernel
theorem dX12_nearest_30 : decode cX12_nearest 30 = .ok (.sipush 752, 3) := by decide +kernel
theorem dX12_nearest_33 : decode cX12_nearest 33 = .ok (.iaload, 1) := by decide +kernel
theorem dX12_nearest_34 : decode cX12_nearest 34 = .ok (.imul, 1) := by decide +kernel
theorem dX12_nearest_35 : decode cX12_nearest 35 = .ok (.if_icmp .ge 60, 3) := by decide +kernel
theorem dX12_nearest_38 : decode cX12_nearest 38 = .ok (.iconst 0, 1) := by decide +kernel
theorem dX12_nearest_39 : decode cX12_nearest 39 = .ok (.istore 5, 2) := by decide +kernel
theorem dX12_nearest_41 : decode cX12_nearest 41 = .ok (.iconst 0, 1) := by decide +kernel
theorem dX12_nearest_42 : decode cX12_nearest 42 = .ok (.istore 6, 2) := by decide +kernel
theorem dX12_nearest_44 : decode cX12_nearest 44 = .ok (.iload 6, 2) := by decide +kernel
theorem dX12_nearest_46 : decode cX12_nearest 46 = .ok (.bipush 6, 2) := by decide +kernel
theorem dX12_nearest_48 : decode cX12_nearest 48 = .ok (.if_icmp .ge 22, 3) := by decide +kernel
theorem dX12_nearest_51 : decode cX12_nearest 51 = .ok (.iload 5, 2) := by decide +kernel
theorem dX12_nearest_53 : decode cX12_nearest 53 = .ok (.aload_n 0, 1) := by decide +kernel
theorem dX12_nearest_54 : decode cX12_nearest 54 = .ok (.iload 4, 2) := by decide +kernel
theorem dX12_nearest_56 : decode cX12_nearest 56 = .ok (.iload 6, 2) := by decide +kernel
theorem dX12_nearest_58 : decode cX12_nearest 58 = .ok (.invokevirtual 215, 3) := by decide +kernel
theorem dX12_nearest_61 : decode cX12_nearest 61 = .ok (.iadd, 1) := by decide +kernel
theorem dX12_nearest_62 : decode cX12_nearest 62 = .ok (.istore 5, 2) := by decide +kernel
theorem dX12_nearest_64 : decode cX12_nearest 64 = .ok (.iinc 6 1, 3) := by decide +kernel
theorem dX12_nearest_67 : decode cX12_nearest 67 = .ok (.goto (-23), 3) := by decide +kernel
theorem dX12_nearest_70 : decode cX12_nearest 70 = .ok (.iload_n 2, 1) := by decide +kernel
theorem dX12_nearest_71 : decode cX12_nearest 71 = .ok (.ifCond .lt 12, 3) := by decide +kernel
theorem dX12_nearest_74 : decode cX12_nearest 74 = .ok (.iload 5, 2) := by decide +kernel
theorem dX12_nearest_76 : decode cX12_nearest 76 = .ok (.iload_n 3, 1) := by decide +kernel
theorem dX12_nearest_77 : decode cX12_nearest 77 = .ok (.if_icmp .lt 6, 3) := by decide +kernel
theorem dX12_nearest_80 : decode cX12_nearest 80 = .ok (.goto 9, 3) := by decide +kernel
theorem dX12_nearest_83 : decode cX12_nearest 83 = .ok (.iload 4, 2) := by decide +kernel
theorem dX12_nearest_85 : decode cX12_nearest 85 = .ok (.istore_n 2, 1) := by decide +kernel
theorem dX12_nearest_86 : decode cX12_nearest 86 = .ok (.iload 5, 2) := by decide +kernel
theorem dX12_nearest_88 : decode cX12_nearest 88 = .ok (.istore_n 3, 1) := by decide +kernel
theorem dX12_nearest_89 : decode cX12_nearest 89 = .ok (.iinc 4 1, 3) := by decide +kernel
theorem dX12_nearest_92 : decode cX12_nearest 92 = .ok (.goto (-70), 3) := by decide +kernel
theorem dX12_nearest_95 : decode cX12_nearest 95 = .ok (.iload_n 2, 1) := by decide +kernel
theorem dX12_nearest_96 : decode cX12_nearest 96 = .ok (.ifCond .ge 6, 3) := by decide +kernel
theorem dX12_nearest_99 : decode cX12_nearest 99 = .ok (.bipush (-9), 2) := by decide +kernel
theorem dX12_nearest_101 : decode cX12_nearest 101 = .ok (.ireturn, 1) := by decide +kernel
theorem dX12_nearest_102 : decode cX12_nearest 102 = .ok (.iload_n 1, 1) := by decide +kernel
theorem dX12_nearest_103 : decode cX12_nearest 103 = .ok (.tableswitch 47 0 3 #[29, 34, 39, 45], 29) := by decide +kernel
theorem dX12_nearest_132 : decode cX12_nearest 132 = .ok (.iload_n 2, 1) := by decide +kernel
theorem dX12_nearest_133 : decode cX12_nearest 133 = .ok (.bipush 60, 2) := by decide +kernel
theorem dX12_nearest_135 : decode cX12_nearest 135 = .ok (.idiv, 1) := by decide +kernel
theorem dX12_nearest_136 : decode cX12_nearest 136 = .ok (.ireturn, 1) := by decide +kernel
theorem dX12_nearest_137 : decode cX12_nearest 137 = .ok (.iload_n 2, 1) := by decide +kernel
theorem dX12_nearest_138 : decode cX12_nearest 138 = .ok (.bipush 60, 2) := by decide +kernel
theorem dX12_nearest_140 : decode cX12_nearest 140 = .ok (.irem, 1) := by decide +kernel
theorem dX12_nearest_141 : decode cX12_nearest 141 = .ok (.ireturn, 1) := by decide +kernel
theorem dX12_nearest_142 : decode cX12_nearest 142 = .ok (.aload_n 0, 1) := by decide +kernel
theorem dX12_nearest_143 : decode cX12_nearest 143 = .ok (.iload_n 2, 1) := by decide +kernel
theorem dX12_nearest_144 : decode cX12_nearest 144 = .ok (.invokevirtual 221, 3) := by decide +kernel
theorem dX12_nearest_147 : decode cX12_nearest 147 = .ok (.ireturn, 1) := by decide +kernel
theorem dX12_nearest_148 : decode cX12_nearest 148 = .ok (.iload_n 3, 1) := by decide +kernel
theorem dX12_nearest_149 : decode cX12_nearest 149 = .ok (.ireturn, 1) := by decide +kernel
theorem dX12_nearest_150 : decode cX12_nearest 150 = .ok (.aload_n 0, 1) := by decide +kernel
theorem dX12_nearest_151 : decode cX12_nearest 151 = .ok (.iload_n 2, 1) := by decide +kernel
theorem dX12_nearest_152 : decode cX12_nearest 152 = .ok (.bipush 60, 2) := by decide +kernel
theorem dX12_nearest_154 : decode cX12_nearest 154 = .ok (.idiv, 1) := by decide +kernel
theorem dX12_nearest_155 : decode cX12_nearest 155 = .ok (.iconst 3, 1) := by decide +kernel
theorem dX12_nearest_156 : decode cX12_nearest 156 = .ok (.invokevirtual 138, 3) := by decide +kernel
theorem dX12_nearest_159 : decode cX12_nearest 159 = .ok (.ireturn, 1) := by decide +kernel
theorem dX12_span_0 : decode cX12_span 0 = .ok (.iload_n 1, 1) := by decide +kernel
theorem dX12_span_1 : decode cX12_span 1 = .ok (.iconst 2, 1) := by decide +kernel
theorem dX12_span_2 : decode cX12_span 2 = .ok (.aload_n 0, 1) := by decide +kernel
theorem dX12_span_3 : decode cX12_span 3 = .ok (.getfield 129, 3) := by decide +kernel
theorem dX12_span_6 : decode cX12_span 6 = .ok (.imul, 1) := by decide +kernel
theorem dX12_span_7 : decode cX12_span 7 = .ok (.invokestatic 95, 3) := by decide +kernel
theorem dX12_span_10 : decode cX12_span 10 = .ok (.ifCond .eq 13, 3) := by decide +kernel
theorem dX12_span_13 : decode cX12_span 13 = .ok (.iload_n 2, 1) := by decide +kernel
theorem dX12_span_14 : decode cX12_span 14 = .ok (.iconst 0, 1) := by decide +kernel
theorem dX12_span_15 : decode cX12_span 15 = .ok (.bipush 99, 2) := by decide +kernel
theorem dX12_span_17 : decode cX12_span 17 = .ok (.invokestatic 99, 3) := by decide +kernel
theorem dX12_span_20 : decode cX12_span 20 = .ok (.goto 4, 3) := by decide +kernel
theorem dX12_span_23 : decode cX12_span 23 = .ok (.iconst (-1), 1) := by decide +kernel
theorem dX12_span_24 : decode cX12_span 24 = .ok (.istore 4, 2) := by decide +kernel
theorem dX12_span_26 : decode cX12_span 26 = .ok (.iload 4, 2) := by decide +kernel
theorem dX12_span_28 : decode cX12_span 28 = .ok (.ifCond .eq 10, 3) := by decide +kernel
theorem dX12_span_31 : decode cX12_span 31 = .ok (.aload_n 0, 1) := by decide +kernel
theorem dX12_span_32 : decode cX12_span 32 = .ok (.iload 4, 2) := by decide +kernel
theorem dX12_span_34 : decode cX12_span 34 = .ok (.invokevirtual 103, 3) := by decide +kernel
theorem dX12_span_37 : decode cX12_span 37 = .ok (.ireturn, 1) := by decide +kernel
theorem dX12_span_38 : decode cX12_span 38 = .ok (.bipush (-9), 2) := by decide +kernel
theorem dX12_span_40 : decode cX12_span 40 = .ok (.istore 5, 2) := by decide +kernel
theorem dX12_span_42 : decode cX12_span 42 = .ok (.iconst 0, 1) := by decide +kernel
theorem dX12_span_43 : decode cX12_span 43 = .ok (.istore 6, 2) := by decide +kernel
theorem dX12_span_45 : decode cX12_span 45 = .ok (.iload 6, 2) := by decide +kernel
theorem dX12_span_47 : decode cX12_span 47 = .ok (.bipush 60, 2) := by decide +kernel
theorem dX12_span_49 : decode cX12_span 49 = .ok (.aload_n 0, 1) := by decide +kernel
theorem dX12_span_50 : decode cX12_span 50 = .ok (.getfield 86, 3) := by decide +kernel
theorem dX12_span_53 : decode cX12_span 53 = .ok (.sipush 752, 3) := by decide +kernel
theorem dX12_span_56 : decode cX12_span 56 = .ok (.iaload, 1) := by decide +kernel
theorem dX12_span_57 : decode cX12_span 57 = .ok (.imul, 1) := by decide +kernel
theorem dX12_span_58 : decode cX12_span 58 = .ok (.if_icmp .ge 74, 3) := by decide +kernel
theorem dX12_span_61 : decode cX12_span 61 = .ok (.aload_n 0, 1) := by decide +kernel
theorem dX12_span_62 : decode cX12_span 62 = .ok (.iload 6, 2) := by decide +kernel
theorem dX12_span_64 : decode cX12_span 64 = .ok (.invokevirtual 221, 3) := by decide +kernel
theorem dX12_span_67 : decode cX12_span 67 = .ok (.iload_n 1, 1) := by decide +kernel
theorem dX12_span_68 : decode cX12_span 68 = .ok (.if_icmp .ne 58, 3) := by decide +kernel
theorem dX12_span_71 : decode cX12_span 71 = .ok (.aload_n 0, 1) := by decide +kernel
theorem dX12_span_72 : decode cX12_span 72 = .ok (.iload 6, 2) := by decide +kernel
theorem dX12_span_74 : decode cX12_span 74 = .ok (.iload_n 2, 1) := by decide +kernel
theorem dX12_span_75 : decode cX12_span 75 = .ok (.invokevirtual 218, 3) := by decide +kernel
theorem dX12_span_78 : decode cX12_span 78 = .ok (.ifCond .ne 6, 3) := by decide +kernel
theorem dX12_span_81 : decode cX12_span 81 = .ok (.goto 45, 3) := by decide +kernel
theorem dX12_span_84 : decode cX12_span 84 = .ok (.aload_n 0, 1) := by decide +kernel
theorem dX12_span_85 : decode cX12_span 85 = .ok (.iload 6, 2) := by decide +kernel
theorem dX12_span_87 : decode cX12_span 87 = .ok (.bipush 60, 2) := by decide +kernel
theorem dX12_span_89 : decode cX12_span 89 = .ok (.idiv, 1) := by decide +kernel
theorem dX12_span_90 : decode cX12_span 90 = .ok (.iconst 3, 1) := by decide +kernel
theorem dX12_span_91 : decode cX12_span 91 = .ok (.invokevirtual 138, 3) := by decide +kernel
theorem dX12_span_94 : decode cX12_span 94 = .ok (.istore 7, 2) := by decide +kernel
theorem dX12_span_96 : decode cX12_span 96 = .ok (.iload 5, 2) := by decide +kernel
theorem dX12_span_98 : decode cX12_span 98 = .ok (.ifCond .lt 24, 3) := by decide +kernel
theorem dX12_span_101 : decode cX12_span 101 = .ok (.iload_n 3, 1) := by decide +kernel
theorem dX12_span_102 : decode cX12_span 102 = .ok (.ifCond .eq 13, 3) := by decide +kernel
theorem dX12_span_105 : decode cX12_span 105 = .ok (.iload 7, 2) := by decide +kernel
theorem dX12_span_107 : decode cX12_span 107 = .ok (.iload 5, 2) := by decide +kernel
theorem dX12_span_109 : decode cX12_span 109 = .ok (.if_icmp .le 17, 3) := by decide +kernel
theorem dX12_span_112 : decode cX12_span 112 = .ok (.goto 10, 3) := by decide +kernel
theorem dX12_span_115 : decode cX12_span 115 = .ok (.iload 7, 2) := by decide +kernel
theorem dX12_span_117 : decode cX12_span 117 = .ok (.iload 5, 2) := by decide +kernel
theorem dX12_span_119 : decode cX12_span 119 = .ok (.if_icmp .ge 7, 3) := by decide +kernel
theorem dX12_span_122 : decode cX12_span 122 = .ok (.iload 7, 2) := by decide +kernel
theorem dX12_span_124 : decode cX12_span 124 = .ok (.istore 5, 2) := by decide +kernel
theorem dX12_span_126 : decode cX12_span 126 = .ok (.iinc 6 1, 3) := by decide +kernel
theorem dX12_span_129 : decode cX12_span 129 = .ok (.goto (-84), 3) := by decide +kernel
theorem dX12_span_132 : decode cX12_span 132 = .ok (.iload 5, 2) := by decide +kernel
theorem dX12_span_134 : decode cX12_span 134 = .ok (.ireturn, 1) := by decide +kernel
theorem dX12_heapOf_0 : decode cX12_heapOf 0 = .ok (.iload_n 1, 1) := by decide +kernel
theorem dX12_heapOf_1 : decode cX12_heapOf 1 = .ok (.aload_n 0, 1) := by decide +kernel
theorem dX12_heapOf_2 : decode cX12_heapOf 2 = .ok (.getfield 115, 3) := by decide +kernel
theorem dX12_heapOf_5 : decode cX12_heapOf 5 = .ok (.invokestatic 95, 3) := by decide +kernel
theorem dX12_heapOf_8 : decode cX12_heapOf 8 = .ok (.ifCond .ne 9, 3) := by decide +kernel
theorem dX12_heapOf_11 : decode cX12_heapOf 11 = .ok (.aload_n 0, 1) := by decide +kernel
theorem dX12_heapOf_12 : decode cX12_heapOf 12 = .ok (.iconst (-1), 1) := by decide +kernel
theorem dX12_heapOf_13 : decode cX12_heapOf 13 = .ok (.invokevirtual 103, 3) := by decide +kernel
theorem dX12_heapOf_16 : decode cX12_heapOf 16 = .ok (.ireturn, 1) := by decide +kernel
theorem dX12_heapOf_17 : decode cX12_heapOf 17 = .ok (.iload_n 2, 1) := by decide +kernel
theorem dX12_heapOf_18 : decode cX12_heapOf 18 = .ok (.tableswitch 80 0 4 #[34, 41, 50, 56, 70], 34) := by decide +kernel
theorem dX12_heapOf_52 : decode cX12_heapOf 52 = .ok (.aload_n 0, 1) := by decide +kernel
theorem dX12_heapOf_53 : decode cX12_heapOf 53 = .ok (.getfield 34, 3) := by decide +kernel
theorem dX12_heapOf_56 : decode cX12_heapOf 56 = .ok (.iload_n 1, 1) := by decide +kernel
theorem dX12_heapOf_57 : decode cX12_heapOf 57 = .ok (.iaload, 1) := by decide +kernel
theorem dX12_heapOf_58 : decode cX12_heapOf 58 = .ok (.ireturn, 1) := by decide +kernel
theorem dX12_heapOf_59 : decode cX12_heapOf 59 = .ok (.aload_n 0, 1) := by decide +kernel
theorem dX12_heapOf_60 : decode cX12_heapOf 60 = .ok (.getfield 86, 3) := by decide +kernel
theorem dX12_heapOf_63 : decode cX12_heapOf 63 = .ok (.iconst 0, 1) := by decide +kernel
theorem dX12_heapOf_64 : decode cX12_heapOf 64 = .ok (.iload_n 1, 1) := by decide +kernel
theorem dX12_heapOf_65 : decode cX12_heapOf 65 = .ok (.iadd, 1) := by decide +kernel
theorem dX12_heapOf_66 : decode cX12_heapOf 66 = .ok (.iaload, 1) := by decide +kernel
theorem dX12_heapOf_67 : decode cX12_heapOf 67 = .ok (.ireturn, 1) := by decide +kernel
theorem dX12_heapOf_68 : decode cX12_heapOf 68 = .ok (.aload_n 0, 1) := by decide +kernel
theorem dX12_heapOf_69 : decode cX12_heapOf 69 = .ok (.iload_n 1, 1) := by decide +kernel
theorem dX12_heapOf_70 : decode cX12_heapOf 70 = .ok (.invokevirtual 118, 3) := by decide +kernel
theorem dX12_heapOf_73 : decode cX12_heapOf 73 = .ok (.ireturn, 1) := by decide +kernel
theorem dX12_heapOf_74 : decode cX12_heapOf 74 = .ok (.aload_n 0, 1) := by decide +kernel
theorem dX12_heapOf_75 : decode cX12_heapOf 75 = .ok (.iload_n 1, 1) := by decide +kernel
theorem dX12_heapOf_76 : decode cX12_heapOf 76 = .ok (.invokevirtual 121, 3) := by decide +kernel
theorem dX12_heapOf_79 : decode cX12_heapOf 79 = .ok (.ifCond .eq 7, 3) := by decide +kernel
theorem dX12_heapOf_82 : decode cX12_heapOf 82 = .ok (.iconst 1, 1) := by decide +kernel
theorem dX12_heapOf_83 : decode cX12_heapOf 83 = .ok (.goto 4, 3) := by decide +kernel
theorem dX12_heapOf_86 : decode cX12_heapOf 86 = .ok (.iconst 0, 1) := by decide +kernel
theorem dX12_heapOf_87 : decode cX12_heapOf 87 = .ok (.ireturn, 1) := by decide +kernel
theorem dX12_heapOf_88 : decode cX12_heapOf 88 = .ok (.aload_n 0, 1) := by decide +kernel
theorem dX12_heapOf_89 : decode cX12_heapOf 89 = .ok (.getfield 86, 3) := by decide +kernel
theorem dX12_heapOf_92 : decode cX12_heapOf 92 = .ok (.bipush 40, 2) := by decide +kernel
theorem dX12_heapOf_94 : decode cX12_heapOf 94 = .ok (.iload_n 1, 1) := by decide +kernel
theorem dX12_heapOf_95 : decode cX12_heapOf 95 = .ok (.iadd, 1) := by decide +kernel
theorem dX12_heapOf_96 : decode cX12_heapOf 96 = .ok (.iaload, 1) := by decide +kernel
theorem dX12_heapOf_97 : decode cX12_heapOf 97 = .ok (.ireturn, 1) := by decide +kernel
theorem dX12_heapOf_98 : decode cX12_heapOf 98 = .ok (.aload_n 0, 1) := by decide +kernel
theorem dX12_heapOf_99 : decode cX12_heapOf 99 = .ok (.bipush (-2), 2) := by decide +kernel
theorem dX12_heapOf_101 : decode cX12_heapOf 101 = .ok (.invokevirtual 103, 3) := by decide +kernel
theorem dX12_heapOf_104 : decode cX12_heapOf 104 = .ok (.ireturn, 1) := by decide +kernel
theorem dX12_beaterOf_0 : decode cX12_beaterOf 0 = .ok (.iload_n 1, 1) := by decide +kernel
theorem dX12_beaterOf_1 : decode cX12_beaterOf 1 = .ok (.iconst 4, 1) := by decide +kernel
theorem dX12_beaterOf_2 : decode cX12_beaterOf 2 = .ok (.invokestatic 95, 3) := by decide +kernel
theorem dX12_beaterOf_5 : decode cX12_beaterOf 5 = .ok (.ifCond .ne 9, 3) := by decide +kernel
theorem dX12_beaterOf_8 : decode cX12_beaterOf 8 = .ok (.aload_n 0, 1) := by decide +kernel
theorem dX12_beaterOf_9 : decode cX12_beaterOf 9 = .ok (.iconst (-1), 1) := by decide +kernel
theorem dX12_beaterOf_10 : decode cX12_beaterOf 10 = .ok (.invokevirtual 103, 3) := by decide +kernel
theorem dX12_beaterOf_13 : decode cX12_beaterOf 13 = .ok (.ireturn, 1) := by decide +kernel
theorem dX12_beaterOf_14 : decode cX12_beaterOf 14 = .ok (.iload_n 2, 1) := by decide +kernel
theorem dX12_beaterOf_15 : decode cX12_beaterOf 15 = .ok (.iconst 4, 1) := by decide +kernel
theorem dX12_beaterOf_16 : decode cX12_beaterOf 16 = .ok (.invokestatic 95, 3) := by decide +kernel
theorem dX12_beaterOf_19 : decode cX12_beaterOf 19 = .ok (.ifCond .ne 10, 3) := by decide +kernel
theorem dX12_beaterOf_22 : decode cX12_beaterOf 22 = .ok (.aload_n 0, 1) := by decide +kernel
theorem dX12_beaterOf_23 : decode cX12_beaterOf 23 = .ok (.bipush (-2), 2) := by decide +kernel
theorem dX12_beaterOf_25 : decode cX12_beaterOf 25 = .ok (.invokevirtual 103, 3) := by decide +kernel
theorem dX12_beaterOf_28 : decode cX12_beaterOf 28 = .ok (.ireturn, 1) := by decide +kernel
theorem dX12_beaterOf_29 : decode cX12_beaterOf 29 = .ok (.bipush 80, 2) := by decide +kernel
theorem dX12_beaterOf_31 : decode cX12_beaterOf 31 = .ok (.iconst 4, 1) := by decide +kernel
theorem dX12_beaterOf_32 : decode cX12_beaterOf 32 = .ok (.iload_n 1, 1) := by decide +kernel
theorem dX12_beaterOf_33 : decode cX12_beaterOf 33 = .ok (.imul, 1) := by decide +kernel
theorem dX12_beaterOf_34 : decode cX12_beaterOf 34 = .ok (.iadd, 1) := by decide +kernel
theorem dX12_beaterOf_35 : decode cX12_beaterOf 35 = .ok (.istore_n 3, 1) := by decide +kernel
theorem dX12_beaterOf_36 : decode cX12_beaterOf 36 = .ok (.iload_n 2, 1) := by decide +kernel
theorem dX12_beaterOf_37 : decode cX12_beaterOf 37 = .ok (.iconst 1, 1) := by decide +kernel
theorem dX12_beaterOf_38 : decode cX12_beaterOf 38 = .ok (.if_icmp .ne 26, 3) := by decide +kernel
theorem dX12_beaterOf_41 : decode cX12_beaterOf 41 = .ok (.aload_n 0, 1) := by decide +kernel
theorem dX12_beaterOf_42 : decode cX12_beaterOf 42 = .ok (.getfield 86, 3) := by decide +kernel
theorem dX12_beaterOf_45 : decode cX12_beaterOf 45 = .ok (.iload_n 3, 1) := by decide +kernel
theorem dX12_beaterOf_46 : decode cX12_beaterOf 46 = .ok (.iaload, 1) := by decide +kernel
theorem dX12_beaterOf_47 : decode cX12_beaterOf 47 = .ok (.ifCond .ne 8, 3) := by decide +kernel
theorem dX12_beaterOf_50 : decode cX12_beaterOf 50 = .ok (.bipush (-9), 2) := by decide +kernel
theorem dX12_beaterOf_52 : decode cX12_beaterOf 52 = .ok (.goto 11, 3) := by decide +kernel
theorem dX12_beaterOf_55 : decode cX12_beaterOf 55 = .ok (.aload_n 0, 1) := by decide +kernel
theorem dX12_beaterOf_56 : decode cX12_beaterOf 56 = .ok (.getfield 86, 3) := by decide +kernel
theorem dX12_beaterOf_59 : decode cX12_beaterOf 59 = .ok (.iload_n 3, 1) := by decide +kernel
theorem dX12_beaterOf_60 : decode cX12_beaterOf 60 = .ok (.iconst 1, 1) := by decide +kernel
theorem dX12_beaterOf_61 : decode cX12_beaterOf 61 = .ok (.iadd, 1) := by decide +kernel
theorem dX12_beaterOf_62 : decode cX12_beaterOf 62 = .ok (.iaload, 1) := by decide +kernel
theorem dX12_beaterOf_63 : decode cX12_beaterOf 63 = .ok (.ireturn, 1) := by decide +kernel
theorem dX12_beaterOf_64 : decode cX12_beaterOf 64 = .ok (.iload_n 2, 1) := by decide +kernel
theorem dX12_beaterOf_65 : decode cX12_beaterOf 65 = .ok (.iconst 2, 1) := by decide +kernel
theorem dX12_beaterOf_66 : decode cX12_beaterOf 66 = .ok (.if_icmp .ne 16, 3) := by decide +kernel
