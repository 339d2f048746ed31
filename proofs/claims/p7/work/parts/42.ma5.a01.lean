theorem d_Mod_operation_287 : decode b_Mod_operation 287 = .ok (.invokevirtual 126, 3) := by decide +kernel
theorem d_Mod_operation_290 : decode b_Mod_operation 290 = .ok (.istore_n 3, 1) := by decide +kernel
theorem d_Mod_operation_291 : decode b_Mod_operation 291 = .ok (.aload_n 0, 1) := by decide +kernel
theorem d_Mod_operation_292 : decode b_Mod_operation 292 = .ok (.iload_n 3, 1) := by decide +kernel
theorem d_Mod_operation_293 : decode b_Mod_operation 293 = .ok (.ifCond .ne 8, 3) := by decide +kernel
theorem d_Mod_operation_296 : decode b_Mod_operation 296 = .ok (.bipush 9, 2) := by decide +kernel
theorem d_Mod_operation_298 : decode b_Mod_operation 298 = .ok (.goto 42, 3) := by decide +kernel
theorem d_Mod_operation_301 : decode b_Mod_operation 301 = .ok (.iload_n 3, 1) := by decide +kernel
theorem d_Mod_operation_302 : decode b_Mod_operation 302 = .ok (.iconst 3, 1) := by decide +kernel
theorem d_Mod_operation_303 : decode b_Mod_operation 303 = .ok (.if_icmp .ge 7, 3) := by decide +kernel
theorem d_Mod_operation_306 : decode b_Mod_operation 306 = .ok (.iconst 2, 1) := by decide +kernel
theorem d_Mod_operation_307 : decode b_Mod_operation 307 = .ok (.goto 33, 3) := by decide +kernel
theorem d_Mod_operation_310 : decode b_Mod_operation 310 = .ok (.iload_n 3, 1) := by decide +kernel
theorem d_Mod_operation_311 : decode b_Mod_operation 311 = .ok (.iconst 3, 1) := by decide +kernel
theorem d_Mod_operation_312 : decode b_Mod_operation 312 = .ok (.if_icmp .ne 7, 3) := by decide +kernel
theorem d_Mod_operation_315 : decode b_Mod_operation 315 = .ok (.iconst 4, 1) := by decide +kernel
theorem d_Mod_operation_316 : decode b_Mod_operation 316 = .ok (.goto 24, 3) := by decide +kernel
theorem d_Mod_operation_319 : decode b_Mod_operation 319 = .ok (.iload_n 3, 1) := by decide +kernel
theorem d_Mod_operation_320 : decode b_Mod_operation 320 = .ok (.iconst 4, 1) := by decide +kernel
theorem d_Mod_operation_321 : decode b_Mod_operation 321 = .ok (.if_icmp .ne 7, 3) := by decide +kernel
theorem d_Mod_operation_324 : decode b_Mod_operation 324 = .ok (.iconst 5, 1) := by decide +kernel
theorem d_Mod_operation_325 : decode b_Mod_operation 325 = .ok (.goto 15, 3) := by decide +kernel
theorem d_Mod_operation_328 : decode b_Mod_operation 328 = .ok (.iload_n 3, 1) := by decide +kernel
theorem d_Mod_operation_329 : decode b_Mod_operation 329 = .ok (.iconst 5, 1) := by decide +kernel
theorem d_Mod_operation_330 : decode b_Mod_operation 330 = .ok (.if_icmp .ne 8, 3) := by decide +kernel
theorem d_Mod_operation_333 : decode b_Mod_operation 333 = .ok (.bipush 6, 2) := by decide +kernel
theorem d_Mod_operation_335 : decode b_Mod_operation 335 = .ok (.goto 5, 3) := by decide +kernel
theorem d_Mod_operation_338 : decode b_Mod_operation 338 = .ok (.bipush 7, 2) := by decide +kernel
theorem d_Mod_operation_340 : decode b_Mod_operation 340 = .ok (.putfield 182, 3) := by decide +kernel
theorem d_Mod_operation_343 : decode b_Mod_operation 343 = .ok (.aload_n 0, 1) := by decide +kernel
theorem d_Mod_operation_344 : decode b_Mod_operation 344 = .ok (.iload_n 3, 1) := by decide +kernel
theorem d_Mod_operation_345 : decode b_Mod_operation 345 = .ok (.ifCond .ne 9, 3) := by decide +kernel
theorem d_Mod_operation_348 : decode b_Mod_operation 348 = .ok (.sipush 180, 3) := by decide +kernel
theorem d_Mod_operation_351 : decode b_Mod_operation 351 = .ok (.goto 61, 3) := by decide +kernel
theorem d_Mod_operation_354 : decode b_Mod_operation 354 = .ok (.iload_n 3, 1) := by decide +kernel
theorem d_Mod_operation_355 : decode b_Mod_operation 355 = .ok (.iconst 1, 1) := by decide +kernel
theorem d_Mod_operation_356 : decode b_Mod_operation 356 = .ok (.if_icmp .ne 9, 3) := by decide +kernel
theorem d_Mod_operation_359 : decode b_Mod_operation 359 = .ok (.sipush 242, 3) := by decide +kernel
theorem d_Mod_operation_362 : decode b_Mod_operation 362 = .ok (.goto 50, 3) := by decide +kernel
theorem d_Mod_operation_365 : decode b_Mod_operation 365 = .ok (.iload_n 3, 1) := by decide +kernel
theorem d_Mod_operation_366 : decode b_Mod_operation 366 = .ok (.iconst 2, 1) := by decide +kernel
theorem d_Mod_operation_367 : decode b_Mod_operation 367 = .ok (.if_icmp .ne 9, 3) := by decide +kernel
theorem d_Mod_operation_370 : decode b_Mod_operation 370 = .ok (.sipush 244, 3) := by decide +kernel
theorem d_Mod_operation_373 : decode b_Mod_operation 373 = .ok (.goto 39, 3) := by decide +kernel
theorem d_Mod_operation_376 : decode b_Mod_operation 376 = .ok (.iload_n 3, 1) := by decide +kernel
theorem d_Mod_operation_377 : decode b_Mod_operation 377 = .ok (.iconst 3, 1) := by decide +kernel
theorem d_Mod_operation_378 : decode b_Mod_operation 378 = .ok (.if_icmp .ne 9, 3) := by decide +kernel
theorem d_Mod_operation_381 : decode b_Mod_operation 381 = .ok (.sipush 240, 3) := by decide +kernel
theorem d_Mod_operation_384 : decode b_Mod_operation 384 = .ok (.goto 28, 3) := by decide +kernel
theorem d_Mod_operation_387 : decode b_Mod_operation 387 = .ok (.iload_n 3, 1) := by decide +kernel
theorem d_Mod_operation_388 : decode b_Mod_operation 388 = .ok (.iconst 4, 1) := by decide +kernel
theorem d_Mod_operation_389 : decode b_Mod_operation 389 = .ok (.if_icmp .ne 9, 3) := by decide +kernel
theorem d_Mod_operation_392 : decode b_Mod_operation 392 = .ok (.sipush 246, 3) := by decide +kernel
theorem d_Mod_operation_395 : decode b_Mod_operation 395 = .ok (.goto 17, 3) := by decide +kernel
theorem d_Mod_operation_398 : decode b_Mod_operation 398 = .ok (.iload_n 3, 1) := by decide +kernel
theorem d_Mod_operation_399 : decode b_Mod_operation 399 = .ok (.iconst 5, 1) := by decide +kernel
theorem d_Mod_operation_400 : decode b_Mod_operation 400 = .ok (.if_icmp .ne 9, 3) := by decide +kernel
theorem d_Mod_operation_403 : decode b_Mod_operation 403 = .ok (.sipush 254, 3) := by decide +kernel
theorem d_Mod_operation_406 : decode b_Mod_operation 406 = .ok (.goto 6, 3) := by decide +kernel
theorem d_Mod_operation_409 : decode b_Mod_operation 409 = .ok (.sipush 248, 3) := by decide +kernel
theorem d_Mod_operation_412 : decode b_Mod_operation 412 = .ok (.putfield 187, 3) := by decide +kernel
theorem d_Mod_operation_415 : decode b_Mod_operation 415 = .ok (.iload_n 3, 1) := by decide +kernel
theorem d_Mod_operation_416 : decode b_Mod_operation 416 = .ok (.iconst (-1), 1) := by decide +kernel
theorem d_Mod_operation_417 : decode b_Mod_operation 417 = .ok (.if_icmp .ne 12, 3) := by decide +kernel
theorem d_Mod_operation_420 : decode b_Mod_operation 420 = .ok (.aload_n 0, 1) := by decide +kernel
theorem d_Mod_operation_421 : decode b_Mod_operation 421 = .ok (.iload_n 1, 1) := by decide +kernel
theorem d_Mod_operation_422 : decode b_Mod_operation 422 = .ok (.iload_n 2, 1) := by decide +kernel
theorem d_Mod_operation_423 : decode b_Mod_operation 423 = .ok (.invokevirtual 202, 3) := by decide +kernel
theorem d_Mod_operation_426 : decode b_Mod_operation 426 = .ok (.ifCond .eq 7, 3) := by decide +kernel
theorem d_Mod_operation_429 : decode b_Mod_operation 429 = .ok (.iconst 1, 1) := by decide +kernel
theorem d_Mod_operation_430 : decode b_Mod_operation 430 = .ok (.goto 4, 3) := by decide +kernel
theorem d_Mod_operation_433 : decode b_Mod_operation 433 = .ok (.iconst 0, 1) := by decide +kernel
theorem d_Mod_operation_434 : decode b_Mod_operation 434 = .ok (.ireturn, 1) := by decide +kernel
theorem d_Mod_withCondition_0 : decode b_Mod_withCondition 0 = .ok (.iload_n 1, 1) := by decide +kernel
theorem d_Mod_withCondition_1 : decode b_Mod_withCondition 1 = .ok (.aload_n 0, 1) := by decide +kernel
theorem d_Mod_withCondition_2 : decode b_Mod_withCondition 2 = .ok (.iload_n 1, 1) := by decide +kernel
theorem d_Mod_withCondition_3 : decode b_Mod_withCondition 3 = .ok (.iload_n 1, 1) := by decide +kernel
theorem d_Mod_withCondition_4 : decode b_Mod_withCondition 4 = .ok (.iconst 1, 1) := by decide +kernel
theorem d_Mod_withCondition_5 : decode b_Mod_withCondition 5 = .ok (.iadd, 1) := by decide +kernel
theorem d_Mod_withCondition_6 : decode b_Mod_withCondition 6 = .ok (.iload_n 2, 1) := by decide +kernel
theorem d_Mod_withCondition_7 : decode b_Mod_withCondition 7 = .ok (.if_icmp .ge 9, 3) := by decide +kernel
theorem d_Mod_withCondition_10 : decode b_Mod_withCondition 10 = .ok (.iload_n 1, 1) := by decide +kernel
theorem d_Mod_withCondition_11 : decode b_Mod_withCondition 11 = .ok (.iconst 1, 1) := by decide +kernel
theorem d_Mod_withCondition_12 : decode b_Mod_withCondition 12 = .ok (.iadd, 1) := by decide +kernel
theorem d_Mod_withCondition_13 : decode b_Mod_withCondition 13 = .ok (.goto 4, 3) := by decide +kernel
theorem d_Mod_withCondition_16 : decode b_Mod_withCondition 16 = .ok (.iload_n 2, 1) := by decide +kernel
theorem d_Mod_withCondition_17 : decode b_Mod_withCondition 17 = .ok (.ldc 206, 2) := by decide +kernel
theorem d_Mod_withCondition_19 : decode b_Mod_withCondition 19 = .ok (.invokevirtual 208, 3) := by decide +kernel
theorem d_Mod_withCondition_22 : decode b_Mod_withCondition 22 = .ok (.ifCond .eq 7, 3) := by decide +kernel
theorem d_Mod_withCondition_25 : decode b_Mod_withCondition 25 = .ok (.iconst 1, 1) := by decide +kernel
theorem d_Mod_withCondition_26 : decode b_Mod_withCondition 26 = .ok (.goto 4, 3) := by decide +kernel
theorem d_Mod_withCondition_29 : decode b_Mod_withCondition 29 = .ok (.iconst 2, 1) := by decide +kernel
theorem d_Mod_withCondition_30 : decode b_Mod_withCondition 30 = .ok (.iadd, 1) := by decide +kernel
theorem d_Mod_withCondition_31 : decode b_Mod_withCondition 31 = .ok (.istore_n 3, 1) := by decide +kernel
theorem d_Mod_withCondition_32 : decode b_Mod_withCondition 32 = .ok (.iload_n 3, 1) := by decide +kernel
theorem d_Mod_withCondition_33 : decode b_Mod_withCondition 33 = .ok (.iload_n 2, 1) := by decide +kernel
theorem d_Mod_withCondition_34 : decode b_Mod_withCondition 34 = .ok (.if_icmp .le 5, 3) := by decide +kernel
theorem d_Mod_withCondition_37 : decode b_Mod_withCondition 37 = .ok (.iconst 0, 1) := by decide +kernel
theorem d_Mod_withCondition_38 : decode b_Mod_withCondition 38 = .ok (.ireturn, 1) := by decide +kernel
theorem d_Mod_withCondition_39 : decode b_Mod_withCondition 39 = .ok (.iload_n 3, 1) := by decide +kernel
theorem d_Mod_withCondition_40 : decode b_Mod_withCondition 40 = .ok (.iload_n 1, 1) := by decide +kernel
theorem d_Mod_withCondition_41 : decode b_Mod_withCondition 41 = .ok (.iconst 1, 1) := by decide +kernel
theorem d_Mod_withCondition_42 : decode b_Mod_withCondition 42 = .ok (.iadd, 1) := by decide +kernel
theorem d_Mod_withCondition_43 : decode b_Mod_withCondition 43 = .ok (.if_icmp .ne 7, 3) := by decide +kernel
theorem d_Mod_withCondition_46 : decode b_Mod_withCondition 46 = .ok (.iconst 0, 1) := by decide +kernel
theorem d_Mod_withCondition_47 : decode b_Mod_withCondition 47 = .ok (.goto 11, 3) := by decide +kernel
theorem d_Mod_withCondition_50 : decode b_Mod_withCondition 50 = .ok (.aload_n 0, 1) := by decide +kernel
theorem d_Mod_withCondition_51 : decode b_Mod_withCondition 51 = .ok (.iload_n 1, 1) := by decide +kernel
theorem d_Mod_withCondition_52 : decode b_Mod_withCondition 52 = .ok (.iload_n 3, 1) := by decide +kernel
theorem d_Mod_withCondition_53 : decode b_Mod_withCondition 53 = .ok (.ldc 212, 2) := by decide +kernel
theorem d_Mod_withCondition_55 : decode b_Mod_withCondition 55 = .ok (.invokevirtual 126, 3) := by decide +kernel
theorem d_Mod_withCondition_58 : decode b_Mod_withCondition 58 = .ok (.istore 4, 2) := by decide +kernel
theorem d_Mod_withCondition_60 : decode b_Mod_withCondition 60 = .ok (.aload_n 0, 1) := by decide +kernel
theorem d_Mod_withCondition_61 : decode b_Mod_withCondition 61 = .ok (.iload_n 3, 1) := by decide +kernel
theorem d_Mod_withCondition_62 : decode b_Mod_withCondition 62 = .ok (.iload_n 2, 1) := by decide +kernel
theorem d_Mod_withCondition_63 : decode b_Mod_withCondition 63 = .ok (.ldc 214, 2) := by decide +kernel
theorem d_Mod_withCondition_65 : decode b_Mod_withCondition 65 = .ok (.invokevirtual 126, 3) := by decide +kernel
theorem d_Mod_withCondition_68 : decode b_Mod_withCondition 68 = .ok (.istore 5, 2) := by decide +kernel
theorem d_Mod_withCondition_70 : decode b_Mod_withCondition 70 = .ok (.iload 4, 2) := by decide +kernel
theorem d_Mod_withCondition_72 : decode b_Mod_withCondition 72 = .ok (.iconst (-1), 1) := by decide +kernel
theorem d_Mod_withCondition_73 : decode b_Mod_withCondition 73 = .ok (.if_icmp .eq 9, 3) := by decide +kernel
theorem d_Mod_withCondition_76 : decode b_Mod_withCondition 76 = .ok (.iload 5, 2) := by decide +kernel
theorem d_Mod_withCondition_78 : decode b_Mod_withCondition 78 = .ok (.iconst (-1), 1) := by decide +kernel
theorem d_Mod_withCondition_79 : decode b_Mod_withCondition 79 = .ok (.if_icmp .ne 5, 3) := by decide +kernel
theorem d_Mod_withCondition_82 : decode b_Mod_withCondition 82 = .ok (.iconst 0, 1) := by decide +kernel
theorem d_Mod_withCondition_83 : decode b_Mod_withCondition 83 = .ok (.ireturn, 1) := by decide +kernel
theorem d_Mod_withCondition_84 : decode b_Mod_withCondition 84 = .ok (.aload_n 0, 1) := by decide +kernel
theorem d_Mod_withCondition_85 : decode b_Mod_withCondition 85 = .ok (.iload 4, 2) := by decide +kernel
theorem d_Mod_withCondition_87 : decode b_Mod_withCondition 87 = .ok (.iconst 2, 1) := by decide +kernel
theorem d_Mod_withCondition_88 : decode b_Mod_withCondition 88 = .ok (.if_icmp .ge 7, 3) := by decide +kernel
theorem d_Mod_withCondition_91 : decode b_Mod_withCondition 91 = .ok (.iconst 2, 1) := by decide +kernel
theorem d_Mod_withCondition_92 : decode b_Mod_withCondition 92 = .ok (.goto 4, 3) := by decide +kernel
theorem d_Mod_withCondition_95 : decode b_Mod_withCondition 95 = .ok (.iconst 0, 1) := by decide +kernel
theorem d_Mod_withCondition_96 : decode b_Mod_withCondition 96 = .ok (.putfield 182, 3) := by decide +kernel
theorem d_Mod_withCondition_99 : decode b_Mod_withCondition 99 = .ok (.aload_n 0, 1) := by decide +kernel
theorem d_Mod_withCondition_100 : decode b_Mod_withCondition 100 = .ok (.bipush 64, 2) := by decide +kernel
theorem d_Mod_withCondition_102 : decode b_Mod_withCondition 102 = .ok (.bipush 16, 2) := by decide +kernel
theorem d_Mod_withCondition_104 : decode b_Mod_withCondition 104 = .ok (.iload 4, 2) := by decide +kernel
theorem d_Mod_withCondition_106 : decode b_Mod_withCondition 106 = .ok (.imul, 1) := by decide +kernel
theorem d_Mod_withCondition_107 : decode b_Mod_withCondition 107 = .ok (.iadd, 1) := by decide +kernel
theorem d_Mod_withCondition_108 : decode b_Mod_withCondition 108 = .ok (.iconst 2, 1) := by decide +kernel
theorem d_Mod_withCondition_109 : decode b_Mod_withCondition 109 = .ok (.iload 5, 2) := by decide +kernel
theorem d_Mod_withCondition_111 : decode b_Mod_withCondition 111 = .ok (.imul, 1) := by decide +kernel
theorem d_Mod_withCondition_112 : decode b_Mod_withCondition 112 = .ok (.iadd, 1) := by decide +kernel
theorem d_Mod_withCondition_113 : decode b_Mod_withCondition 113 = .ok (.putfield 187, 3) := by decide +kernel
theorem d_Mod_withCondition_116 : decode b_Mod_withCondition 116 = .ok (.iconst 1, 1) := by decide +kernel
theorem d_Mod_withCondition_117 : decode b_Mod_withCondition 117 = .ok (.ireturn, 1) := by decide +kernel
