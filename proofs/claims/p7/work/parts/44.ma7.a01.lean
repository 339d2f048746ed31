theorem d_Mod_instruction_518 : decode b_Mod_instruction 518 = .ok (.goto (-44), 3) := by decide +kernel
theorem d_Mod_instruction_521 : decode b_Mod_instruction 521 = .ok (.iconst 1, 1) := by decide +kernel
theorem d_Mod_instruction_522 : decode b_Mod_instruction 522 = .ok (.ireturn, 1) := by decide +kernel
theorem d_Mod_instruction_523 : decode b_Mod_instruction 523 = .ok (.aload_n 0, 1) := by decide +kernel
theorem d_Mod_instruction_524 : decode b_Mod_instruction 524 = .ok (.iload_n 1, 1) := by decide +kernel
theorem d_Mod_instruction_525 : decode b_Mod_instruction 525 = .ok (.iconst 1, 1) := by decide +kernel
theorem d_Mod_instruction_526 : decode b_Mod_instruction 526 = .ok (.isub, 1) := by decide +kernel
theorem d_Mod_instruction_527 : decode b_Mod_instruction 527 = .ok (.iload_n 2, 1) := by decide +kernel
theorem d_Mod_instruction_528 : decode b_Mod_instruction 528 = .ok (.invokevirtual 289, 3) := by decide +kernel
theorem d_Mod_instruction_531 : decode b_Mod_instruction 531 = .ok (.ifCond .ne 5, 3) := by decide +kernel
theorem d_Mod_instruction_534 : decode b_Mod_instruction 534 = .ok (.iconst 0, 1) := by decide +kernel
theorem d_Mod_instruction_535 : decode b_Mod_instruction 535 = .ok (.ireturn, 1) := by decide +kernel
theorem d_Mod_instruction_536 : decode b_Mod_instruction 536 = .ok (.aload_n 0, 1) := by decide +kernel
theorem d_Mod_instruction_537 : decode b_Mod_instruction 537 = .ok (.dup, 1) := by decide +kernel
theorem d_Mod_instruction_538 : decode b_Mod_instruction 538 = .ok (.getfield 259, 3) := by decide +kernel
theorem d_Mod_instruction_541 : decode b_Mod_instruction 541 = .ok (.aload_n 0, 1) := by decide +kernel
theorem d_Mod_instruction_542 : decode b_Mod_instruction 542 = .ok (.getfield 168, 3) := by decide +kernel
theorem d_Mod_instruction_545 : decode b_Mod_instruction 545 = .ok (.l2i, 1) := by decide +kernel
theorem d_Mod_instruction_546 : decode b_Mod_instruction 546 = .ok (.ior, 1) := by decide +kernel
theorem d_Mod_instruction_547 : decode b_Mod_instruction 547 = .ok (.putfield 259, 3) := by decide +kernel
theorem d_Mod_instruction_550 : decode b_Mod_instruction 550 = .ok (.iconst 1, 1) := by decide +kernel
theorem d_Mod_instruction_551 : decode b_Mod_instruction 551 = .ok (.ireturn, 1) := by decide +kernel
theorem d_Mod_isEither_0 : decode b_Mod_isEither 0 = .ok (.aload_n 0, 1) := by decide +kernel
theorem d_Mod_isEither_1 : decode b_Mod_isEither 1 = .ok (.iload_n 1, 1) := by decide +kernel
theorem d_Mod_isEither_2 : decode b_Mod_isEither 2 = .ok (.iload_n 2, 1) := by decide +kernel
theorem d_Mod_isEither_3 : decode b_Mod_isEither 3 = .ok (.invokevirtual 262, 3) := by decide +kernel
theorem d_Mod_isEither_6 : decode b_Mod_isEither 6 = .ok (.ifCond .eq 5, 3) := by decide +kernel
theorem d_Mod_isEither_9 : decode b_Mod_isEither 9 = .ok (.iconst 1, 1) := by decide +kernel
theorem d_Mod_isEither_10 : decode b_Mod_isEither 10 = .ok (.ireturn, 1) := by decide +kernel
theorem d_Mod_isEither_11 : decode b_Mod_isEither 11 = .ok (.aload_n 0, 1) := by decide +kernel
theorem d_Mod_isEither_12 : decode b_Mod_isEither 12 = .ok (.iload_n 1, 1) := by decide +kernel
theorem d_Mod_isEither_13 : decode b_Mod_isEither 13 = .ok (.iload_n 2, 1) := by decide +kernel
theorem d_Mod_isEither_14 : decode b_Mod_isEither 14 = .ok (.ldc2_w 153, 3) := by decide +kernel
theorem d_Mod_isEither_17 : decode b_Mod_isEither 17 = .ok (.invokevirtual 265, 3) := by decide +kernel
theorem d_Mod_isEither_20 : decode b_Mod_isEither 20 = .ok (.ifCond .ne 5, 3) := by decide +kernel
theorem d_Mod_isEither_23 : decode b_Mod_isEither 23 = .ok (.iconst 0, 1) := by decide +kernel
theorem d_Mod_isEither_24 : decode b_Mod_isEither 24 = .ok (.ireturn, 1) := by decide +kernel
theorem d_Mod_isEither_25 : decode b_Mod_isEither 25 = .ok (.aload_n 0, 1) := by decide +kernel
theorem d_Mod_isEither_26 : decode b_Mod_isEither 26 = .ok (.dup, 1) := by decide +kernel
theorem d_Mod_isEither_27 : decode b_Mod_isEither 27 = .ok (.getfield 187, 3) := by decide +kernel
theorem d_Mod_isEither_30 : decode b_Mod_isEither 30 = .ok (.iconst 1, 1) := by decide +kernel
theorem d_Mod_isEither_31 : decode b_Mod_isEither 31 = .ok (.iadd, 1) := by decide +kernel
theorem d_Mod_isEither_32 : decode b_Mod_isEither 32 = .ok (.putfield 187, 3) := by decide +kernel
theorem d_Mod_isEither_35 : decode b_Mod_isEither 35 = .ok (.iconst 1, 1) := by decide +kernel
theorem d_Mod_isEither_36 : decode b_Mod_isEither 36 = .ok (.ireturn, 1) := by decide +kernel
theorem d_Mod_isNumber_0 : decode b_Mod_isNumber 0 = .ok (.aload_n 0, 1) := by decide +kernel
theorem d_Mod_isNumber_1 : decode b_Mod_isNumber 1 = .ok (.iload_n 1, 1) := by decide +kernel
theorem d_Mod_isNumber_2 : decode b_Mod_isNumber 2 = .ok (.iload_n 2, 1) := by decide +kernel
theorem d_Mod_isNumber_3 : decode b_Mod_isNumber 3 = .ok (.i2l, 1) := by decide +kernel
theorem d_Mod_isNumber_4 : decode b_Mod_isNumber 4 = .ok (.invokevirtual 243, 3) := by decide +kernel
theorem d_Mod_isNumber_7 : decode b_Mod_isNumber 7 = .ok (.aload_n 0, 1) := by decide +kernel
theorem d_Mod_isNumber_8 : decode b_Mod_isNumber 8 = .ok (.getfield 162, 3) := by decide +kernel
theorem d_Mod_isNumber_11 : decode b_Mod_isNumber 11 = .ok (.ifCond .eq 32, 3) := by decide +kernel
theorem d_Mod_isNumber_14 : decode b_Mod_isNumber 14 = .ok (.aload_n 0, 1) := by decide +kernel
theorem d_Mod_isNumber_15 : decode b_Mod_isNumber 15 = .ok (.getfield 171, 3) := by decide +kernel
theorem d_Mod_isNumber_18 : decode b_Mod_isNumber 18 = .ok (.ifCond .ne 25, 3) := by decide +kernel
theorem d_Mod_isNumber_21 : decode b_Mod_isNumber 21 = .ok (.aload_n 0, 1) := by decide +kernel
theorem d_Mod_isNumber_22 : decode b_Mod_isNumber 22 = .ok (.getfield 168, 3) := by decide +kernel
theorem d_Mod_isNumber_25 : decode b_Mod_isNumber 25 = .ok (.lconst 0, 1) := by decide +kernel
theorem d_Mod_isNumber_26 : decode b_Mod_isNumber 26 = .ok (.lcmp, 1) := by decide +kernel
theorem d_Mod_isNumber_27 : decode b_Mod_isNumber 27 = .ok (.ifCond .lt 16, 3) := by decide +kernel
theorem d_Mod_isNumber_30 : decode b_Mod_isNumber 30 = .ok (.aload_n 0, 1) := by decide +kernel
theorem d_Mod_isNumber_31 : decode b_Mod_isNumber 31 = .ok (.getfield 168, 3) := by decide +kernel
theorem d_Mod_isNumber_34 : decode b_Mod_isNumber 34 = .ok (.lload_n 3, 1) := by decide +kernel
theorem d_Mod_isNumber_35 : decode b_Mod_isNumber 35 = .ok (.lcmp, 1) := by decide +kernel
theorem d_Mod_isNumber_36 : decode b_Mod_isNumber 36 = .ok (.ifCond .gt 7, 3) := by decide +kernel
theorem d_Mod_isNumber_39 : decode b_Mod_isNumber 39 = .ok (.iconst 1, 1) := by decide +kernel
theorem d_Mod_isNumber_40 : decode b_Mod_isNumber 40 = .ok (.goto 4, 3) := by decide +kernel
theorem d_Mod_isNumber_43 : decode b_Mod_isNumber 43 = .ok (.iconst 0, 1) := by decide +kernel
theorem d_Mod_isNumber_44 : decode b_Mod_isNumber 44 = .ok (.ireturn, 1) := by decide +kernel
theorem d_Mod_isPlace_0 : decode b_Mod_isPlace 0 = .ok (.aload_n 0, 1) := by decide +kernel
theorem d_Mod_isPlace_1 : decode b_Mod_isPlace 1 = .ok (.iload_n 1, 1) := by decide +kernel
theorem d_Mod_isPlace_2 : decode b_Mod_isPlace 2 = .ok (.iload_n 2, 1) := by decide +kernel
theorem d_Mod_isPlace_3 : decode b_Mod_isPlace 3 = .ok (.i2l, 1) := by decide +kernel
theorem d_Mod_isPlace_4 : decode b_Mod_isPlace 4 = .ok (.invokevirtual 243, 3) := by decide +kernel
theorem d_Mod_isPlace_7 : decode b_Mod_isPlace 7 = .ok (.aload_n 0, 1) := by decide +kernel
theorem d_Mod_isPlace_8 : decode b_Mod_isPlace 8 = .ok (.getfield 162, 3) := by decide +kernel
theorem d_Mod_isPlace_11 : decode b_Mod_isPlace 11 = .ok (.ifCond .eq 23, 3) := by decide +kernel
theorem d_Mod_isPlace_14 : decode b_Mod_isPlace 14 = .ok (.aload_n 0, 1) := by decide +kernel
theorem d_Mod_isPlace_15 : decode b_Mod_isPlace 15 = .ok (.getfield 171, 3) := by decide +kernel
theorem d_Mod_isPlace_18 : decode b_Mod_isPlace 18 = .ok (.ifCond .ne 16, 3) := by decide +kernel
theorem d_Mod_isPlace_21 : decode b_Mod_isPlace 21 = .ok (.aload_n 0, 1) := by decide +kernel
theorem d_Mod_isPlace_22 : decode b_Mod_isPlace 22 = .ok (.getfield 168, 3) := by decide +kernel
theorem d_Mod_isPlace_25 : decode b_Mod_isPlace 25 = .ok (.ldc2_w 269, 3) := by decide +kernel
theorem d_Mod_isPlace_28 : decode b_Mod_isPlace 28 = .ok (.land, 1) := by decide +kernel
theorem d_Mod_isPlace_29 : decode b_Mod_isPlace 29 = .ok (.lconst 0, 1) := by decide +kernel
theorem d_Mod_isPlace_30 : decode b_Mod_isPlace 30 = .ok (.lcmp, 1) := by decide +kernel
theorem d_Mod_isPlace_31 : decode b_Mod_isPlace 31 = .ok (.ifCond .eq 5, 3) := by decide +kernel
theorem d_Mod_isPlace_34 : decode b_Mod_isPlace 34 = .ok (.iconst 0, 1) := by decide +kernel
theorem d_Mod_isPlace_35 : decode b_Mod_isPlace 35 = .ok (.ireturn, 1) := by decide +kernel
theorem d_Mod_isPlace_36 : decode b_Mod_isPlace 36 = .ok (.aload_n 0, 1) := by decide +kernel
theorem d_Mod_isPlace_37 : decode b_Mod_isPlace 37 = .ok (.getfield 168, 3) := by decide +kernel
theorem d_Mod_isPlace_40 : decode b_Mod_isPlace 40 = .ok (.iload_n 2, 1) := by decide +kernel
theorem d_Mod_isPlace_41 : decode b_Mod_isPlace 41 = .ok (.i2l, 1) := by decide +kernel
theorem d_Mod_isPlace_42 : decode b_Mod_isPlace 42 = .ok (.lsub, 1) := by decide +kernel
theorem d_Mod_isPlace_43 : decode b_Mod_isPlace 43 = .ok (.ldc2_w 271, 3) := by decide +kernel
theorem d_Mod_isPlace_46 : decode b_Mod_isPlace 46 = .ok (.ldiv, 1) := by decide +kernel
theorem d_Mod_isPlace_47 : decode b_Mod_isPlace 47 = .ok (.lstore 4, 2) := by decide +kernel
theorem d_Mod_isPlace_49 : decode b_Mod_isPlace 49 = .ok (.lconst 1, 1) := by decide +kernel
theorem d_Mod_isPlace_50 : decode b_Mod_isPlace 50 = .ok (.iload_n 3, 1) := by decide +kernel
theorem d_Mod_isPlace_51 : decode b_Mod_isPlace 51 = .ok (.lshl, 1) := by decide +kernel
theorem d_Mod_isPlace_52 : decode b_Mod_isPlace 52 = .ok (.lstore 6, 2) := by decide +kernel
theorem d_Mod_isPlace_54 : decode b_Mod_isPlace 54 = .ok (.aload_n 0, 1) := by decide +kernel
theorem d_Mod_isPlace_55 : decode b_Mod_isPlace 55 = .ok (.getfield 168, 3) := by decide +kernel
theorem d_Mod_isPlace_58 : decode b_Mod_isPlace 58 = .ok (.ldc2_w 273, 3) := by decide +kernel
theorem d_Mod_isPlace_61 : decode b_Mod_isPlace 61 = .ok (.lcmp, 1) := by decide +kernel
theorem d_Mod_isPlace_62 : decode b_Mod_isPlace 62 = .ok (.ifCond .gt 31, 3) := by decide +kernel
theorem d_Mod_isPlace_65 : decode b_Mod_isPlace 65 = .ok (.aload_n 0, 1) := by decide +kernel
theorem d_Mod_isPlace_66 : decode b_Mod_isPlace 66 = .ok (.getfield 168, 3) := by decide +kernel
theorem d_Mod_isPlace_69 : decode b_Mod_isPlace 69 = .ok (.ldc2_w 275, 3) := by decide +kernel
theorem d_Mod_isPlace_72 : decode b_Mod_isPlace 72 = .ok (.lcmp, 1) := by decide +kernel
theorem d_Mod_isPlace_73 : decode b_Mod_isPlace 73 = .ok (.ifCond .lt 20, 3) := by decide +kernel
theorem d_Mod_isPlace_76 : decode b_Mod_isPlace 76 = .ok (.lload 4, 2) := by decide +kernel
theorem d_Mod_isPlace_78 : decode b_Mod_isPlace 78 = .ok (.lload 6, 2) := by decide +kernel
theorem d_Mod_isPlace_80 : decode b_Mod_isPlace 80 = .ok (.lcmp, 1) := by decide +kernel
theorem d_Mod_isPlace_81 : decode b_Mod_isPlace 81 = .ok (.ifCond .ge 12, 3) := by decide +kernel
theorem d_Mod_isPlace_84 : decode b_Mod_isPlace 84 = .ok (.lload 4, 2) := by decide +kernel
theorem d_Mod_isPlace_86 : decode b_Mod_isPlace 86 = .ok (.lload 6, 2) := by decide +kernel
theorem d_Mod_isPlace_88 : decode b_Mod_isPlace 88 = .ok (.lneg, 1) := by decide +kernel
theorem d_Mod_isPlace_89 : decode b_Mod_isPlace 89 = .ok (.lcmp, 1) := by decide +kernel
theorem d_Mod_isPlace_90 : decode b_Mod_isPlace 90 = .ok (.ifCond .ge 5, 3) := by decide +kernel
theorem d_Mod_isPlace_93 : decode b_Mod_isPlace 93 = .ok (.iconst 0, 1) := by decide +kernel
theorem d_Mod_isPlace_94 : decode b_Mod_isPlace 94 = .ok (.ireturn, 1) := by decide +kernel
theorem d_Mod_isPlace_95 : decode b_Mod_isPlace 95 = .ok (.lload 4, 2) := by decide +kernel
theorem d_Mod_isPlace_97 : decode b_Mod_isPlace 97 = .ok (.lconst 0, 1) := by decide +kernel
theorem d_Mod_isPlace_98 : decode b_Mod_isPlace 98 = .ok (.lcmp, 1) := by decide +kernel
theorem d_Mod_isPlace_99 : decode b_Mod_isPlace 99 = .ok (.ifCond .ge 13, 3) := by decide +kernel
theorem d_Mod_isPlace_102 : decode b_Mod_isPlace 102 = .ok (.aload_n 0, 1) := by decide +kernel
theorem d_Mod_isPlace_103 : decode b_Mod_isPlace 103 = .ok (.dup, 1) := by decide +kernel
theorem d_Mod_isPlace_104 : decode b_Mod_isPlace 104 = .ok (.getfield 187, 3) := by decide +kernel
theorem d_Mod_isPlace_107 : decode b_Mod_isPlace 107 = .ok (.iconst 1, 1) := by decide +kernel
theorem d_Mod_isPlace_108 : decode b_Mod_isPlace 108 = .ok (.iadd, 1) := by decide +kernel
theorem d_Mod_isPlace_109 : decode b_Mod_isPlace 109 = .ok (.putfield 187, 3) := by decide +kernel
theorem d_Mod_isPlace_112 : decode b_Mod_isPlace 112 = .ok (.aload_n 0, 1) := by decide +kernel
theorem d_Mod_isPlace_113 : decode b_Mod_isPlace 113 = .ok (.lload 4, 2) := by decide +kernel
theorem d_Mod_isPlace_115 : decode b_Mod_isPlace 115 = .ok (.lconst 0, 1) := by decide +kernel
theorem d_Mod_isPlace_116 : decode b_Mod_isPlace 116 = .ok (.lcmp, 1) := by decide +kernel
theorem d_Mod_isPlace_117 : decode b_Mod_isPlace 117 = .ok (.ifCond .ge 11, 3) := by decide +kernel
theorem d_Mod_isPlace_120 : decode b_Mod_isPlace 120 = .ok (.lload 4, 2) := by decide +kernel
theorem d_Mod_isPlace_122 : decode b_Mod_isPlace 122 = .ok (.lload 6, 2) := by decide +kernel
theorem d_Mod_isPlace_124 : decode b_Mod_isPlace 124 = .ok (.ladd, 1) := by decide +kernel
theorem d_Mod_isPlace_125 : decode b_Mod_isPlace 125 = .ok (.goto 5, 3) := by decide +kernel
theorem d_Mod_isPlace_128 : decode b_Mod_isPlace 128 = .ok (.lload 4, 2) := by decide +kernel
theorem d_Mod_isPlace_130 : decode b_Mod_isPlace 130 = .ok (.putfield 168, 3) := by decide +kernel
theorem d_Mod_isPlace_133 : decode b_Mod_isPlace 133 = .ok (.iconst 1, 1) := by decide +kernel
theorem d_Mod_isPlace_134 : decode b_Mod_isPlace 134 = .ok (.ireturn, 1) := by decide +kernel
theorem d_Mod_isRegister_0 : decode b_Mod_isRegister 0 = .ok (.aload_n 0, 1) := by decide +kernel
theorem d_Mod_isRegister_1 : decode b_Mod_isRegister 1 = .ok (.iload_n 1, 1) := by decide +kernel
theorem d_Mod_isRegister_2 : decode b_Mod_isRegister 2 = .ok (.iload_n 2, 1) := by decide +kernel
theorem d_Mod_isRegister_3 : decode b_Mod_isRegister 3 = .ok (.i2l, 1) := by decide +kernel
theorem d_Mod_isRegister_4 : decode b_Mod_isRegister 4 = .ok (.invokevirtual 243, 3) := by decide +kernel
theorem d_Mod_isRegister_7 : decode b_Mod_isRegister 7 = .ok (.aload_n 0, 1) := by decide +kernel
theorem d_Mod_isRegister_8 : decode b_Mod_isRegister 8 = .ok (.getfield 162, 3) := by decide +kernel
theorem d_Mod_isRegister_11 : decode b_Mod_isRegister 11 = .ok (.ifCond .eq 14, 3) := by decide +kernel
theorem d_Mod_isRegister_14 : decode b_Mod_isRegister 14 = .ok (.aload_n 0, 1) := by decide +kernel
theorem d_Mod_isRegister_15 : decode b_Mod_isRegister 15 = .ok (.getfield 171, 3) := by decide +kernel
theorem d_Mod_isRegister_18 : decode b_Mod_isRegister 18 = .ok (.ifCond .eq 7, 3) := by decide +kernel
theorem d_Mod_isRegister_21 : decode b_Mod_isRegister 21 = .ok (.iconst 1, 1) := by decide +kernel
theorem d_Mod_isRegister_22 : decode b_Mod_isRegister 22 = .ok (.goto 4, 3) := by decide +kernel
theorem d_Mod_isRegister_25 : decode b_Mod_isRegister 25 = .ok (.iconst 0, 1) := by decide +kernel
theorem d_Mod_isRegister_26 : decode b_Mod_isRegister 26 = .ok (.ireturn, 1) := by decide +kernel
