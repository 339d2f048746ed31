theorem d_Opd_encode_414 : decode b_Opd_encode 414 = .ok (.iconst 1, 1) := by decide +kernel
theorem d_Opd_encode_415 : decode b_Opd_encode 415 = .ok (.laload, 1) := by decide +kernel
theorem d_Opd_encode_416 : decode b_Opd_encode 416 = .ok (.invokevirtual 63, 3) := by decide +kernel
theorem d_Opd_encode_419 : decode b_Opd_encode 419 = .ok (.ifCond .eq 7, 3) := by decide +kernel
theorem d_Opd_encode_422 : decode b_Opd_encode 422 = .ok (.iconst 1, 1) := by decide +kernel
theorem d_Opd_encode_423 : decode b_Opd_encode 423 = .ok (.goto 4, 3) := by decide +kernel
theorem d_Opd_encode_426 : decode b_Opd_encode 426 = .ok (.iconst 0, 1) := by decide +kernel
theorem d_Opd_encode_427 : decode b_Opd_encode 427 = .ok (.ireturn, 1) := by decide +kernel
theorem d_Opd_encode_428 : decode b_Opd_encode 428 = .ok (.aload_n 0, 1) := by decide +kernel
theorem d_Opd_encode_429 : decode b_Opd_encode 429 = .ok (.iload_n 1, 1) := by decide +kernel
theorem d_Opd_encode_430 : decode b_Opd_encode 430 = .ok (.invokevirtual 70, 3) := by decide +kernel
theorem d_Opd_encode_433 : decode b_Opd_encode 433 = .ok (.ireturn, 1) := by decide +kernel
theorem d_Opd_encodeBytes_0 : decode b_Opd_encodeBytes 0 = .ok (.aload_n 0, 1) := by decide +kernel
theorem d_Opd_encodeBytes_1 : decode b_Opd_encodeBytes 1 = .ok (.getfield 17, 3) := by decide +kernel
theorem d_Opd_encodeBytes_4 : decode b_Opd_encodeBytes 4 = .ok (.iconst 3, 1) := by decide +kernel
theorem d_Opd_encodeBytes_5 : decode b_Opd_encodeBytes 5 = .ok (.if_icmp .gt 70, 3) := by decide +kernel
theorem d_Opd_encodeBytes_8 : decode b_Opd_encodeBytes 8 = .ok (.aload_n 0, 1) := by decide +kernel
theorem d_Opd_encodeBytes_9 : decode b_Opd_encodeBytes 9 = .ok (.iconst 0, 1) := by decide +kernel
theorem d_Opd_encodeBytes_10 : decode b_Opd_encodeBytes 10 = .ok (.sipush 255, 3) := by decide +kernel
theorem d_Opd_encodeBytes_13 : decode b_Opd_encodeBytes 13 = .ok (.invokevirtual 52, 3) := by decide +kernel
theorem d_Opd_encodeBytes_16 : decode b_Opd_encodeBytes 16 = .ok (.ifCond .eq 59, 3) := by decide +kernel
theorem d_Opd_encodeBytes_19 : decode b_Opd_encodeBytes 19 = .ok (.aload_n 0, 1) := by decide +kernel
theorem d_Opd_encodeBytes_20 : decode b_Opd_encodeBytes 20 = .ok (.iconst 1, 1) := by decide +kernel
theorem d_Opd_encodeBytes_21 : decode b_Opd_encodeBytes 21 = .ok (.sipush 255, 3) := by decide +kernel
theorem d_Opd_encodeBytes_24 : decode b_Opd_encodeBytes 24 = .ok (.invokevirtual 52, 3) := by decide +kernel
theorem d_Opd_encodeBytes_27 : decode b_Opd_encodeBytes 27 = .ok (.ifCond .eq 48, 3) := by decide +kernel
theorem d_Opd_encodeBytes_30 : decode b_Opd_encodeBytes 30 = .ok (.aload_n 0, 1) := by decide +kernel
theorem d_Opd_encodeBytes_31 : decode b_Opd_encodeBytes 31 = .ok (.iconst 2, 1) := by decide +kernel
theorem d_Opd_encodeBytes_32 : decode b_Opd_encodeBytes 32 = .ok (.sipush 255, 3) := by decide +kernel
theorem d_Opd_encodeBytes_35 : decode b_Opd_encodeBytes 35 = .ok (.invokevirtual 52, 3) := by decide +kernel
theorem d_Opd_encodeBytes_38 : decode b_Opd_encodeBytes 38 = .ok (.ifCond .eq 37, 3) := by decide +kernel
theorem d_Opd_encodeBytes_41 : decode b_Opd_encodeBytes 41 = .ok (.aload_n 0, 1) := by decide +kernel
theorem d_Opd_encodeBytes_42 : decode b_Opd_encodeBytes 42 = .ok (.iload_n 1, 1) := by decide +kernel
theorem d_Opd_encodeBytes_43 : decode b_Opd_encodeBytes 43 = .ok (.aload_n 0, 1) := by decide +kernel
theorem d_Opd_encodeBytes_44 : decode b_Opd_encodeBytes 44 = .ok (.getfield 9, 3) := by decide +kernel
theorem d_Opd_encodeBytes_47 : decode b_Opd_encodeBytes 47 = .ok (.iconst 0, 1) := by decide +kernel
theorem d_Opd_encodeBytes_48 : decode b_Opd_encodeBytes 48 = .ok (.laload, 1) := by decide +kernel
theorem d_Opd_encodeBytes_49 : decode b_Opd_encodeBytes 49 = .ok (.aload_n 0, 1) := by decide +kernel
theorem d_Opd_encodeBytes_50 : decode b_Opd_encodeBytes 50 = .ok (.getfield 9, 3) := by decide +kernel
theorem d_Opd_encodeBytes_53 : decode b_Opd_encodeBytes 53 = .ok (.iconst 1, 1) := by decide +kernel
theorem d_Opd_encodeBytes_54 : decode b_Opd_encodeBytes 54 = .ok (.laload, 1) := by decide +kernel
theorem d_Opd_encodeBytes_55 : decode b_Opd_encodeBytes 55 = .ok (.bipush 8, 2) := by decide +kernel
theorem d_Opd_encodeBytes_57 : decode b_Opd_encodeBytes 57 = .ok (.lshl, 1) := by decide +kernel
theorem d_Opd_encodeBytes_58 : decode b_Opd_encodeBytes 58 = .ok (.aload_n 0, 1) := by decide +kernel
theorem d_Opd_encodeBytes_59 : decode b_Opd_encodeBytes 59 = .ok (.getfield 9, 3) := by decide +kernel
theorem d_Opd_encodeBytes_62 : decode b_Opd_encodeBytes 62 = .ok (.iconst 2, 1) := by decide +kernel
theorem d_Opd_encodeBytes_63 : decode b_Opd_encodeBytes 63 = .ok (.laload, 1) := by decide +kernel
theorem d_Opd_encodeBytes_64 : decode b_Opd_encodeBytes 64 = .ok (.lor, 1) := by decide +kernel
theorem d_Opd_encodeBytes_65 : decode b_Opd_encodeBytes 65 = .ok (.invokevirtual 63, 3) := by decide +kernel
theorem d_Opd_encodeBytes_68 : decode b_Opd_encodeBytes 68 = .ok (.ifCond .eq 7, 3) := by decide +kernel
theorem d_Opd_encodeBytes_71 : decode b_Opd_encodeBytes 71 = .ok (.iconst 1, 1) := by decide +kernel
theorem d_Opd_encodeBytes_72 : decode b_Opd_encodeBytes 72 = .ok (.goto 4, 3) := by decide +kernel
theorem d_Opd_encodeBytes_75 : decode b_Opd_encodeBytes 75 = .ok (.iconst 0, 1) := by decide +kernel
theorem d_Opd_encodeBytes_76 : decode b_Opd_encodeBytes 76 = .ok (.ireturn, 1) := by decide +kernel
theorem d_Opd_encodeNegation_0 : decode b_Opd_encodeNegation 0 = .ok (.aload_n 0, 1) := by decide +kernel
theorem d_Opd_encodeNegation_1 : decode b_Opd_encodeNegation 1 = .ok (.getfield 17, 3) := by decide +kernel
theorem d_Opd_encodeNegation_4 : decode b_Opd_encodeNegation 4 = .ok (.iconst 2, 1) := by decide +kernel
theorem d_Opd_encodeNegation_5 : decode b_Opd_encodeNegation 5 = .ok (.if_icmp .ne 34, 3) := by decide +kernel
theorem d_Opd_encodeNegation_8 : decode b_Opd_encodeNegation 8 = .ok (.aload_n 0, 1) := by decide +kernel
theorem d_Opd_encodeNegation_9 : decode b_Opd_encodeNegation 9 = .ok (.getfield 13, 3) := by decide +kernel
theorem d_Opd_encodeNegation_12 : decode b_Opd_encodeNegation 12 = .ok (.iconst 0, 1) := by decide +kernel
theorem d_Opd_encodeNegation_13 : decode b_Opd_encodeNegation 13 = .ok (.baload, 1) := by decide +kernel
theorem d_Opd_encodeNegation_14 : decode b_Opd_encodeNegation 14 = .ok (.ifCond .eq 23, 3) := by decide +kernel
theorem d_Opd_encodeNegation_17 : decode b_Opd_encodeNegation 17 = .ok (.aload_n 0, 1) := by decide +kernel
theorem d_Opd_encodeNegation_18 : decode b_Opd_encodeNegation 18 = .ok (.iload_n 1, 1) := by decide +kernel
theorem d_Opd_encodeNegation_19 : decode b_Opd_encodeNegation 19 = .ok (.iconst 1, 1) := by decide +kernel
theorem d_Opd_encodeNegation_20 : decode b_Opd_encodeNegation 20 = .ok (.aload_n 0, 1) := by decide +kernel
theorem d_Opd_encodeNegation_21 : decode b_Opd_encodeNegation 21 = .ok (.getfield 9, 3) := by decide +kernel
theorem d_Opd_encodeNegation_24 : decode b_Opd_encodeNegation 24 = .ok (.iconst 0, 1) := by decide +kernel
theorem d_Opd_encodeNegation_25 : decode b_Opd_encodeNegation 25 = .ok (.laload, 1) := by decide +kernel
theorem d_Opd_encodeNegation_26 : decode b_Opd_encodeNegation 26 = .ok (.lconst 0, 1) := by decide +kernel
theorem d_Opd_encodeNegation_27 : decode b_Opd_encodeNegation 27 = .ok (.invokevirtual 44, 3) := by decide +kernel
theorem d_Opd_encodeNegation_30 : decode b_Opd_encodeNegation 30 = .ok (.ifCond .eq 7, 3) := by decide +kernel
theorem d_Opd_encodeNegation_33 : decode b_Opd_encodeNegation 33 = .ok (.iconst 1, 1) := by decide +kernel
theorem d_Opd_encodeNegation_34 : decode b_Opd_encodeNegation 34 = .ok (.goto 4, 3) := by decide +kernel
theorem d_Opd_encodeNegation_37 : decode b_Opd_encodeNegation 37 = .ok (.iconst 0, 1) := by decide +kernel
theorem d_Opd_encodeNegation_38 : decode b_Opd_encodeNegation 38 = .ok (.ireturn, 1) := by decide +kernel
theorem d_Opd_encodeNegation_39 : decode b_Opd_encodeNegation 39 = .ok (.aload_n 0, 1) := by decide +kernel
theorem d_Opd_encodeNegation_40 : decode b_Opd_encodeNegation 40 = .ok (.getfield 17, 3) := by decide +kernel
theorem d_Opd_encodeNegation_43 : decode b_Opd_encodeNegation 43 = .ok (.iconst 3, 1) := by decide +kernel
theorem d_Opd_encodeNegation_44 : decode b_Opd_encodeNegation 44 = .ok (.if_icmp .ne 48, 3) := by decide +kernel
theorem d_Opd_encodeNegation_47 : decode b_Opd_encodeNegation 47 = .ok (.aload_n 0, 1) := by decide +kernel
theorem d_Opd_encodeNegation_48 : decode b_Opd_encodeNegation 48 = .ok (.getfield 13, 3) := by decide +kernel
theorem d_Opd_encodeNegation_51 : decode b_Opd_encodeNegation 51 = .ok (.iconst 0, 1) := by decide +kernel
theorem d_Opd_encodeNegation_52 : decode b_Opd_encodeNegation 52 = .ok (.baload, 1) := by decide +kernel
theorem d_Opd_encodeNegation_53 : decode b_Opd_encodeNegation 53 = .ok (.ifCond .eq 39, 3) := by decide +kernel
theorem d_Opd_encodeNegation_56 : decode b_Opd_encodeNegation 56 = .ok (.aload_n 0, 1) := by decide +kernel
theorem d_Opd_encodeNegation_57 : decode b_Opd_encodeNegation 57 = .ok (.iconst 1, 1) := by decide +kernel
theorem d_Opd_encodeNegation_58 : decode b_Opd_encodeNegation 58 = .ok (.sipush 255, 3) := by decide +kernel
theorem d_Opd_encodeNegation_61 : decode b_Opd_encodeNegation 61 = .ok (.invokevirtual 52, 3) := by decide +kernel
theorem d_Opd_encodeNegation_64 : decode b_Opd_encodeNegation 64 = .ok (.ifCond .eq 28, 3) := by decide +kernel
theorem d_Opd_encodeNegation_67 : decode b_Opd_encodeNegation 67 = .ok (.aload_n 0, 1) := by decide +kernel
theorem d_Opd_encodeNegation_68 : decode b_Opd_encodeNegation 68 = .ok (.iload_n 1, 1) := by decide +kernel
theorem d_Opd_encodeNegation_69 : decode b_Opd_encodeNegation 69 = .ok (.iconst 2, 1) := by decide +kernel
theorem d_Opd_encodeNegation_70 : decode b_Opd_encodeNegation 70 = .ok (.aload_n 0, 1) := by decide +kernel
theorem d_Opd_encodeNegation_71 : decode b_Opd_encodeNegation 71 = .ok (.getfield 9, 3) := by decide +kernel
theorem d_Opd_encodeNegation_74 : decode b_Opd_encodeNegation 74 = .ok (.iconst 0, 1) := by decide +kernel
theorem d_Opd_encodeNegation_75 : decode b_Opd_encodeNegation 75 = .ok (.laload, 1) := by decide +kernel
theorem d_Opd_encodeNegation_76 : decode b_Opd_encodeNegation 76 = .ok (.aload_n 0, 1) := by decide +kernel
theorem d_Opd_encodeNegation_77 : decode b_Opd_encodeNegation 77 = .ok (.getfield 9, 3) := by decide +kernel
theorem d_Opd_encodeNegation_80 : decode b_Opd_encodeNegation 80 = .ok (.iconst 1, 1) := by decide +kernel
theorem d_Opd_encodeNegation_81 : decode b_Opd_encodeNegation 81 = .ok (.laload, 1) := by decide +kernel
theorem d_Opd_encodeNegation_82 : decode b_Opd_encodeNegation 82 = .ok (.invokevirtual 44, 3) := by decide +kernel
theorem d_Opd_encodeNegation_85 : decode b_Opd_encodeNegation 85 = .ok (.ifCond .eq 7, 3) := by decide +kernel
theorem d_Opd_encodeNegation_88 : decode b_Opd_encodeNegation 88 = .ok (.iconst 1, 1) := by decide +kernel
theorem d_Opd_encodeNegation_89 : decode b_Opd_encodeNegation 89 = .ok (.goto 4, 3) := by decide +kernel
theorem d_Opd_encodeNegation_92 : decode b_Opd_encodeNegation 92 = .ok (.iconst 0, 1) := by decide +kernel
theorem d_Opd_encodeNegation_93 : decode b_Opd_encodeNegation 93 = .ok (.ireturn, 1) := by decide +kernel
theorem d_Opd_isNumber_0 : decode b_Opd_isNumber 0 = .ok (.aload_n 0, 1) := by decide +kernel
theorem d_Opd_isNumber_1 : decode b_Opd_isNumber 1 = .ok (.getfield 13, 3) := by decide +kernel
theorem d_Opd_isNumber_4 : decode b_Opd_isNumber 4 = .ok (.iload_n 1, 1) := by decide +kernel
theorem d_Opd_isNumber_5 : decode b_Opd_isNumber 5 = .ok (.baload, 1) := by decide +kernel
theorem d_Opd_isNumber_6 : decode b_Opd_isNumber 6 = .ok (.ifCond .ne 30, 3) := by decide +kernel
theorem d_Opd_isNumber_9 : decode b_Opd_isNumber 9 = .ok (.aload_n 0, 1) := by decide +kernel
theorem d_Opd_isNumber_10 : decode b_Opd_isNumber 10 = .ok (.getfield 9, 3) := by decide +kernel
theorem d_Opd_isNumber_13 : decode b_Opd_isNumber 13 = .ok (.iload_n 1, 1) := by decide +kernel
theorem d_Opd_isNumber_14 : decode b_Opd_isNumber 14 = .ok (.laload, 1) := by decide +kernel
theorem d_Opd_isNumber_15 : decode b_Opd_isNumber 15 = .ok (.lconst 0, 1) := by decide +kernel
theorem d_Opd_isNumber_16 : decode b_Opd_isNumber 16 = .ok (.lcmp, 1) := by decide +kernel
theorem d_Opd_isNumber_17 : decode b_Opd_isNumber 17 = .ok (.ifCond .lt 19, 3) := by decide +kernel
theorem d_Opd_isNumber_20 : decode b_Opd_isNumber 20 = .ok (.aload_n 0, 1) := by decide +kernel
theorem d_Opd_isNumber_21 : decode b_Opd_isNumber 21 = .ok (.getfield 9, 3) := by decide +kernel
theorem d_Opd_isNumber_24 : decode b_Opd_isNumber 24 = .ok (.iload_n 1, 1) := by decide +kernel
theorem d_Opd_isNumber_25 : decode b_Opd_isNumber 25 = .ok (.laload, 1) := by decide +kernel
theorem d_Opd_isNumber_26 : decode b_Opd_isNumber 26 = .ok (.iload_n 2, 1) := by decide +kernel
theorem d_Opd_isNumber_27 : decode b_Opd_isNumber 27 = .ok (.i2l, 1) := by decide +kernel
theorem d_Opd_isNumber_28 : decode b_Opd_isNumber 28 = .ok (.lcmp, 1) := by decide +kernel
theorem d_Opd_isNumber_29 : decode b_Opd_isNumber 29 = .ok (.ifCond .gt 7, 3) := by decide +kernel
theorem d_Opd_isNumber_32 : decode b_Opd_isNumber 32 = .ok (.iconst 1, 1) := by decide +kernel
theorem d_Opd_isNumber_33 : decode b_Opd_isNumber 33 = .ok (.goto 4, 3) := by decide +kernel
theorem d_Opd_isNumber_36 : decode b_Opd_isNumber 36 = .ok (.iconst 0, 1) := by decide +kernel
theorem d_Opd_isNumber_37 : decode b_Opd_isNumber 37 = .ok (.ireturn, 1) := by decide +kernel
theorem d_Opd_isSpecial_0 : decode b_Opd_isSpecial 0 = .ok (.aload_n 0, 1) := by decide +kernel
theorem d_Opd_isSpecial_1 : decode b_Opd_isSpecial 1 = .ok (.getfield 13, 3) := by decide +kernel
theorem d_Opd_isSpecial_4 : decode b_Opd_isSpecial 4 = .ok (.iload_n 1, 1) := by decide +kernel
theorem d_Opd_isSpecial_5 : decode b_Opd_isSpecial 5 = .ok (.baload, 1) := by decide +kernel
theorem d_Opd_isSpecial_6 : decode b_Opd_isSpecial 6 = .ok (.ifCond .ne 19, 3) := by decide +kernel
theorem d_Opd_isSpecial_9 : decode b_Opd_isSpecial 9 = .ok (.aload_n 0, 1) := by decide +kernel
theorem d_Opd_isSpecial_10 : decode b_Opd_isSpecial 10 = .ok (.getfield 9, 3) := by decide +kernel
theorem d_Opd_isSpecial_13 : decode b_Opd_isSpecial 13 = .ok (.iload_n 1, 1) := by decide +kernel
theorem d_Opd_isSpecial_14 : decode b_Opd_isSpecial 14 = .ok (.laload, 1) := by decide +kernel
theorem d_Opd_isSpecial_15 : decode b_Opd_isSpecial 15 = .ok (.invokestatic 73, 3) := by decide +kernel
theorem d_Opd_isSpecial_18 : decode b_Opd_isSpecial 18 = .ok (.ifCond .eq 7, 3) := by decide +kernel
theorem d_Opd_isSpecial_21 : decode b_Opd_isSpecial 21 = .ok (.iconst 1, 1) := by decide +kernel
theorem d_Opd_isSpecial_22 : decode b_Opd_isSpecial 22 = .ok (.goto 4, 3) := by decide +kernel
theorem d_Opd_isSpecial_25 : decode b_Opd_isSpecial 25 = .ok (.iconst 0, 1) := by decide +kernel
theorem d_Opd_isSpecial_26 : decode b_Opd_isSpecial 26 = .ok (.ireturn, 1) := by decide +kernel
theorem d_Opd_make_0 : decode b_Opd_make 0 = .ok (.aload_n 0, 1) := by decide +kernel
theorem d_Opd_make_1 : decode b_Opd_make 1 = .ok (.iload_n 1, 1) := by decide +kernel
theorem d_Opd_make_2 : decode b_Opd_make 2 = .ok (.bipush 24, 2) := by decide +kernel
theorem d_Opd_make_4 : decode b_Opd_make 4 = .ok (.ishl, 1) := by decide +kernel
theorem d_Opd_make_5 : decode b_Opd_make 5 = .ok (.lload_n 2, 1) := by decide +kernel
theorem d_Opd_make_6 : decode b_Opd_make 6 = .ok (.l2i, 1) := by decide +kernel
theorem d_Opd_make_7 : decode b_Opd_make 7 = .ok (.bipush 16, 2) := by decide +kernel
theorem d_Opd_make_9 : decode b_Opd_make 9 = .ok (.ishl, 1) := by decide +kernel
theorem d_Opd_make_10 : decode b_Opd_make 10 = .ok (.ior, 1) := by decide +kernel
theorem d_Opd_make_11 : decode b_Opd_make 11 = .ok (.lload 4, 2) := by decide +kernel
theorem d_Opd_make_13 : decode b_Opd_make 13 = .ok (.l2i, 1) := by decide +kernel
theorem d_Opd_make_14 : decode b_Opd_make 14 = .ok (.ior, 1) := by decide +kernel
theorem d_Opd_make_15 : decode b_Opd_make 15 = .ok (.putfield 81, 3) := by decide +kernel
theorem d_Opd_make_18 : decode b_Opd_make 18 = .ok (.iconst 1, 1) := by decide +kernel
theorem d_Opd_make_19 : decode b_Opd_make 19 = .ok (.ireturn, 1) := by decide +kernel
theorem d_Opd_withLast_0 : decode b_Opd_withLast 0 = .ok (.aload_n 0, 1) := by decide +kernel
theorem d_Opd_withLast_1 : decode b_Opd_withLast 1 = .ok (.getfield 13, 3) := by decide +kernel
theorem d_Opd_withLast_4 : decode b_Opd_withLast 4 = .ok (.iload_n 2, 1) := by decide +kernel
theorem d_Opd_withLast_5 : decode b_Opd_withLast 5 = .ok (.baload, 1) := by decide +kernel
theorem d_Opd_withLast_6 : decode b_Opd_withLast 6 = .ok (.ifCond .eq 22, 3) := by decide +kernel
theorem d_Opd_withLast_9 : decode b_Opd_withLast 9 = .ok (.aload_n 0, 1) := by decide +kernel
theorem d_Opd_withLast_10 : decode b_Opd_withLast 10 = .ok (.iload_n 1, 1) := by decide +kernel
theorem d_Opd_withLast_11 : decode b_Opd_withLast 11 = .ok (.lload_n 3, 1) := by decide +kernel
theorem d_Opd_withLast_12 : decode b_Opd_withLast 12 = .ok (.lload 5, 2) := by decide +kernel
theorem d_Opd_withLast_14 : decode b_Opd_withLast 14 = .ok (.bipush 8, 2) := by decide +kernel
theorem d_Opd_withLast_16 : decode b_Opd_withLast 16 = .ok (.lshl, 1) := by decide +kernel
theorem d_Opd_withLast_17 : decode b_Opd_withLast 17 = .ok (.aload_n 0, 1) := by decide +kernel
theorem d_Opd_withLast_18 : decode b_Opd_withLast 18 = .ok (.getfield 9, 3) := by decide +kernel
theorem d_Opd_withLast_21 : decode b_Opd_withLast 21 = .ok (.iload_n 2, 1) := by decide +kernel
theorem d_Opd_withLast_22 : decode b_Opd_withLast 22 = .ok (.laload, 1) := by decide +kernel
theorem d_Opd_withLast_23 : decode b_Opd_withLast 23 = .ok (.lor, 1) := by decide +kernel
theorem d_Opd_withLast_24 : decode b_Opd_withLast 24 = .ok (.invokevirtual 63, 3) := by decide +kernel
theorem d_Opd_withLast_27 : decode b_Opd_withLast 27 = .ok (.ireturn, 1) := by decide +kernel
theorem d_Opd_withLast_28 : decode b_Opd_withLast 28 = .ok (.aload_n 0, 1) := by decide +kernel
theorem d_Opd_withLast_29 : decode b_Opd_withLast 29 = .ok (.iload_n 2, 1) := by decide +kernel
theorem d_Opd_withLast_30 : decode b_Opd_withLast 30 = .ok (.sipush 255, 3) := by decide +kernel
theorem d_Opd_withLast_33 : decode b_Opd_withLast 33 = .ok (.invokevirtual 52, 3) := by decide +kernel
theorem d_Opd_withLast_36 : decode b_Opd_withLast 36 = .ok (.ifCond .eq 30, 3) := by decide +kernel
theorem d_Opd_withLast_39 : decode b_Opd_withLast 39 = .ok (.aload_n 0, 1) := by decide +kernel
theorem d_Opd_withLast_40 : decode b_Opd_withLast 40 = .ok (.iload_n 1, 1) := by decide +kernel
theorem d_Opd_withLast_41 : decode b_Opd_withLast 41 = .ok (.iconst 1, 1) := by decide +kernel
theorem d_Opd_withLast_42 : decode b_Opd_withLast 42 = .ok (.iadd, 1) := by decide +kernel
theorem d_Opd_withLast_43 : decode b_Opd_withLast 43 = .ok (.lload_n 3, 1) := by decide +kernel
theorem d_Opd_withLast_44 : decode b_Opd_withLast 44 = .ok (.lload 5, 2) := by decide +kernel
theorem d_Opd_withLast_46 : decode b_Opd_withLast 46 = .ok (.bipush 8, 2) := by decide +kernel
theorem d_Opd_withLast_48 : decode b_Opd_withLast 48 = .ok (.lshl, 1) := by decide +kernel
theorem d_Opd_withLast_49 : decode b_Opd_withLast 49 = .ok (.aload_n 0, 1) := by decide +kernel
theorem d_Opd_withLast_50 : decode b_Opd_withLast 50 = .ok (.getfield 9, 3) := by decide +kernel
theorem d_Opd_withLast_53 : decode b_Opd_withLast 53 = .ok (.iload_n 2, 1) := by decide +kernel
theorem d_Opd_withLast_54 : decode b_Opd_withLast 54 = .ok (.laload, 1) := by decide +kernel
theorem d_Opd_withLast_55 : decode b_Opd_withLast 55 = .ok (.lor, 1) := by decide +kernel
theorem d_Opd_withLast_56 : decode b_Opd_withLast 56 = .ok (.invokevirtual 63, 3) := by decide +kernel
theorem d_Opd_withLast_59 : decode b_Opd_withLast 59 = .ok (.ifCond .eq 7, 3) := by decide +kernel
theorem d_Opd_withLast_62 : decode b_Opd_withLast 62 = .ok (.iconst 1, 1) := by decide +kernel
theorem d_Opd_withLast_63 : decode b_Opd_withLast 63 = .ok (.goto 4, 3) := by decide +kernel
theorem d_Opd_withLast_66 : decode b_Opd_withLast 66 = .ok (.iconst 0, 1) := by decide +kernel
theorem d_Opd_withLast_67 : decode b_Opd_withLast 67 = .ok (.ireturn, 1) := by decide +kernel
theorem d_Opd_withPlace_0 : decode b_Opd_withPlace 0 = .ok (.aload_n 0, 1) := by decide +kernel
theorem d_Opd_withPlace_1 : decode b_Opd_withPlace 1 = .ok (.getfield 9, 3) := by decide +kernel
theorem d_Opd_withPlace_4 : decode b_Opd_withPlace 4 = .ok (.iload_n 2, 1) := by decide +kernel
theorem d_Opd_withPlace_5 : decode b_Opd_withPlace 5 = .ok (.laload, 1) := by decide +kernel
theorem d_Opd_withPlace_6 : decode b_Opd_withPlace 6 = .ok (.lload_n 3, 1) := by decide +kernel
theorem d_Opd_withPlace_7 : decode b_Opd_withPlace 7 = .ok (.lsub, 1) := by decide +kernel
theorem d_Opd_withPlace_8 : decode b_Opd_withPlace 8 = .ok (.iconst 2, 1) := by decide +kernel
theorem d_Opd_withPlace_9 : decode b_Opd_withPlace 9 = .ok (.lshr, 1) := by decide +kernel
theorem d_Opd_withPlace_10 : decode b_Opd_withPlace 10 = .ok (.lstore 6, 2) := by decide +kernel
theorem d_Opd_withPlace_12 : decode b_Opd_withPlace 12 = .ok (.aload_n 0, 1) := by decide +kernel
theorem d_Opd_withPlace_13 : decode b_Opd_withPlace 13 = .ok (.getfield 13, 3) := by decide +kernel
theorem d_Opd_withPlace_16 : decode b_Opd_withPlace 16 = .ok (.iload_n 2, 1) := by decide +kernel
theorem d_Opd_withPlace_17 : decode b_Opd_withPlace 17 = .ok (.baload, 1) := by decide +kernel
theorem d_Opd_withPlace_18 : decode b_Opd_withPlace 18 = .ok (.ifCond .ne 37, 3) := by decide +kernel
theorem d_Opd_withPlace_21 : decode b_Opd_withPlace 21 = .ok (.aload_n 0, 1) := by decide +kernel
theorem d_Opd_withPlace_22 : decode b_Opd_withPlace 22 = .ok (.getfield 9, 3) := by decide +kernel
theorem d_Opd_withPlace_25 : decode b_Opd_withPlace 25 = .ok (.iload_n 2, 1) := by decide +kernel
theorem d_Opd_withPlace_26 : decode b_Opd_withPlace 26 = .ok (.laload, 1) := by decide +kernel
theorem d_Opd_withPlace_27 : decode b_Opd_withPlace 27 = .ok (.ldc2_w 79, 3) := by decide +kernel
theorem d_Opd_withPlace_30 : decode b_Opd_withPlace 30 = .ok (.land, 1) := by decide +kernel
theorem d_Opd_withPlace_31 : decode b_Opd_withPlace 31 = .ok (.lconst 0, 1) := by decide +kernel
theorem d_Opd_withPlace_32 : decode b_Opd_withPlace 32 = .ok (.lcmp, 1) := by decide +kernel
theorem d_Opd_withPlace_33 : decode b_Opd_withPlace 33 = .ok (.ifCond .ne 22, 3) := by decide +kernel
theorem d_Opd_withPlace_36 : decode b_Opd_withPlace 36 = .ok (.lload 6, 2) := by decide +kernel
theorem d_Opd_withPlace_38 : decode b_Opd_withPlace 38 = .ok (.iload 5, 2) := by decide +kernel
theorem d_Opd_withPlace_40 : decode b_Opd_withPlace 40 = .ok (.ineg, 1) := by decide +kernel
theorem d_Opd_withPlace_41 : decode b_Opd_withPlace 41 = .ok (.i2l, 1) := by decide +kernel
theorem d_Opd_withPlace_42 : decode b_Opd_withPlace 42 = .ok (.lcmp, 1) := by decide +kernel
theorem d_Opd_withPlace_43 : decode b_Opd_withPlace 43 = .ok (.ifCond .lt 12, 3) := by decide +kernel
theorem d_Opd_withPlace_46 : decode b_Opd_withPlace 46 = .ok (.lload 6, 2) := by decide +kernel
theorem d_Opd_withPlace_48 : decode b_Opd_withPlace 48 = .ok (.iload 5, 2) := by decide +kernel
theorem d_Opd_withPlace_50 : decode b_Opd_withPlace 50 = .ok (.i2l, 1) := by decide +kernel
theorem d_Opd_withPlace_51 : decode b_Opd_withPlace 51 = .ok (.lcmp, 1) := by decide +kernel
theorem d_Opd_withPlace_52 : decode b_Opd_withPlace 52 = .ok (.ifCond .lt 5, 3) := by decide +kernel
theorem d_Opd_withPlace_55 : decode b_Opd_withPlace 55 = .ok (.iconst 0, 1) := by decide +kernel
theorem d_Opd_withPlace_56 : decode b_Opd_withPlace 56 = .ok (.ireturn, 1) := by decide +kernel
theorem d_Opd_withPlace_57 : decode b_Opd_withPlace 57 = .ok (.lload 6, 2) := by decide +kernel
theorem d_Opd_withPlace_59 : decode b_Opd_withPlace 59 = .ok (.lconst 0, 1) := by decide +kernel
theorem d_Opd_withPlace_60 : decode b_Opd_withPlace 60 = .ok (.lcmp, 1) := by decide +kernel
theorem d_Opd_withPlace_61 : decode b_Opd_withPlace 61 = .ok (.ifCond .ge 9, 3) := by decide +kernel
theorem d_Opd_withPlace_64 : decode b_Opd_withPlace 64 = .ok (.iload_n 1, 1) := by decide +kernel
theorem d_Opd_withPlace_65 : decode b_Opd_withPlace 65 = .ok (.iconst 1, 1) := by decide +kernel
theorem d_Opd_withPlace_66 : decode b_Opd_withPlace 66 = .ok (.iadd, 1) := by decide +kernel
theorem d_Opd_withPlace_67 : decode b_Opd_withPlace 67 = .ok (.goto 4, 3) := by decide +kernel
theorem d_Opd_withPlace_70 : decode b_Opd_withPlace 70 = .ok (.iload_n 1, 1) := by decide +kernel
theorem d_Opd_withPlace_71 : decode b_Opd_withPlace 71 = .ok (.istore 8, 2) := by decide +kernel
theorem d_Opd_withPlace_73 : decode b_Opd_withPlace 73 = .ok (.aload_n 0, 1) := by decide +kernel
theorem d_Opd_withPlace_74 : decode b_Opd_withPlace 74 = .ok (.iload 8, 2) := by decide +kernel
theorem d_Opd_withPlace_76 : decode b_Opd_withPlace 76 = .ok (.iload_n 2, 1) := by decide +kernel
theorem d_Opd_withPlace_77 : decode b_Opd_withPlace 77 = .ok (.ifCond .ne 7, 3) := by decide +kernel
theorem d_Opd_withPlace_80 : decode b_Opd_withPlace 80 = .ok (.lconst 0, 1) := by decide +kernel
theorem d_Opd_withPlace_81 : decode b_Opd_withPlace 81 = .ok (.goto 9, 3) := by decide +kernel
theorem d_Opd_withPlace_84 : decode b_Opd_withPlace 84 = .ok (.aload_n 0, 1) := by decide +kernel
theorem d_Opd_withPlace_85 : decode b_Opd_withPlace 85 = .ok (.getfield 9, 3) := by decide +kernel
theorem d_Opd_withPlace_88 : decode b_Opd_withPlace 88 = .ok (.iconst 0, 1) := by decide +kernel
theorem d_Opd_withPlace_89 : decode b_Opd_withPlace 89 = .ok (.laload, 1) := by decide +kernel
theorem d_Opd_withPlace_90 : decode b_Opd_withPlace 90 = .ok (.lload 6, 2) := by decide +kernel
theorem d_Opd_withPlace_92 : decode b_Opd_withPlace 92 = .ok (.lconst 0, 1) := by decide +kernel
theorem d_Opd_withPlace_93 : decode b_Opd_withPlace 93 = .ok (.lcmp, 1) := by decide +kernel
theorem d_Opd_withPlace_94 : decode b_Opd_withPlace 94 = .ok (.ifCond .ge 12, 3) := by decide +kernel
theorem d_Opd_withPlace_97 : decode b_Opd_withPlace 97 = .ok (.lload 6, 2) := by decide +kernel
theorem d_Opd_withPlace_99 : decode b_Opd_withPlace 99 = .ok (.iload 5, 2) := by decide +kernel
theorem d_Opd_withPlace_101 : decode b_Opd_withPlace 101 = .ok (.i2l, 1) := by decide +kernel
theorem d_Opd_withPlace_102 : decode b_Opd_withPlace 102 = .ok (.ladd, 1) := by decide +kernel
theorem d_Opd_withPlace_103 : decode b_Opd_withPlace 103 = .ok (.goto 5, 3) := by decide +kernel
theorem d_Opd_withPlace_106 : decode b_Opd_withPlace 106 = .ok (.lload 6, 2) := by decide +kernel
theorem d_Opd_withPlace_108 : decode b_Opd_withPlace 108 = .ok (.invokevirtual 63, 3) := by decide +kernel
theorem d_Opd_withPlace_111 : decode b_Opd_withPlace 111 = .ok (.ireturn, 1) := by decide +kernel
