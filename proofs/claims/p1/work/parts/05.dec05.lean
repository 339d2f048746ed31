theorem d_Mod_assemble_83 : decode b_Mod_assemble 83 = .ok (.if_icmp .eq 5, 3) := by decide +kernel
theorem d_Mod_assemble_88 : decode b_Mod_assemble 88 = .ok (.aload_n 0, 1) := by decide +kernel
theorem d_Mod_assemble_89 : decode b_Mod_assemble 89 = .ok (.aload_n 0, 1) := by decide +kernel
theorem d_Mod_assemble_90 : decode b_Mod_assemble 90 = .ok (.getfield 133, 3) := by decide +kernel
theorem d_Mod_assemble_93 : decode b_Mod_assemble 93 = .ok (.putfield 298, 3) := by decide +kernel
theorem d_Mod_assemble_96 : decode b_Mod_assemble 96 = .ok (.iconst 0, 1) := by decide +kernel
theorem d_Mod_assemble_97 : decode b_Mod_assemble 97 = .ok (.istore_n 2, 1) := by decide +kernel
theorem d_Mod_assemble_98 : decode b_Mod_assemble 98 = .ok (.iload_n 2, 1) := by decide +kernel
theorem d_Mod_assemble_99 : decode b_Mod_assemble 99 = .ok (.aload_n 0, 1) := by decide +kernel
theorem d_Mod_assemble_100 : decode b_Mod_assemble 100 = .ok (.getfield 133, 3) := by decide +kernel
theorem d_Mod_assemble_103 : decode b_Mod_assemble 103 = .ok (.if_icmp .ge 43, 3) := by decide +kernel
theorem d_Mod_assemble_146 : decode b_Mod_assemble 146 = .ok (.iconst 0, 1) := by decide +kernel
theorem d_Mod_assemble_147 : decode b_Mod_assemble 147 = .ok (.istore_n 2, 1) := by decide +kernel
theorem d_Mod_assemble_148 : decode b_Mod_assemble 148 = .ok (.iload_n 2, 1) := by decide +kernel
theorem d_Mod_assemble_149 : decode b_Mod_assemble 149 = .ok (.sipush 4096, 3) := by decide +kernel
theorem d_Mod_assemble_152 : decode b_Mod_assemble 152 = .ok (.if_icmp .ge 21, 3) := by decide +kernel
theorem d_Mod_assemble_155 : decode b_Mod_assemble 155 = .ok (.aload_n 0, 1) := by decide +kernel
theorem d_Mod_assemble_156 : decode b_Mod_assemble 156 = .ok (.getfield 37, 3) := by decide +kernel
theorem d_Mod_assemble_159 : decode b_Mod_assemble 159 = .ok (.iload_n 2, 1) := by decide +kernel
theorem d_Mod_assemble_160 : decode b_Mod_assemble 160 = .ok (.aload_n 0, 1) := by decide +kernel
theorem d_Mod_assemble_161 : decode b_Mod_assemble 161 = .ok (.getfield 40, 3) := by decide +kernel
theorem d_Mod_assemble_164 : decode b_Mod_assemble 164 = .ok (.iload_n 2, 1) := by decide +kernel
theorem d_Mod_assemble_165 : decode b_Mod_assemble 165 = .ok (.iaload, 1) := by decide +kernel
theorem d_Mod_assemble_166 : decode b_Mod_assemble 166 = .ok (.iastore, 1) := by decide +kernel
theorem d_Mod_assemble_167 : decode b_Mod_assemble 167 = .ok (.iinc 2 1, 3) := by decide +kernel
theorem d_Mod_assemble_170 : decode b_Mod_assemble 170 = .ok (.goto (-22), 3) := by decide +kernel
theorem d_Mod_assemble_173 : decode b_Mod_assemble 173 = .ok (.aload_n 0, 1) := by decide +kernel
theorem d_Mod_assemble_174 : decode b_Mod_assemble 174 = .ok (.invokevirtual 55, 3) := by decide +kernel
theorem d_Mod_assemble_177 : decode b_Mod_assemble 177 = .ok (.iconst 0, 1) := by decide +kernel
theorem d_Mod_assemble_178 : decode b_Mod_assemble 178 = .ok (.ireturn, 1) := by decide +kernel
theorem d_Mod_back_0 : decode b_Mod_back 0 = .ok (.aload_n 0, 1) := by decide +kernel
theorem d_Mod_back_1 : decode b_Mod_back 1 = .ok (.iconst 0, 1) := by decide +kernel
theorem d_Mod_back_2 : decode b_Mod_back 2 = .ok (.putfield 58, 3) := by decide +kernel
theorem d_Mod_back_5 : decode b_Mod_back 5 = .ok (.aload_n 0, 1) := by decide +kernel
theorem d_Mod_back_6 : decode b_Mod_back 6 = .ok (.invokevirtual 55, 3) := by decide +kernel
theorem d_Mod_back_9 : decode b_Mod_back 9 = .ok (.return_, 1) := by decide +kernel
theorem d_Mod_byteAt_0 : decode b_Mod_byteAt 0 = .ok (.aload_n 0, 1) := by decide +kernel
theorem d_Mod_byteAt_1 : decode b_Mod_byteAt 1 = .ok (.iconst 0, 1) := by decide +kernel
theorem d_Mod_byteAt_2 : decode b_Mod_byteAt 2 = .ok (.putfield 58, 3) := by decide +kernel
theorem d_Mod_byteAt_5 : decode b_Mod_byteAt 5 = .ok (.iload_n 1, 1) := by decide +kernel
theorem d_Mod_byteAt_6 : decode b_Mod_byteAt 6 = .ok (.ifCond .lt 10, 3) := by decide +kernel
theorem d_Mod_byteAt_9 : decode b_Mod_byteAt 9 = .ok (.iload_n 1, 1) := by decide +kernel
theorem d_Mod_byteAt_10 : decode b_Mod_byteAt 10 = .ok (.sipush 4096, 3) := by decide +kernel
theorem d_Mod_byteAt_13 : decode b_Mod_byteAt 13 = .ok (.if_icmp .lt 7, 3) := by decide +kernel
theorem d_Mod_byteAt_16 : decode b_Mod_byteAt 16 = .ok (.iconst (-1), 1) := by decide +kernel
theorem d_Mod_byteAt_17 : decode b_Mod_byteAt 17 = .ok (.goto 9, 3) := by decide +kernel
theorem d_Mod_byteAt_20 : decode b_Mod_byteAt 20 = .ok (.aload_n 0, 1) := by decide +kernel
theorem d_Mod_byteAt_21 : decode b_Mod_byteAt 21 = .ok (.getfield 37, 3) := by decide +kernel
theorem d_Mod_byteAt_24 : decode b_Mod_byteAt 24 = .ok (.iload_n 1, 1) := by decide +kernel
theorem d_Mod_byteAt_25 : decode b_Mod_byteAt 25 = .ok (.iaload, 1) := by decide +kernel
theorem d_Mod_byteAt_26 : decode b_Mod_byteAt 26 = .ok (.ireturn, 1) := by decide +kernel
theorem d_Mod_feed_0 : decode b_Mod_feed 0 = .ok (.aload_n 0, 1) := by decide +kernel
theorem d_Mod_feed_1 : decode b_Mod_feed 1 = .ok (.iconst 0, 1) := by decide +kernel
theorem d_Mod_feed_2 : decode b_Mod_feed 2 = .ok (.putfield 58, 3) := by decide +kernel
theorem d_Mod_feed_5 : decode b_Mod_feed 5 = .ok (.aload_n 0, 1) := by decide +kernel
theorem d_Mod_feed_6 : decode b_Mod_feed 6 = .ok (.getfield 85, 3) := by decide +kernel
theorem d_Mod_feed_9 : decode b_Mod_feed 9 = .ok (.bipush 20, 2) := by decide +kernel
theorem d_Mod_feed_11 : decode b_Mod_feed 11 = .ok (.iadd, 1) := by decide +kernel
theorem d_Mod_feed_12 : decode b_Mod_feed 12 = .ok (.sipush 1600, 3) := by decide +kernel
theorem d_Mod_feed_15 : decode b_Mod_feed 15 = .ok (.if_icmp .le 5, 3) := by decide +kernel
theorem d_Mod_feed_20 : decode b_Mod_feed 20 = .ok (.iconst 0, 1) := by decide +kernel
theorem d_Mod_feed_21 : decode b_Mod_feed 21 = .ok (.istore 6, 2) := by decide +kernel
theorem d_Mod_feed_23 : decode b_Mod_feed 23 = .ok (.iload 6, 2) := by decide +kernel
theorem d_Mod_feed_25 : decode b_Mod_feed 25 = .ok (.bipush 20, 2) := by decide +kernel
theorem d_Mod_feed_27 : decode b_Mod_feed 27 = .ok (.if_icmp .ge 86, 3) := by decide +kernel
theorem d_Mod_feed_30 : decode b_Mod_feed 30 = .ok (.iload 6, 2) := by decide +kernel
theorem d_Mod_feed_32 : decode b_Mod_feed 32 = .ok (.iconst 4, 1) := by decide +kernel
theorem d_Mod_feed_33 : decode b_Mod_feed 33 = .ok (.if_icmp .ge 7, 3) := by decide +kernel
theorem d_Mod_feed_36 : decode b_Mod_feed 36 = .ok (.iload_n 1, 1) := by decide +kernel
theorem d_Mod_feed_37 : decode b_Mod_feed 37 = .ok (.goto 39, 3) := by decide +kernel
theorem d_Mod_feed_40 : decode b_Mod_feed 40 = .ok (.iload 6, 2) := by decide +kernel
theorem d_Mod_feed_42 : decode b_Mod_feed 42 = .ok (.bipush 8, 2) := by decide +kernel
theorem d_Mod_feed_44 : decode b_Mod_feed 44 = .ok (.if_icmp .ge 7, 3) := by decide +kernel
theorem d_Mod_feed_47 : decode b_Mod_feed 47 = .ok (.iload_n 2, 1) := by decide +kernel
theorem d_Mod_feed_48 : decode b_Mod_feed 48 = .ok (.goto 28, 3) := by decide +kernel
theorem d_Mod_feed_51 : decode b_Mod_feed 51 = .ok (.iload 6, 2) := by decide +kernel
theorem d_Mod_feed_53 : decode b_Mod_feed 53 = .ok (.bipush 12, 2) := by decide +kernel
theorem d_Mod_feed_55 : decode b_Mod_feed 55 = .ok (.if_icmp .ge 7, 3) := by decide +kernel
theorem d_Mod_feed_58 : decode b_Mod_feed 58 = .ok (.iload_n 3, 1) := by decide +kernel
theorem d_Mod_feed_59 : decode b_Mod_feed 59 = .ok (.goto 17, 3) := by decide +kernel
theorem d_Mod_feed_62 : decode b_Mod_feed 62 = .ok (.iload 6, 2) := by decide +kernel
theorem d_Mod_feed_64 : decode b_Mod_feed 64 = .ok (.bipush 16, 2) := by decide +kernel
theorem d_Mod_feed_66 : decode b_Mod_feed 66 = .ok (.if_icmp .ge 8, 3) := by decide +kernel
theorem d_Mod_feed_69 : decode b_Mod_feed 69 = .ok (.iload 4, 2) := by decide +kernel
theorem d_Mod_feed_71 : decode b_Mod_feed 71 = .ok (.goto 5, 3) := by decide +kernel
theorem d_Mod_feed_74 : decode b_Mod_feed 74 = .ok (.iload 5, 2) := by decide +kernel
theorem d_Mod_feed_76 : decode b_Mod_feed 76 = .ok (.istore 7, 2) := by decide +kernel
theorem d_Mod_feed_78 : decode b_Mod_feed 78 = .ok (.aload_n 0, 1) := by decide +kernel
theorem d_Mod_feed_79 : decode b_Mod_feed 79 = .ok (.getfield 7, 3) := by decide +kernel
theorem d_Mod_feed_82 : decode b_Mod_feed 82 = .ok (.aload_n 0, 1) := by decide +kernel
theorem d_Mod_feed_83 : decode b_Mod_feed 83 = .ok (.getfield 85, 3) := by decide +kernel
theorem d_Mod_feed_86 : decode b_Mod_feed 86 = .ok (.iload 6, 2) := by decide +kernel
theorem d_Mod_feed_88 : decode b_Mod_feed 88 = .ok (.iadd, 1) := by decide +kernel
theorem d_Mod_feed_89 : decode b_Mod_feed 89 = .ok (.iload 7, 2) := by decide +kernel
theorem d_Mod_feed_91 : decode b_Mod_feed 91 = .ok (.bipush 24, 2) := by decide +kernel
theorem d_Mod_feed_93 : decode b_Mod_feed 93 = .ok (.bipush 8, 2) := by decide +kernel
theorem d_Mod_feed_95 : decode b_Mod_feed 95 = .ok (.iload 6, 2) := by decide +kernel
theorem d_Mod_feed_97 : decode b_Mod_feed 97 = .ok (.iconst 4, 1) := by decide +kernel
theorem d_Mod_feed_98 : decode b_Mod_feed 98 = .ok (.irem, 1) := by decide +kernel
theorem d_Mod_feed_99 : decode b_Mod_feed 99 = .ok (.imul, 1) := by decide +kernel
theorem d_Mod_feed_100 : decode b_Mod_feed 100 = .ok (.isub, 1) := by decide +kernel
theorem d_Mod_feed_101 : decode b_Mod_feed 101 = .ok (.ishr, 1) := by decide +kernel
theorem d_Mod_feed_102 : decode b_Mod_feed 102 = .ok (.sipush 255, 3) := by decide +kernel
theorem d_Mod_feed_105 : decode b_Mod_feed 105 = .ok (.iand, 1) := by decide +kernel
theorem d_Mod_feed_106 : decode b_Mod_feed 106 = .ok (.iastore, 1) := by decide +kernel
theorem d_Mod_feed_107 : decode b_Mod_feed 107 = .ok (.iinc 6 1, 3) := by decide +kernel
theorem d_Mod_feed_110 : decode b_Mod_feed 110 = .ok (.goto (-87), 3) := by decide +kernel
theorem d_Mod_feed_113 : decode b_Mod_feed 113 = .ok (.aload_n 0, 1) := by decide +kernel
theorem d_Mod_feed_114 : decode b_Mod_feed 114 = .ok (.dup, 1) := by decide +kernel
theorem d_Mod_feed_115 : decode b_Mod_feed 115 = .ok (.getfield 85, 3) := by decide +kernel
theorem d_Mod_feed_118 : decode b_Mod_feed 118 = .ok (.bipush 20, 2) := by decide +kernel
theorem d_Mod_feed_120 : decode b_Mod_feed 120 = .ok (.iadd, 1) := by decide +kernel
theorem d_Mod_feed_121 : decode b_Mod_feed 121 = .ok (.putfield 85, 3) := by decide +kernel
theorem d_Mod_feed_124 : decode b_Mod_feed 124 = .ok (.iconst 1, 1) := by decide +kernel
theorem d_Mod_feed_125 : decode b_Mod_feed 125 = .ok (.ireturn, 1) := by decide +kernel
theorem d_Mod_first_0 : decode b_Mod_first 0 = .ok (.aload_n 0, 1) := by decide +kernel
theorem d_Mod_first_1 : decode b_Mod_first 1 = .ok (.iconst 0, 1) := by decide +kernel
theorem d_Mod_first_2 : decode b_Mod_first 2 = .ok (.putfield 133, 3) := by decide +kernel
theorem d_Mod_first_5 : decode b_Mod_first 5 = .ok (.sipush 256, 3) := by decide +kernel
theorem d_Mod_first_8 : decode b_Mod_first 8 = .ok (.istore_n 1, 1) := by decide +kernel
theorem d_Mod_first_9 : decode b_Mod_first 9 = .ok (.iconst 0, 1) := by decide +kernel
theorem d_Mod_first_10 : decode b_Mod_first 10 = .ok (.istore_n 2, 1) := by decide +kernel
theorem d_Mod_first_11 : decode b_Mod_first 11 = .ok (.iconst 0, 1) := by decide +kernel
theorem d_Mod_first_12 : decode b_Mod_first 12 = .ok (.istore_n 3, 1) := by decide +kernel
theorem d_Mod_first_13 : decode b_Mod_first 13 = .ok (.iconst 0, 1) := by decide +kernel
theorem d_Mod_first_14 : decode b_Mod_first 14 = .ok (.istore 4, 2) := by decide +kernel
theorem d_Mod_first_16 : decode b_Mod_first 16 = .ok (.iload 4, 2) := by decide +kernel
theorem d_Mod_first_18 : decode b_Mod_first 18 = .ok (.aload_n 0, 1) := by decide +kernel
theorem d_Mod_first_19 : decode b_Mod_first 19 = .ok (.getfield 88, 3) := by decide +kernel
theorem d_Mod_first_22 : decode b_Mod_first 22 = .ok (.if_icmp .ge 355, 3) := by decide +kernel
theorem d_Mod_first_377 : decode b_Mod_first 377 = .ok (.iconst (-1), 1) := by decide +kernel
theorem d_Mod_first_378 : decode b_Mod_first 378 = .ok (.ireturn, 1) := by decide +kernel
theorem d_Mod_get_0 : decode b_Mod_get 0 = .ok (.iload_n 1, 1) := by decide +kernel
theorem d_Mod_get_1 : decode b_Mod_get 1 = .ok (.aload_n 0, 1) := by decide +kernel
theorem d_Mod_get_2 : decode b_Mod_get 2 = .ok (.getfield 67, 3) := by decide +kernel
theorem d_Mod_get_5 : decode b_Mod_get 5 = .ok (.if_icmp .ge 11, 3) := by decide +kernel
theorem d_Mod_get_8 : decode b_Mod_get 8 = .ok (.iload_n 1, 1) := by decide +kernel
theorem d_Mod_get_9 : decode b_Mod_get 9 = .ok (.aload_n 0, 1) := by decide +kernel
theorem d_Mod_get_10 : decode b_Mod_get 10 = .ok (.getfield 64, 3) := by decide +kernel
theorem d_Mod_get_13 : decode b_Mod_get 13 = .ok (.if_icmp .ge 12, 3) := by decide +kernel
theorem d_Mod_get_16 : decode b_Mod_get 16 = .ok (.aload_n 0, 1) := by decide +kernel
theorem d_Mod_get_17 : decode b_Mod_get 17 = .ok (.getfield 43, 3) := by decide +kernel
theorem d_Mod_get_20 : decode b_Mod_get 20 = .ok (.iload_n 1, 1) := by decide +kernel
theorem d_Mod_get_21 : decode b_Mod_get 21 = .ok (.laload, 1) := by decide +kernel
theorem d_Mod_get_22 : decode b_Mod_get 22 = .ok (.goto 4, 3) := by decide +kernel
theorem d_Mod_get_25 : decode b_Mod_get 25 = .ok (.lconst 0, 1) := by decide +kernel
theorem d_Mod_get_26 : decode b_Mod_get 26 = .ok (.lreturn, 1) := by decide +kernel
theorem d_Mod_getSpecial_0 : decode b_Mod_getSpecial 0 = .ok (.iload_n 1, 1) := by decide +kernel
theorem d_Mod_getSpecial_1 : decode b_Mod_getSpecial 1 = .ok (.bipush 19, 2) := by decide +kernel
theorem d_Mod_getSpecial_3 : decode b_Mod_getSpecial 3 = .ok (.if_icmp .ne 11, 3) := by decide +kernel
theorem d_Mod_getSpecial_6 : decode b_Mod_getSpecial 6 = .ok (.aload_n 0, 1) := by decide +kernel
theorem d_Mod_getSpecial_7 : decode b_Mod_getSpecial 7 = .ok (.getfield 67, 3) := by decide +kernel
theorem d_Mod_getSpecial_10 : decode b_Mod_getSpecial 10 = .ok (.i2l, 1) := by decide +kernel
theorem d_Mod_getSpecial_11 : decode b_Mod_getSpecial 11 = .ok (.goto 23, 3) := by decide +kernel
theorem d_Mod_getSpecial_14 : decode b_Mod_getSpecial 14 = .ok (.iload_n 1, 1) := by decide +kernel
theorem d_Mod_getSpecial_15 : decode b_Mod_getSpecial 15 = .ok (.bipush 20, 2) := by decide +kernel
theorem d_Mod_getSpecial_17 : decode b_Mod_getSpecial 17 = .ok (.if_icmp .ne 11, 3) := by decide +kernel
theorem d_Mod_getSpecial_20 : decode b_Mod_getSpecial 20 = .ok (.aload_n 0, 1) := by decide +kernel
theorem d_Mod_getSpecial_21 : decode b_Mod_getSpecial 21 = .ok (.getfield 64, 3) := by decide +kernel
theorem d_Mod_getSpecial_24 : decode b_Mod_getSpecial 24 = .ok (.i2l, 1) := by decide +kernel
theorem d_Mod_getSpecial_25 : decode b_Mod_getSpecial 25 = .ok (.goto 9, 3) := by decide +kernel
theorem d_Mod_getSpecial_28 : decode b_Mod_getSpecial 28 = .ok (.aload_n 0, 1) := by decide +kernel
theorem d_Mod_getSpecial_29 : decode b_Mod_getSpecial 29 = .ok (.getfield 46, 3) := by decide +kernel
theorem d_Mod_getSpecial_32 : decode b_Mod_getSpecial 32 = .ok (.iload_n 1, 1) := by decide +kernel
theorem d_Mod_getSpecial_33 : decode b_Mod_getSpecial 33 = .ok (.laload, 1) := by decide +kernel
theorem d_Mod_getSpecial_34 : decode b_Mod_getSpecial 34 = .ok (.lreturn, 1) := by decide +kernel
theorem d_Mod_illAt_0 : decode b_Mod_illAt 0 = .ok (.aload_n 0, 1) := by decide +kernel
theorem d_Mod_illAt_1 : decode b_Mod_illAt 1 = .ok (.iconst 0, 1) := by decide +kernel
theorem d_Mod_illAt_2 : decode b_Mod_illAt 2 = .ok (.putfield 58, 3) := by decide +kernel
theorem d_Mod_illAt_5 : decode b_Mod_illAt 5 = .ok (.aload_n 0, 1) := by decide +kernel
theorem d_Mod_illAt_6 : decode b_Mod_illAt 6 = .ok (.getfield 16, 3) := by decide +kernel
theorem d_Mod_illAt_9 : decode b_Mod_illAt 9 = .ok (.ireturn, 1) := by decide +kernel
theorem d_Mod_isOp_0 : decode b_Mod_isOp 0 = .ok (.iload_n 1, 1) := by decide +kernel
theorem d_Mod_isOp_1 : decode b_Mod_isOp 1 = .ok (.ifCond .eq 65, 3) := by decide +kernel
theorem d_Mod_isOp_66 : decode b_Mod_isOp 66 = .ok (.iconst 1, 1) := by decide +kernel
theorem d_Mod_isOp_67 : decode b_Mod_isOp 67 = .ok (.goto 4, 3) := by decide +kernel
theorem d_Mod_isOp_71 : decode b_Mod_isOp 71 = .ok (.ireturn, 1) := by decide +kernel
theorem d_Mod_isSpecial_0 : decode b_Mod_isSpecial 0 = .ok (.lload_n 0, 1) := by decide +kernel
theorem d_Mod_isSpecial_1 : decode b_Mod_isSpecial 1 = .ok (.lconst 0, 1) := by decide +kernel
theorem d_Mod_isSpecial_2 : decode b_Mod_isSpecial 2 = .ok (.lcmp, 1) := by decide +kernel
theorem d_Mod_isSpecial_3 : decode b_Mod_isSpecial 3 = .ok (.ifCond .eq 57, 3) := by decide +kernel
theorem d_Mod_isSpecial_6 : decode b_Mod_isSpecial 6 = .ok (.lload_n 0, 1) := by decide +kernel
theorem d_Mod_isSpecial_7 : decode b_Mod_isSpecial 7 = .ok (.lconst 1, 1) := by decide +kernel
theorem d_Mod_isSpecial_8 : decode b_Mod_isSpecial 8 = .ok (.lcmp, 1) := by decide +kernel
theorem d_Mod_isSpecial_9 : decode b_Mod_isSpecial 9 = .ok (.ifCond .eq 51, 3) := by decide +kernel
theorem d_Mod_isSpecial_12 : decode b_Mod_isSpecial 12 = .ok (.lload_n 0, 1) := by decide +kernel
theorem d_Mod_isSpecial_13 : decode b_Mod_isSpecial 13 = .ok (.ldc2_w 112, 3) := by decide +kernel
theorem d_Mod_isSpecial_16 : decode b_Mod_isSpecial 16 = .ok (.lcmp, 1) := by decide +kernel
theorem d_Mod_isSpecial_17 : decode b_Mod_isSpecial 17 = .ok (.ifCond .le 11, 3) := by decide +kernel
theorem d_Mod_isSpecial_20 : decode b_Mod_isSpecial 20 = .ok (.lload_n 0, 1) := by decide +kernel
theorem d_Mod_isSpecial_21 : decode b_Mod_isSpecial 21 = .ok (.ldc2_w 114, 3) := by decide +kernel
theorem d_Mod_isSpecial_24 : decode b_Mod_isSpecial 24 = .ok (.lcmp, 1) := by decide +kernel
theorem d_Mod_isSpecial_25 : decode b_Mod_isSpecial 25 = .ok (.ifCond .lt 35, 3) := by decide +kernel
theorem d_Mod_isSpecial_28 : decode b_Mod_isSpecial 28 = .ok (.lload_n 0, 1) := by decide +kernel
theorem d_Mod_isSpecial_29 : decode b_Mod_isSpecial 29 = .ok (.ldc2_w 116, 3) := by decide +kernel
theorem d_Mod_isSpecial_32 : decode b_Mod_isSpecial 32 = .ok (.lcmp, 1) := by decide +kernel
theorem d_Mod_isSpecial_33 : decode b_Mod_isSpecial 33 = .ok (.ifCond .le 11, 3) := by decide +kernel
theorem d_Mod_isSpecial_36 : decode b_Mod_isSpecial 36 = .ok (.lload_n 0, 1) := by decide +kernel
theorem d_Mod_isSpecial_37 : decode b_Mod_isSpecial 37 = .ok (.ldc2_w 118, 3) := by decide +kernel
theorem d_Mod_isSpecial_40 : decode b_Mod_isSpecial 40 = .ok (.lcmp, 1) := by decide +kernel
theorem d_Mod_isSpecial_41 : decode b_Mod_isSpecial 41 = .ok (.ifCond .lt 19, 3) := by decide +kernel
theorem d_Mod_isSpecial_44 : decode b_Mod_isSpecial 44 = .ok (.lload_n 0, 1) := by decide +kernel
theorem d_Mod_isSpecial_45 : decode b_Mod_isSpecial 45 = .ok (.ldc2_w 120, 3) := by decide +kernel
theorem d_Mod_isSpecial_48 : decode b_Mod_isSpecial 48 = .ok (.lcmp, 1) := by decide +kernel
theorem d_Mod_isSpecial_49 : decode b_Mod_isSpecial 49 = .ok (.ifCond .le 15, 3) := by decide +kernel
theorem d_Mod_isSpecial_52 : decode b_Mod_isSpecial 52 = .ok (.lload_n 0, 1) := by decide +kernel
theorem d_Mod_isSpecial_53 : decode b_Mod_isSpecial 53 = .ok (.ldc2_w 122, 3) := by decide +kernel
theorem d_Mod_isSpecial_56 : decode b_Mod_isSpecial 56 = .ok (.lcmp, 1) := by decide +kernel
theorem d_Mod_isSpecial_57 : decode b_Mod_isSpecial 57 = .ok (.ifCond .ge 7, 3) := by decide +kernel
theorem d_Mod_isSpecial_60 : decode b_Mod_isSpecial 60 = .ok (.iconst 1, 1) := by decide +kernel
theorem d_Mod_isSpecial_61 : decode b_Mod_isSpecial 61 = .ok (.goto 4, 3) := by decide +kernel
theorem d_Mod_isSpecial_64 : decode b_Mod_isSpecial 64 = .ok (.iconst 0, 1) := by decide +kernel
theorem d_Mod_isSpecial_65 : decode b_Mod_isSpecial 65 = .ok (.ireturn, 1) := by decide +kernel
theorem d_Mod_label_0 : decode b_Mod_label 0 = .ok (.aload_n 0, 1) := by decide +kernel
theorem d_Mod_label_1 : decode b_Mod_label 1 = .ok (.iconst 0, 1) := by decide +kernel
theorem d_Mod_label_2 : decode b_Mod_label 2 = .ok (.putfield 58, 3) := by decide +kernel
theorem d_Mod_label_5 : decode b_Mod_label 5 = .ok (.iload_n 1, 1) := by decide +kernel
theorem d_Mod_label_6 : decode b_Mod_label 6 = .ok (.ifCond .lt 11, 3) := by decide +kernel
theorem d_Mod_label_9 : decode b_Mod_label 9 = .ok (.iload_n 1, 1) := by decide +kernel
theorem d_Mod_label_10 : decode b_Mod_label 10 = .ok (.aload_n 0, 1) := by decide +kernel
theorem d_Mod_label_11 : decode b_Mod_label 11 = .ok (.getfield 298, 3) := by decide +kernel
theorem d_Mod_label_14 : decode b_Mod_label 14 = .ok (.if_icmp .lt 9, 3) := by decide +kernel
theorem d_Mod_label_17 : decode b_Mod_label 17 = .ok (.ldc2_w 301, 3) := by decide +kernel
theorem d_Mod_label_20 : decode b_Mod_label 20 = .ok (.goto 9, 3) := by decide +kernel
theorem d_Mod_label_29 : decode b_Mod_label 29 = .ok (.lreturn, 1) := by decide +kernel
theorem d_Mod_place_0 : decode b_Mod_place 0 = .ok (.aload_n 0, 1) := by decide +kernel
theorem d_Mod_place_1 : decode b_Mod_place 1 = .ok (.iconst 0, 1) := by decide +kernel
theorem d_Mod_place_2 : decode b_Mod_place 2 = .ok (.putfield 58, 3) := by decide +kernel
theorem d_Mod_place_5 : decode b_Mod_place 5 = .ok (.aload_n 0, 1) := by decide +kernel
theorem d_Mod_place_6 : decode b_Mod_place 6 = .ok (.getfield 81, 3) := by decide +kernel
theorem d_Mod_place_9 : decode b_Mod_place 9 = .ok (.lreturn, 1) := by decide +kernel
theorem d_Mod_register_0 : decode b_Mod_register 0 = .ok (.aload_n 0, 1) := by decide +kernel
theorem d_Mod_register_1 : decode b_Mod_register 1 = .ok (.iconst 0, 1) := by decide +kernel
theorem d_Mod_register_2 : decode b_Mod_register 2 = .ok (.putfield 58, 3) := by decide +kernel
theorem d_Mod_register_5 : decode b_Mod_register 5 = .ok (.iload_n 1, 1) := by decide +kernel
theorem d_Mod_register_6 : decode b_Mod_register 6 = .ok (.ifCond .lt 10, 3) := by decide +kernel
theorem d_Mod_register_9 : decode b_Mod_register 9 = .ok (.iload_n 1, 1) := by decide +kernel
theorem d_Mod_register_10 : decode b_Mod_register 10 = .ok (.sipush 255, 3) := by decide +kernel
theorem d_Mod_register_13 : decode b_Mod_register 13 = .ok (.if_icmp .le 7, 3) := by decide +kernel
theorem d_Mod_register_16 : decode b_Mod_register 16 = .ok (.lconst 0, 1) := by decide +kernel
theorem d_Mod_register_17 : decode b_Mod_register 17 = .ok (.goto 8, 3) := by decide +kernel
theorem d_Mod_register_20 : decode b_Mod_register 20 = .ok (.aload_n 0, 1) := by decide +kernel
theorem d_Mod_register_21 : decode b_Mod_register 21 = .ok (.iload_n 1, 1) := by decide +kernel
theorem d_Mod_register_22 : decode b_Mod_register 22 = .ok (.invokevirtual 385, 3) := by decide +kernel
theorem d_Mod_register_25 : decode b_Mod_register 25 = .ok (.lreturn, 1) := by decide +kernel
theorem d_Mod_run_0 : decode b_Mod_run 0 = .ok (.aload_n 0, 1) := by decide +kernel
theorem d_Mod_run_1 : decode b_Mod_run 1 = .ok (.iconst 0, 1) := by decide +kernel
theorem d_Mod_run_2 : decode b_Mod_run 2 = .ok (.putfield 58, 3) := by decide +kernel
theorem d_Mod_run_5 : decode b_Mod_run 5 = .ok (.iload_n 1, 1) := by decide +kernel
theorem d_Mod_run_6 : decode b_Mod_run 6 = .ok (.ifCond .lt 10, 3) := by decide +kernel
