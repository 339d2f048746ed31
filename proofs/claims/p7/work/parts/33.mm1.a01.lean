theorem d_Mod_quotient_29 : decode b_Mod_quotient 29 = .ok (.lcmp, 1) := by decide +kernel
theorem d_Mod_quotient_30 : decode b_Mod_quotient 30 = .ok (.ifCond .ne 29, 3) := by decide +kernel
theorem d_Mod_quotient_33 : decode b_Mod_quotient 33 = .ok (.lload_n 3, 1) := by decide +kernel
theorem d_Mod_quotient_34 : decode b_Mod_quotient 34 = .ok (.ldc2_w 301, 3) := by decide +kernel
theorem d_Mod_quotient_37 : decode b_Mod_quotient 37 = .ok (.lcmp, 1) := by decide +kernel
theorem d_Mod_quotient_38 : decode b_Mod_quotient 38 = .ok (.ifCond .ne 21, 3) := by decide +kernel
theorem d_Mod_quotient_41 : decode b_Mod_quotient 41 = .ok (.aload_n 0, 1) := by decide +kernel
theorem d_Mod_quotient_42 : decode b_Mod_quotient 42 = .ok (.getfield 46, 3) := by decide +kernel
theorem d_Mod_quotient_45 : decode b_Mod_quotient 45 = .ok (.bipush 6, 2) := by decide +kernel
theorem d_Mod_quotient_47 : decode b_Mod_quotient 47 = .ok (.lconst 0, 1) := by decide +kernel
theorem d_Mod_quotient_48 : decode b_Mod_quotient 48 = .ok (.lastore, 1) := by decide +kernel
theorem d_Mod_quotient_49 : decode b_Mod_quotient 49 = .ok (.aload_n 0, 1) := by decide +kernel
theorem d_Mod_quotient_50 : decode b_Mod_quotient 50 = .ok (.bipush 64, 2) := by decide +kernel
theorem d_Mod_quotient_52 : decode b_Mod_quotient 52 = .ok (.lload_n 1, 1) := by decide +kernel
theorem d_Mod_quotient_53 : decode b_Mod_quotient 53 = .ok (.lload_n 3, 1) := by decide +kernel
theorem d_Mod_quotient_54 : decode b_Mod_quotient 54 = .ok (.invokevirtual 336, 3) := by decide +kernel
theorem d_Mod_quotient_57 : decode b_Mod_quotient 57 = .ok (.lload_n 1, 1) := by decide +kernel
theorem d_Mod_quotient_58 : decode b_Mod_quotient 58 = .ok (.lreturn, 1) := by decide +kernel
theorem d_Mod_quotient_59 : decode b_Mod_quotient 59 = .ok (.aload_n 0, 1) := by decide +kernel
theorem d_Mod_quotient_60 : decode b_Mod_quotient 60 = .ok (.lconst 0, 1) := by decide +kernel
theorem d_Mod_quotient_61 : decode b_Mod_quotient 61 = .ok (.lload_n 1, 1) := by decide +kernel
theorem d_Mod_quotient_62 : decode b_Mod_quotient 62 = .ok (.lconst 0, 1) := by decide +kernel
theorem d_Mod_quotient_63 : decode b_Mod_quotient 63 = .ok (.lcmp, 1) := by decide +kernel
theorem d_Mod_quotient_64 : decode b_Mod_quotient 64 = .ok (.ifCond .ge 8, 3) := by decide +kernel
theorem d_Mod_quotient_67 : decode b_Mod_quotient 67 = .ok (.lload_n 1, 1) := by decide +kernel
theorem d_Mod_quotient_68 : decode b_Mod_quotient 68 = .ok (.lneg, 1) := by decide +kernel
theorem d_Mod_quotient_69 : decode b_Mod_quotient 69 = .ok (.goto 4, 3) := by decide +kernel
theorem d_Mod_quotient_72 : decode b_Mod_quotient 72 = .ok (.lload_n 1, 1) := by decide +kernel
theorem d_Mod_quotient_73 : decode b_Mod_quotient 73 = .ok (.lload_n 3, 1) := by decide +kernel
theorem d_Mod_quotient_74 : decode b_Mod_quotient 74 = .ok (.lconst 0, 1) := by decide +kernel
theorem d_Mod_quotient_75 : decode b_Mod_quotient 75 = .ok (.lcmp, 1) := by decide +kernel
theorem d_Mod_quotient_76 : decode b_Mod_quotient 76 = .ok (.ifCond .ge 8, 3) := by decide +kernel
theorem d_Mod_quotient_79 : decode b_Mod_quotient 79 = .ok (.lload_n 3, 1) := by decide +kernel
theorem d_Mod_quotient_80 : decode b_Mod_quotient 80 = .ok (.lneg, 1) := by decide +kernel
theorem d_Mod_quotient_81 : decode b_Mod_quotient 81 = .ok (.goto 4, 3) := by decide +kernel
theorem d_Mod_quotient_84 : decode b_Mod_quotient 84 = .ok (.lload_n 3, 1) := by decide +kernel
theorem d_Mod_quotient_85 : decode b_Mod_quotient 85 = .ok (.invokevirtual 342, 3) := by decide +kernel
theorem d_Mod_quotient_88 : decode b_Mod_quotient 88 = .ok (.lstore 5, 2) := by decide +kernel
theorem d_Mod_quotient_90 : decode b_Mod_quotient 90 = .ok (.aload_n 0, 1) := by decide +kernel
theorem d_Mod_quotient_91 : decode b_Mod_quotient 91 = .ok (.getfield 320, 3) := by decide +kernel
theorem d_Mod_quotient_94 : decode b_Mod_quotient 94 = .ok (.lstore 7, 2) := by decide +kernel
theorem d_Mod_quotient_96 : decode b_Mod_quotient 96 = .ok (.lload_n 1, 1) := by decide +kernel
theorem d_Mod_quotient_97 : decode b_Mod_quotient 97 = .ok (.lconst 0, 1) := by decide +kernel
theorem d_Mod_quotient_98 : decode b_Mod_quotient 98 = .ok (.lcmp, 1) := by decide +kernel
theorem d_Mod_quotient_99 : decode b_Mod_quotient 99 = .ok (.ifCond .ge 7, 3) := by decide +kernel
theorem d_Mod_quotient_102 : decode b_Mod_quotient 102 = .ok (.iconst 1, 1) := by decide +kernel
theorem d_Mod_quotient_103 : decode b_Mod_quotient 103 = .ok (.goto 4, 3) := by decide +kernel
theorem d_Mod_quotient_106 : decode b_Mod_quotient 106 = .ok (.iconst 0, 1) := by decide +kernel
theorem d_Mod_quotient_107 : decode b_Mod_quotient 107 = .ok (.lload_n 3, 1) := by decide +kernel
theorem d_Mod_quotient_108 : decode b_Mod_quotient 108 = .ok (.lconst 0, 1) := by decide +kernel
theorem d_Mod_quotient_109 : decode b_Mod_quotient 109 = .ok (.lcmp, 1) := by decide +kernel
theorem d_Mod_quotient_110 : decode b_Mod_quotient 110 = .ok (.ifCond .ge 7, 3) := by decide +kernel
theorem d_Mod_quotient_113 : decode b_Mod_quotient 113 = .ok (.iconst 1, 1) := by decide +kernel
theorem d_Mod_quotient_114 : decode b_Mod_quotient 114 = .ok (.goto 4, 3) := by decide +kernel
theorem d_Mod_quotient_117 : decode b_Mod_quotient 117 = .ok (.iconst 0, 1) := by decide +kernel
theorem d_Mod_quotient_118 : decode b_Mod_quotient 118 = .ok (.if_icmp .eq 38, 3) := by decide +kernel
theorem d_Mod_quotient_121 : decode b_Mod_quotient 121 = .ok (.lload 5, 2) := by decide +kernel
theorem d_Mod_quotient_123 : decode b_Mod_quotient 123 = .ok (.lneg, 1) := by decide +kernel
theorem d_Mod_quotient_124 : decode b_Mod_quotient 124 = .ok (.lstore 5, 2) := by decide +kernel
theorem d_Mod_quotient_126 : decode b_Mod_quotient 126 = .ok (.lload 7, 2) := by decide +kernel
theorem d_Mod_quotient_128 : decode b_Mod_quotient 128 = .ok (.lconst 0, 1) := by decide +kernel
theorem d_Mod_quotient_129 : decode b_Mod_quotient 129 = .ok (.lcmp, 1) := by decide +kernel
theorem d_Mod_quotient_130 : decode b_Mod_quotient 130 = .ok (.ifCond .eq 26, 3) := by decide +kernel
theorem d_Mod_quotient_133 : decode b_Mod_quotient 133 = .ok (.lload 5, 2) := by decide +kernel
theorem d_Mod_quotient_135 : decode b_Mod_quotient 135 = .ok (.lconst 1, 1) := by decide +kernel
theorem d_Mod_quotient_136 : decode b_Mod_quotient 136 = .ok (.lsub, 1) := by decide +kernel
theorem d_Mod_quotient_137 : decode b_Mod_quotient 137 = .ok (.lstore 5, 2) := by decide +kernel
theorem d_Mod_quotient_139 : decode b_Mod_quotient 139 = .ok (.lload_n 3, 1) := by decide +kernel
theorem d_Mod_quotient_140 : decode b_Mod_quotient 140 = .ok (.lconst 0, 1) := by decide +kernel
theorem d_Mod_quotient_141 : decode b_Mod_quotient 141 = .ok (.lcmp, 1) := by decide +kernel
theorem d_Mod_quotient_142 : decode b_Mod_quotient 142 = .ok (.ifCond .ge 8, 3) := by decide +kernel
theorem d_Mod_quotient_145 : decode b_Mod_quotient 145 = .ok (.lload_n 3, 1) := by decide +kernel
theorem d_Mod_quotient_146 : decode b_Mod_quotient 146 = .ok (.lneg, 1) := by decide +kernel
theorem d_Mod_quotient_147 : decode b_Mod_quotient 147 = .ok (.goto 4, 3) := by decide +kernel
theorem d_Mod_quotient_150 : decode b_Mod_quotient 150 = .ok (.lload_n 3, 1) := by decide +kernel
theorem d_Mod_quotient_151 : decode b_Mod_quotient 151 = .ok (.lload 7, 2) := by decide +kernel
theorem d_Mod_quotient_153 : decode b_Mod_quotient 153 = .ok (.lsub, 1) := by decide +kernel
theorem d_Mod_quotient_154 : decode b_Mod_quotient 154 = .ok (.lstore 7, 2) := by decide +kernel
theorem d_Mod_quotient_156 : decode b_Mod_quotient 156 = .ok (.aload_n 0, 1) := by decide +kernel
theorem d_Mod_quotient_157 : decode b_Mod_quotient 157 = .ok (.getfield 46, 3) := by decide +kernel
theorem d_Mod_quotient_160 : decode b_Mod_quotient 160 = .ok (.bipush 6, 2) := by decide +kernel
theorem d_Mod_quotient_162 : decode b_Mod_quotient 162 = .ok (.lload_n 3, 1) := by decide +kernel
theorem d_Mod_quotient_163 : decode b_Mod_quotient 163 = .ok (.lconst 0, 1) := by decide +kernel
theorem d_Mod_quotient_164 : decode b_Mod_quotient 164 = .ok (.lcmp, 1) := by decide +kernel
theorem d_Mod_quotient_165 : decode b_Mod_quotient 165 = .ok (.ifCond .ge 9, 3) := by decide +kernel
theorem d_Mod_quotient_168 : decode b_Mod_quotient 168 = .ok (.lload 7, 2) := by decide +kernel
theorem d_Mod_quotient_170 : decode b_Mod_quotient 170 = .ok (.lneg, 1) := by decide +kernel
theorem d_Mod_quotient_171 : decode b_Mod_quotient 171 = .ok (.goto 5, 3) := by decide +kernel
theorem d_Mod_quotient_174 : decode b_Mod_quotient 174 = .ok (.lload 7, 2) := by decide +kernel
theorem d_Mod_quotient_176 : decode b_Mod_quotient 176 = .ok (.lastore, 1) := by decide +kernel
theorem d_Mod_quotient_177 : decode b_Mod_quotient 177 = .ok (.lload 5, 2) := by decide +kernel
theorem d_Mod_quotient_179 : decode b_Mod_quotient 179 = .ok (.lreturn, 1) := by decide +kernel
theorem d_Mod_set_0 : decode b_Mod_set 0 = .ok (.iload_n 1, 1) := by decide +kernel
theorem d_Mod_set_1 : decode b_Mod_set 1 = .ok (.aload_n 0, 1) := by decide +kernel
theorem d_Mod_set_2 : decode b_Mod_set 2 = .ok (.getfield 67, 3) := by decide +kernel
theorem d_Mod_set_5 : decode b_Mod_set 5 = .ok (.if_icmp .ge 34, 3) := by decide +kernel
theorem d_Mod_set_8 : decode b_Mod_set 8 = .ok (.aload_n 0, 1) := by decide +kernel
theorem d_Mod_set_9 : decode b_Mod_set 9 = .ok (.getfield 64, 3) := by decide +kernel
theorem d_Mod_set_12 : decode b_Mod_set 12 = .ok (.iload_n 1, 1) := by decide +kernel
theorem d_Mod_set_13 : decode b_Mod_set 13 = .ok (.if_icmp .gt 26, 3) := by decide +kernel
theorem d_Mod_set_16 : decode b_Mod_set 16 = .ok (.aload_n 0, 1) := by decide +kernel
theorem d_Mod_set_17 : decode b_Mod_set 17 = .ok (.getfield 43, 3) := by decide +kernel
theorem d_Mod_set_20 : decode b_Mod_set 20 = .ok (.aload_n 0, 1) := by decide +kernel
theorem d_Mod_set_21 : decode b_Mod_set 21 = .ok (.getfield 64, 3) := by decide +kernel
theorem d_Mod_set_24 : decode b_Mod_set 24 = .ok (.lconst 0, 1) := by decide +kernel
theorem d_Mod_set_25 : decode b_Mod_set 25 = .ok (.lastore, 1) := by decide +kernel
theorem d_Mod_set_26 : decode b_Mod_set 26 = .ok (.aload_n 0, 1) := by decide +kernel
theorem d_Mod_set_27 : decode b_Mod_set 27 = .ok (.dup, 1) := by decide +kernel
theorem d_Mod_set_28 : decode b_Mod_set 28 = .ok (.getfield 64, 3) := by decide +kernel
theorem d_Mod_set_31 : decode b_Mod_set 31 = .ok (.iconst 1, 1) := by decide +kernel
theorem d_Mod_set_32 : decode b_Mod_set 32 = .ok (.iadd, 1) := by decide +kernel
theorem d_Mod_set_33 : decode b_Mod_set 33 = .ok (.putfield 64, 3) := by decide +kernel
theorem d_Mod_set_36 : decode b_Mod_set 36 = .ok (.goto (-36), 3) := by decide +kernel
theorem d_Mod_set_39 : decode b_Mod_set 39 = .ok (.aload_n 0, 1) := by decide +kernel
theorem d_Mod_set_40 : decode b_Mod_set 40 = .ok (.getfield 43, 3) := by decide +kernel
theorem d_Mod_set_43 : decode b_Mod_set 43 = .ok (.iload_n 1, 1) := by decide +kernel
theorem d_Mod_set_44 : decode b_Mod_set 44 = .ok (.lload_n 2, 1) := by decide +kernel
theorem d_Mod_set_45 : decode b_Mod_set 45 = .ok (.lastore, 1) := by decide +kernel
theorem d_Mod_set_46 : decode b_Mod_set 46 = .ok (.return_, 1) := by decide +kernel
theorem d_Mod_sum_0 : decode b_Mod_sum 0 = .ok (.iload 5, 2) := by decide +kernel
theorem d_Mod_sum_2 : decode b_Mod_sum 2 = .ok (.ifCond .eq 9, 3) := by decide +kernel
theorem d_Mod_sum_5 : decode b_Mod_sum 5 = .ok (.lload_n 1, 1) := by decide +kernel
theorem d_Mod_sum_6 : decode b_Mod_sum 6 = .ok (.lload_n 3, 1) := by decide +kernel
theorem d_Mod_sum_7 : decode b_Mod_sum 7 = .ok (.lsub, 1) := by decide +kernel
theorem d_Mod_sum_8 : decode b_Mod_sum 8 = .ok (.goto 6, 3) := by decide +kernel
theorem d_Mod_sum_11 : decode b_Mod_sum 11 = .ok (.lload_n 1, 1) := by decide +kernel
theorem d_Mod_sum_12 : decode b_Mod_sum 12 = .ok (.lload_n 3, 1) := by decide +kernel
theorem d_Mod_sum_13 : decode b_Mod_sum 13 = .ok (.ladd, 1) := by decide +kernel
theorem d_Mod_sum_14 : decode b_Mod_sum 14 = .ok (.lstore 6, 2) := by decide +kernel
theorem d_Mod_sum_16 : decode b_Mod_sum 16 = .ok (.iload 5, 2) := by decide +kernel
theorem d_Mod_sum_18 : decode b_Mod_sum 18 = .ok (.ifCond .eq 17, 3) := by decide +kernel
theorem d_Mod_sum_21 : decode b_Mod_sum 21 = .ok (.lload_n 3, 1) := by decide +kernel
theorem d_Mod_sum_22 : decode b_Mod_sum 22 = .ok (.lconst 0, 1) := by decide +kernel
theorem d_Mod_sum_23 : decode b_Mod_sum 23 = .ok (.lcmp, 1) := by decide +kernel
theorem d_Mod_sum_24 : decode b_Mod_sum 24 = .ok (.ifCond .lt 7, 3) := by decide +kernel
theorem d_Mod_sum_27 : decode b_Mod_sum 27 = .ok (.iconst 1, 1) := by decide +kernel
theorem d_Mod_sum_28 : decode b_Mod_sum 28 = .ok (.goto 18, 3) := by decide +kernel
theorem d_Mod_sum_31 : decode b_Mod_sum 31 = .ok (.iconst 0, 1) := by decide +kernel
theorem d_Mod_sum_32 : decode b_Mod_sum 32 = .ok (.goto 14, 3) := by decide +kernel
theorem d_Mod_sum_35 : decode b_Mod_sum 35 = .ok (.lload_n 3, 1) := by decide +kernel
theorem d_Mod_sum_36 : decode b_Mod_sum 36 = .ok (.lconst 0, 1) := by decide +kernel
theorem d_Mod_sum_37 : decode b_Mod_sum 37 = .ok (.lcmp, 1) := by decide +kernel
theorem d_Mod_sum_38 : decode b_Mod_sum 38 = .ok (.ifCond .ge 7, 3) := by decide +kernel
theorem d_Mod_sum_41 : decode b_Mod_sum 41 = .ok (.iconst 1, 1) := by decide +kernel
theorem d_Mod_sum_42 : decode b_Mod_sum 42 = .ok (.goto 4, 3) := by decide +kernel
theorem d_Mod_sum_45 : decode b_Mod_sum 45 = .ok (.iconst 0, 1) := by decide +kernel
theorem d_Mod_sum_46 : decode b_Mod_sum 46 = .ok (.istore 8, 2) := by decide +kernel
theorem d_Mod_sum_48 : decode b_Mod_sum 48 = .ok (.lload_n 1, 1) := by decide +kernel
theorem d_Mod_sum_49 : decode b_Mod_sum 49 = .ok (.lconst 0, 1) := by decide +kernel
theorem d_Mod_sum_50 : decode b_Mod_sum 50 = .ok (.lcmp, 1) := by decide +kernel
theorem d_Mod_sum_51 : decode b_Mod_sum 51 = .ok (.ifCond .ge 7, 3) := by decide +kernel
theorem d_Mod_sum_54 : decode b_Mod_sum 54 = .ok (.iconst 1, 1) := by decide +kernel
theorem d_Mod_sum_55 : decode b_Mod_sum 55 = .ok (.goto 4, 3) := by decide +kernel
theorem d_Mod_sum_58 : decode b_Mod_sum 58 = .ok (.iconst 0, 1) := by decide +kernel
theorem d_Mod_sum_59 : decode b_Mod_sum 59 = .ok (.iload 8, 2) := by decide +kernel
theorem d_Mod_sum_61 : decode b_Mod_sum 61 = .ok (.if_icmp .ne 37, 3) := by decide +kernel
theorem d_Mod_sum_64 : decode b_Mod_sum 64 = .ok (.lload 6, 2) := by decide +kernel
theorem d_Mod_sum_66 : decode b_Mod_sum 66 = .ok (.lconst 0, 1) := by decide +kernel
theorem d_Mod_sum_67 : decode b_Mod_sum 67 = .ok (.lcmp, 1) := by decide +kernel
theorem d_Mod_sum_68 : decode b_Mod_sum 68 = .ok (.ifCond .ge 7, 3) := by decide +kernel
theorem d_Mod_sum_71 : decode b_Mod_sum 71 = .ok (.iconst 1, 1) := by decide +kernel
theorem d_Mod_sum_72 : decode b_Mod_sum 72 = .ok (.goto 4, 3) := by decide +kernel
theorem d_Mod_sum_75 : decode b_Mod_sum 75 = .ok (.iconst 0, 1) := by decide +kernel
theorem d_Mod_sum_76 : decode b_Mod_sum 76 = .ok (.lload_n 1, 1) := by decide +kernel
theorem d_Mod_sum_77 : decode b_Mod_sum 77 = .ok (.lconst 0, 1) := by decide +kernel
theorem d_Mod_sum_78 : decode b_Mod_sum 78 = .ok (.lcmp, 1) := by decide +kernel
theorem d_Mod_sum_79 : decode b_Mod_sum 79 = .ok (.ifCond .ge 7, 3) := by decide +kernel
theorem d_Mod_sum_82 : decode b_Mod_sum 82 = .ok (.iconst 1, 1) := by decide +kernel
theorem d_Mod_sum_83 : decode b_Mod_sum 83 = .ok (.goto 4, 3) := by decide +kernel
theorem d_Mod_sum_86 : decode b_Mod_sum 86 = .ok (.iconst 0, 1) := by decide +kernel
theorem d_Mod_sum_87 : decode b_Mod_sum 87 = .ok (.if_icmp .eq 11, 3) := by decide +kernel
theorem d_Mod_sum_90 : decode b_Mod_sum 90 = .ok (.aload_n 0, 1) := by decide +kernel
theorem d_Mod_sum_91 : decode b_Mod_sum 91 = .ok (.bipush 64, 2) := by decide +kernel
theorem d_Mod_sum_93 : decode b_Mod_sum 93 = .ok (.lload_n 1, 1) := by decide +kernel
theorem d_Mod_sum_94 : decode b_Mod_sum 94 = .ok (.lload_n 3, 1) := by decide +kernel
theorem d_Mod_sum_95 : decode b_Mod_sum 95 = .ok (.invokevirtual 336, 3) := by decide +kernel
theorem d_Mod_sum_98 : decode b_Mod_sum 98 = .ok (.lload 6, 2) := by decide +kernel
theorem d_Mod_sum_100 : decode b_Mod_sum 100 = .ok (.lreturn, 1) := by decide +kernel
theorem d_Mod_unsignedQuotient_0 : decode b_Mod_unsignedQuotient 0 = .ok (.aload_n 0, 1) := by decide +kernel
theorem d_Mod_unsignedQuotient_1 : decode b_Mod_unsignedQuotient 1 = .ok (.getfield 46, 3) := by decide +kernel
theorem d_Mod_unsignedQuotient_4 : decode b_Mod_unsignedQuotient 4 = .ok (.iconst 1, 1) := by decide +kernel
theorem d_Mod_unsignedQuotient_5 : decode b_Mod_unsignedQuotient 5 = .ok (.laload, 1) := by decide +kernel
theorem d_Mod_unsignedQuotient_6 : decode b_Mod_unsignedQuotient 6 = .ok (.lstore 5, 2) := by decide +kernel
theorem d_Mod_unsignedQuotient_8 : decode b_Mod_unsignedQuotient 8 = .ok (.lload_n 3, 1) := by decide +kernel
theorem d_Mod_unsignedQuotient_9 : decode b_Mod_unsignedQuotient 9 = .ok (.lload 5, 2) := by decide +kernel
theorem d_Mod_unsignedQuotient_11 : decode b_Mod_unsignedQuotient 11 = .ok (.invokestatic 314, 3) := by decide +kernel
theorem d_Mod_unsignedQuotient_14 : decode b_Mod_unsignedQuotient 14 = .ok (.ifCond .gt 14, 3) := by decide +kernel
theorem d_Mod_unsignedQuotient_17 : decode b_Mod_unsignedQuotient 17 = .ok (.aload_n 0, 1) := by decide +kernel
theorem d_Mod_unsignedQuotient_18 : decode b_Mod_unsignedQuotient 18 = .ok (.getfield 46, 3) := by decide +kernel
theorem d_Mod_unsignedQuotient_21 : decode b_Mod_unsignedQuotient 21 = .ok (.bipush 6, 2) := by decide +kernel
theorem d_Mod_unsignedQuotient_23 : decode b_Mod_unsignedQuotient 23 = .ok (.lload_n 1, 1) := by decide +kernel
theorem d_Mod_unsignedQuotient_24 : decode b_Mod_unsignedQuotient 24 = .ok (.lastore, 1) := by decide +kernel
theorem d_Mod_unsignedQuotient_25 : decode b_Mod_unsignedQuotient 25 = .ok (.lload 5, 2) := by decide +kernel
theorem d_Mod_unsignedQuotient_27 : decode b_Mod_unsignedQuotient 27 = .ok (.lreturn, 1) := by decide +kernel
theorem d_Mod_unsignedQuotient_28 : decode b_Mod_unsignedQuotient 28 = .ok (.aload_n 0, 1) := by decide +kernel
theorem d_Mod_unsignedQuotient_29 : decode b_Mod_unsignedQuotient 29 = .ok (.lload 5, 2) := by decide +kernel
theorem d_Mod_unsignedQuotient_31 : decode b_Mod_unsignedQuotient 31 = .ok (.lload_n 1, 1) := by decide +kernel
theorem d_Mod_unsignedQuotient_32 : decode b_Mod_unsignedQuotient 32 = .ok (.lload_n 3, 1) := by decide +kernel
theorem d_Mod_unsignedQuotient_33 : decode b_Mod_unsignedQuotient 33 = .ok (.invokevirtual 342, 3) := by decide +kernel
theorem d_Mod_unsignedQuotient_36 : decode b_Mod_unsignedQuotient 36 = .ok (.lstore 7, 2) := by decide +kernel
theorem d_Mod_unsignedQuotient_38 : decode b_Mod_unsignedQuotient 38 = .ok (.aload_n 0, 1) := by decide +kernel
theorem d_Mod_unsignedQuotient_39 : decode b_Mod_unsignedQuotient 39 = .ok (.getfield 46, 3) := by decide +kernel
theorem d_Mod_unsignedQuotient_42 : decode b_Mod_unsignedQuotient 42 = .ok (.bipush 6, 2) := by decide +kernel
theorem d_Mod_unsignedQuotient_44 : decode b_Mod_unsignedQuotient 44 = .ok (.aload_n 0, 1) := by decide +kernel
theorem d_Mod_unsignedQuotient_45 : decode b_Mod_unsignedQuotient 45 = .ok (.getfield 320, 3) := by decide +kernel
theorem d_Mod_unsignedQuotient_48 : decode b_Mod_unsignedQuotient 48 = .ok (.lastore, 1) := by decide +kernel
theorem d_Mod_unsignedQuotient_49 : decode b_Mod_unsignedQuotient 49 = .ok (.lload 7, 2) := by decide +kernel
theorem d_Mod_unsignedQuotient_51 : decode b_Mod_unsignedQuotient 51 = .ok (.lreturn, 1) := by decide +kernel
