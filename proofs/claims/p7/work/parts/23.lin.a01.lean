theorem d_Opn_find_31 : decode b_Opn_find 31 = .ok (.ifCond .ne 5, 3) := by decide +kernel
theorem d_Opn_find_34 : decode b_Opn_find 34 = .ok (.iconst (-1), 1) := by decide +kernel
theorem d_Opn_find_35 : decode b_Opn_find 35 = .ok (.ireturn, 1) := by decide +kernel
theorem d_Opn_find_36 : decode b_Opn_find 36 = .ok (.lload 4, 2) := by decide +kernel
theorem d_Opn_find_38 : decode b_Opn_find 38 = .ok (.bipush 8, 2) := by decide +kernel
theorem d_Opn_find_40 : decode b_Opn_find 40 = .ok (.lshl, 1) := by decide +kernel
theorem d_Opn_find_41 : decode b_Opn_find 41 = .ok (.aload_n 1, 1) := by decide +kernel
theorem d_Opn_find_42 : decode b_Opn_find 42 = .ok (.iload 6, 2) := by decide +kernel
theorem d_Opn_find_44 : decode b_Opn_find 44 = .ok (.caload, 1) := by decide +kernel
theorem d_Opn_find_45 : decode b_Opn_find 45 = .ok (.i2l, 1) := by decide +kernel
theorem d_Opn_find_46 : decode b_Opn_find 46 = .ok (.lor, 1) := by decide +kernel
theorem d_Opn_find_47 : decode b_Opn_find 47 = .ok (.lstore 4, 2) := by decide +kernel
theorem d_Opn_find_49 : decode b_Opn_find 49 = .ok (.iinc 6 1, 3) := by decide +kernel
theorem d_Opn_find_52 : decode b_Opn_find 52 = .ok (.goto (-31), 3) := by decide +kernel
theorem d_Opn_find_55 : decode b_Opn_find 55 = .ok (.iconst 0, 1) := by decide +kernel
theorem d_Opn_find_56 : decode b_Opn_find 56 = .ok (.istore 6, 2) := by decide +kernel
theorem d_Opn_find_58 : decode b_Opn_find 58 = .ok (.iload 6, 2) := by decide +kernel
theorem d_Opn_find_60 : decode b_Opn_find 60 = .ok (.aload_n 0, 1) := by decide +kernel
theorem d_Opn_find_61 : decode b_Opn_find 61 = .ok (.getfield 11, 3) := by decide +kernel
theorem d_Opn_find_64 : decode b_Opn_find 64 = .ok (.arraylength, 1) := by decide +kernel
theorem d_Opn_find_65 : decode b_Opn_find 65 = .ok (.if_icmp .ge 25, 3) := by decide +kernel
theorem d_Opn_find_68 : decode b_Opn_find 68 = .ok (.aload_n 0, 1) := by decide +kernel
theorem d_Opn_find_69 : decode b_Opn_find 69 = .ok (.getfield 11, 3) := by decide +kernel
theorem d_Opn_find_72 : decode b_Opn_find 72 = .ok (.iload 6, 2) := by decide +kernel
theorem d_Opn_find_74 : decode b_Opn_find 74 = .ok (.laload, 1) := by decide +kernel
theorem d_Opn_find_75 : decode b_Opn_find 75 = .ok (.lload 4, 2) := by decide +kernel
theorem d_Opn_find_77 : decode b_Opn_find 77 = .ok (.lcmp, 1) := by decide +kernel
theorem d_Opn_find_78 : decode b_Opn_find 78 = .ok (.ifCond .ne 6, 3) := by decide +kernel
theorem d_Opn_find_81 : decode b_Opn_find 81 = .ok (.iload 6, 2) := by decide +kernel
theorem d_Opn_find_83 : decode b_Opn_find 83 = .ok (.ireturn, 1) := by decide +kernel
theorem d_Opn_find_84 : decode b_Opn_find 84 = .ok (.iinc 6 1, 3) := by decide +kernel
theorem d_Opn_find_87 : decode b_Opn_find 87 = .ok (.goto (-29), 3) := by decide +kernel
theorem d_Opn_find_90 : decode b_Opn_find 90 = .ok (.iconst (-1), 1) := by decide +kernel
theorem d_Opn_find_91 : decode b_Opn_find 91 = .ok (.ireturn, 1) := by decide +kernel
theorem d_Opn_isData_0 : decode b_Opn_isData 0 = .ok (.iload_n 0, 1) := by decide +kernel
theorem d_Opn_isData_1 : decode b_Opn_isData 1 = .ok (.sipush 258, 3) := by decide +kernel
theorem d_Opn_isData_4 : decode b_Opn_isData 4 = .ok (.if_icmp .lt 7, 3) := by decide +kernel
theorem d_Opn_isData_7 : decode b_Opn_isData 7 = .ok (.iconst 1, 1) := by decide +kernel
theorem d_Opn_isData_8 : decode b_Opn_isData 8 = .ok (.goto 4, 3) := by decide +kernel
theorem d_Opn_isData_11 : decode b_Opn_isData 11 = .ok (.iconst 0, 1) := by decide +kernel
theorem d_Opn_isData_12 : decode b_Opn_isData 12 = .ok (.ireturn, 1) := by decide +kernel
theorem d_Opn_kindOf_0 : decode b_Opn_kindOf 0 = .ok (.iload_n 0, 1) := by decide +kernel
theorem d_Opn_kindOf_1 : decode b_Opn_kindOf 1 = .ok (.lookupswitch 135 #[(0, 132), (52, 115), (54, 115), (180, 117), (240, 119), (242, 121), (244, 121), (246, 123), (248, 126), (249, 132), (253, 132), (254, 129), (255, 132)], 115) := by decide +kernel
theorem d_Opn_kindOf_116 : decode b_Opn_kindOf 116 = .ok (.iconst 1, 1) := by decide +kernel
theorem d_Opn_kindOf_117 : decode b_Opn_kindOf 117 = .ok (.ireturn, 1) := by decide +kernel
theorem d_Opn_kindOf_118 : decode b_Opn_kindOf 118 = .ok (.iconst 2, 1) := by decide +kernel
theorem d_Opn_kindOf_119 : decode b_Opn_kindOf 119 = .ok (.ireturn, 1) := by decide +kernel
theorem d_Opn_kindOf_120 : decode b_Opn_kindOf 120 = .ok (.iconst 4, 1) := by decide +kernel
theorem d_Opn_kindOf_121 : decode b_Opn_kindOf 121 = .ok (.ireturn, 1) := by decide +kernel
theorem d_Opn_kindOf_122 : decode b_Opn_kindOf 122 = .ok (.iconst 3, 1) := by decide +kernel
theorem d_Opn_kindOf_123 : decode b_Opn_kindOf 123 = .ok (.ireturn, 1) := by decide +kernel
theorem d_Opn_kindOf_124 : decode b_Opn_kindOf 124 = .ok (.bipush 6, 2) := by decide +kernel
theorem d_Opn_kindOf_126 : decode b_Opn_kindOf 126 = .ok (.ireturn, 1) := by decide +kernel
theorem d_Opn_kindOf_127 : decode b_Opn_kindOf 127 = .ok (.bipush 8, 2) := by decide +kernel
theorem d_Opn_kindOf_129 : decode b_Opn_kindOf 129 = .ok (.ireturn, 1) := by decide +kernel
theorem d_Opn_kindOf_130 : decode b_Opn_kindOf 130 = .ok (.bipush 7, 2) := by decide +kernel
theorem d_Opn_kindOf_132 : decode b_Opn_kindOf 132 = .ok (.ireturn, 1) := by decide +kernel
theorem d_Opn_kindOf_133 : decode b_Opn_kindOf 133 = .ok (.bipush 9, 2) := by decide +kernel
theorem d_Opn_kindOf_135 : decode b_Opn_kindOf 135 = .ok (.ireturn, 1) := by decide +kernel
theorem d_Opn_kindOf_136 : decode b_Opn_kindOf 136 = .ok (.iload_n 0, 1) := by decide +kernel
theorem d_Opn_kindOf_137 : decode b_Opn_kindOf 137 = .ok (.bipush 64, 2) := by decide +kernel
theorem d_Opn_kindOf_139 : decode b_Opn_kindOf 139 = .ok (.if_icmp .lt 11, 3) := by decide +kernel
theorem d_Opn_kindOf_142 : decode b_Opn_kindOf 142 = .ok (.iload_n 0, 1) := by decide +kernel
theorem d_Opn_kindOf_143 : decode b_Opn_kindOf 143 = .ok (.bipush 96, 2) := by decide +kernel
theorem d_Opn_kindOf_145 : decode b_Opn_kindOf 145 = .ok (.if_icmp .ge 5, 3) := by decide +kernel
theorem d_Opn_kindOf_148 : decode b_Opn_kindOf 148 = .ok (.iconst 3, 1) := by decide +kernel
theorem d_Opn_kindOf_149 : decode b_Opn_kindOf 149 = .ok (.ireturn, 1) := by decide +kernel
theorem d_Opn_kindOf_150 : decode b_Opn_kindOf 150 = .ok (.iload_n 0, 1) := by decide +kernel
theorem d_Opn_kindOf_151 : decode b_Opn_kindOf 151 = .ok (.sipush 224, 3) := by decide +kernel
theorem d_Opn_kindOf_154 : decode b_Opn_kindOf 154 = .ok (.if_icmp .lt 7, 3) := by decide +kernel
theorem d_Opn_kindOf_157 : decode b_Opn_kindOf 157 = .ok (.iconst 5, 1) := by decide +kernel
theorem d_Opn_kindOf_158 : decode b_Opn_kindOf 158 = .ok (.goto 4, 3) := by decide +kernel
theorem d_Opn_kindOf_161 : decode b_Opn_kindOf 161 = .ok (.iconst 0, 1) := by decide +kernel
theorem d_Opn_kindOf_162 : decode b_Opn_kindOf 162 = .ok (.ireturn, 1) := by decide +kernel
theorem d_Opn_sizeOf_0 : decode b_Opn_sizeOf 0 = .ok (.iload_n 0, 1) := by decide +kernel
theorem d_Opn_sizeOf_1 : decode b_Opn_sizeOf 1 = .ok (.sipush 258, 3) := by decide +kernel
theorem d_Opn_sizeOf_4 : decode b_Opn_sizeOf 4 = .ok (.if_icmp .lt 11, 3) := by decide +kernel
theorem d_Opn_sizeOf_7 : decode b_Opn_sizeOf 7 = .ok (.iconst 1, 1) := by decide +kernel
theorem d_Opn_sizeOf_8 : decode b_Opn_sizeOf 8 = .ok (.iload_n 0, 1) := by decide +kernel
theorem d_Opn_sizeOf_9 : decode b_Opn_sizeOf 9 = .ok (.sipush 258, 3) := by decide +kernel
theorem d_Opn_sizeOf_12 : decode b_Opn_sizeOf 12 = .ok (.isub, 1) := by decide +kernel
theorem d_Opn_sizeOf_13 : decode b_Opn_sizeOf 13 = .ok (.ishl, 1) := by decide +kernel
theorem d_Opn_sizeOf_14 : decode b_Opn_sizeOf 14 = .ok (.ireturn, 1) := by decide +kernel
theorem d_Opn_sizeOf_15 : decode b_Opn_sizeOf 15 = .ok (.iload_n 0, 1) := by decide +kernel
theorem d_Opn_sizeOf_16 : decode b_Opn_sizeOf 16 = .ok (.sipush 256, 3) := by decide +kernel
theorem d_Opn_sizeOf_19 : decode b_Opn_sizeOf 19 = .ok (.if_icmp .lt 7, 3) := by decide +kernel
theorem d_Opn_sizeOf_22 : decode b_Opn_sizeOf 22 = .ok (.iconst 1, 1) := by decide +kernel
theorem d_Opn_sizeOf_23 : decode b_Opn_sizeOf 23 = .ok (.goto 4, 3) := by decide +kernel
theorem d_Opn_sizeOf_26 : decode b_Opn_sizeOf 26 = .ok (.iconst 4, 1) := by decide +kernel
theorem d_Opn_sizeOf_27 : decode b_Opn_sizeOf 27 = .ok (.ireturn, 1) := by decide +kernel
