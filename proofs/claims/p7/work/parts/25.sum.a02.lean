theorem d_Sum_readTerm_92 : decode b_Sum_readTerm 92 = .ok (.invokevirtual 68, 3) := by decide +kernel
theorem d_Sum_readTerm_95 : decode b_Sum_readTerm 95 = .ok (.goto 68, 3) := by decide +kernel
theorem d_Sum_readTerm_98 : decode b_Sum_readTerm 98 = .ok (.iload_n 2, 1) := by decide +kernel
theorem d_Sum_readTerm_99 : decode b_Sum_readTerm 99 = .ok (.bipush 35, 2) := by decide +kernel
theorem d_Sum_readTerm_101 : decode b_Sum_readTerm 101 = .ok (.if_icmp .ne 10, 3) := by decide +kernel
theorem d_Sum_readTerm_104 : decode b_Sum_readTerm 104 = .ok (.aload_n 0, 1) := by decide +kernel
theorem d_Sum_readTerm_105 : decode b_Sum_readTerm 105 = .ok (.invokevirtual 72, 3) := by decide +kernel
theorem d_Sum_readTerm_108 : decode b_Sum_readTerm 108 = .ok (.goto 55, 3) := by decide +kernel
theorem d_Sum_readTerm_111 : decode b_Sum_readTerm 111 = .ok (.iload_n 2, 1) := by decide +kernel
theorem d_Sum_readTerm_112 : decode b_Sum_readTerm 112 = .ok (.bipush 64, 2) := by decide +kernel
theorem d_Sum_readTerm_114 : decode b_Sum_readTerm 114 = .ok (.if_icmp .ne 28, 3) := by decide +kernel
theorem d_Sum_readTerm_117 : decode b_Sum_readTerm 117 = .ok (.iload_n 1, 1) := by decide +kernel
theorem d_Sum_readTerm_118 : decode b_Sum_readTerm 118 = .ok (.ifCond .ne 24, 3) := by decide +kernel
theorem d_Sum_readTerm_121 : decode b_Sum_readTerm 121 = .ok (.aload_n 0, 1) := by decide +kernel
theorem d_Sum_readTerm_122 : decode b_Sum_readTerm 122 = .ok (.aload_n 0, 1) := by decide +kernel
theorem d_Sum_readTerm_123 : decode b_Sum_readTerm 123 = .ok (.getfield 26, 3) := by decide +kernel
theorem d_Sum_readTerm_126 : decode b_Sum_readTerm 126 = .ok (.putfield 59, 3) := by decide +kernel
theorem d_Sum_readTerm_129 : decode b_Sum_readTerm 129 = .ok (.aload_n 0, 1) := by decide +kernel
theorem d_Sum_readTerm_130 : decode b_Sum_readTerm 130 = .ok (.dup, 1) := by decide +kernel
theorem d_Sum_readTerm_131 : decode b_Sum_readTerm 131 = .ok (.getfield 19, 3) := by decide +kernel
theorem d_Sum_readTerm_134 : decode b_Sum_readTerm 134 = .ok (.iconst 1, 1) := by decide +kernel
theorem d_Sum_readTerm_135 : decode b_Sum_readTerm 135 = .ok (.iadd, 1) := by decide +kernel
theorem d_Sum_readTerm_136 : decode b_Sum_readTerm 136 = .ok (.putfield 19, 3) := by decide +kernel
theorem d_Sum_readTerm_139 : decode b_Sum_readTerm 139 = .ok (.goto 24, 3) := by decide +kernel
theorem d_Sum_readTerm_142 : decode b_Sum_readTerm 142 = .ok (.iload_n 2, 1) := by decide +kernel
theorem d_Sum_readTerm_143 : decode b_Sum_readTerm 143 = .ok (.bipush 39, 2) := by decide +kernel
theorem d_Sum_readTerm_145 : decode b_Sum_readTerm 145 = .ok (.if_icmp .ne 14, 3) := by decide +kernel
theorem d_Sum_readTerm_148 : decode b_Sum_readTerm 148 = .ok (.iload_n 1, 1) := by decide +kernel
theorem d_Sum_readTerm_149 : decode b_Sum_readTerm 149 = .ok (.ifCond .ne 10, 3) := by decide +kernel
theorem d_Sum_readTerm_152 : decode b_Sum_readTerm 152 = .ok (.aload_n 0, 1) := by decide +kernel
theorem d_Sum_readTerm_153 : decode b_Sum_readTerm 153 = .ok (.invokevirtual 75, 3) := by decide +kernel
theorem d_Sum_readTerm_156 : decode b_Sum_readTerm 156 = .ok (.goto 7, 3) := by decide +kernel
theorem d_Sum_readTerm_159 : decode b_Sum_readTerm 159 = .ok (.aload_n 0, 1) := by decide +kernel
theorem d_Sum_readTerm_160 : decode b_Sum_readTerm 160 = .ok (.invokevirtual 78, 3) := by decide +kernel
theorem d_Sum_readTerm_163 : decode b_Sum_readTerm 163 = .ok (.iload_n 1, 1) := by decide +kernel
theorem d_Sum_readTerm_164 : decode b_Sum_readTerm 164 = .ok (.ifCond .eq 8, 3) := by decide +kernel
theorem d_Sum_readTerm_167 : decode b_Sum_readTerm 167 = .ok (.aload_n 0, 1) := by decide +kernel
theorem d_Sum_readTerm_168 : decode b_Sum_readTerm 168 = .ok (.iload_n 3, 1) := by decide +kernel
theorem d_Sum_readTerm_169 : decode b_Sum_readTerm 169 = .ok (.invokevirtual 81, 3) := by decide +kernel
theorem d_Sum_readTerm_172 : decode b_Sum_readTerm 172 = .ok (.return_, 1) := by decide +kernel
theorem d_Sum_turnIntoRegister_0 : decode b_Sum_turnIntoRegister 0 = .ok (.aload_n 0, 1) := by decide +kernel
theorem d_Sum_turnIntoRegister_1 : decode b_Sum_turnIntoRegister 1 = .ok (.getfield 56, 3) := by decide +kernel
theorem d_Sum_turnIntoRegister_4 : decode b_Sum_turnIntoRegister 4 = .ok (.ifCond .ne 27, 3) := by decide +kernel
theorem d_Sum_turnIntoRegister_7 : decode b_Sum_turnIntoRegister 7 = .ok (.aload_n 0, 1) := by decide +kernel
theorem d_Sum_turnIntoRegister_8 : decode b_Sum_turnIntoRegister 8 = .ok (.getfield 59, 3) := by decide +kernel
theorem d_Sum_turnIntoRegister_11 : decode b_Sum_turnIntoRegister 11 = .ok (.lconst 0, 1) := by decide +kernel
theorem d_Sum_turnIntoRegister_12 : decode b_Sum_turnIntoRegister 12 = .ok (.lcmp, 1) := by decide +kernel
theorem d_Sum_turnIntoRegister_13 : decode b_Sum_turnIntoRegister 13 = .ok (.ifCond .lt 18, 3) := by decide +kernel
theorem d_Sum_turnIntoRegister_16 : decode b_Sum_turnIntoRegister 16 = .ok (.aload_n 0, 1) := by decide +kernel
theorem d_Sum_turnIntoRegister_17 : decode b_Sum_turnIntoRegister 17 = .ok (.getfield 59, 3) := by decide +kernel
theorem d_Sum_turnIntoRegister_20 : decode b_Sum_turnIntoRegister 20 = .ok (.ldc2_w 50, 3) := by decide +kernel
theorem d_Sum_turnIntoRegister_23 : decode b_Sum_turnIntoRegister 23 = .ok (.lcmp, 1) := by decide +kernel
theorem d_Sum_turnIntoRegister_24 : decode b_Sum_turnIntoRegister 24 = .ok (.ifCond .gt 7, 3) := by decide +kernel
theorem d_Sum_turnIntoRegister_27 : decode b_Sum_turnIntoRegister 27 = .ok (.iconst 1, 1) := by decide +kernel
theorem d_Sum_turnIntoRegister_28 : decode b_Sum_turnIntoRegister 28 = .ok (.goto 4, 3) := by decide +kernel
theorem d_Sum_turnIntoRegister_31 : decode b_Sum_turnIntoRegister 31 = .ok (.iconst 0, 1) := by decide +kernel
theorem d_Sum_turnIntoRegister_32 : decode b_Sum_turnIntoRegister 32 = .ok (.istore_n 2, 1) := by decide +kernel
theorem d_Sum_turnIntoRegister_33 : decode b_Sum_turnIntoRegister 33 = .ok (.iload_n 1, 1) := by decide +kernel
theorem d_Sum_turnIntoRegister_34 : decode b_Sum_turnIntoRegister 34 = .ok (.ifCond .eq 26, 3) := by decide +kernel
theorem d_Sum_turnIntoRegister_37 : decode b_Sum_turnIntoRegister 37 = .ok (.aload_n 0, 1) := by decide +kernel
theorem d_Sum_turnIntoRegister_38 : decode b_Sum_turnIntoRegister 38 = .ok (.aload_n 0, 1) := by decide +kernel
theorem d_Sum_turnIntoRegister_39 : decode b_Sum_turnIntoRegister 39 = .ok (.getfield 34, 3) := by decide +kernel
theorem d_Sum_turnIntoRegister_42 : decode b_Sum_turnIntoRegister 42 = .ok (.ifCond .eq 11, 3) := by decide +kernel
theorem d_Sum_turnIntoRegister_45 : decode b_Sum_turnIntoRegister 45 = .ok (.iload_n 2, 1) := by decide +kernel
theorem d_Sum_turnIntoRegister_46 : decode b_Sum_turnIntoRegister 46 = .ok (.ifCond .eq 7, 3) := by decide +kernel
theorem d_Sum_turnIntoRegister_49 : decode b_Sum_turnIntoRegister 49 = .ok (.iconst 1, 1) := by decide +kernel
theorem d_Sum_turnIntoRegister_50 : decode b_Sum_turnIntoRegister 50 = .ok (.goto 4, 3) := by decide +kernel
theorem d_Sum_turnIntoRegister_53 : decode b_Sum_turnIntoRegister 53 = .ok (.iconst 0, 1) := by decide +kernel
theorem d_Sum_turnIntoRegister_54 : decode b_Sum_turnIntoRegister 54 = .ok (.putfield 34, 3) := by decide +kernel
theorem d_Sum_turnIntoRegister_57 : decode b_Sum_turnIntoRegister 57 = .ok (.goto 23, 3) := by decide +kernel
theorem d_Sum_turnIntoRegister_60 : decode b_Sum_turnIntoRegister 60 = .ok (.aload_n 0, 1) := by decide +kernel
theorem d_Sum_turnIntoRegister_61 : decode b_Sum_turnIntoRegister 61 = .ok (.aload_n 0, 1) := by decide +kernel
theorem d_Sum_turnIntoRegister_62 : decode b_Sum_turnIntoRegister 62 = .ok (.getfield 30, 3) := by decide +kernel
theorem d_Sum_turnIntoRegister_65 : decode b_Sum_turnIntoRegister 65 = .ok (.ifCond .eq 11, 3) := by decide +kernel
theorem d_Sum_turnIntoRegister_68 : decode b_Sum_turnIntoRegister 68 = .ok (.iload_n 2, 1) := by decide +kernel
theorem d_Sum_turnIntoRegister_69 : decode b_Sum_turnIntoRegister 69 = .ok (.ifCond .eq 7, 3) := by decide +kernel
theorem d_Sum_turnIntoRegister_72 : decode b_Sum_turnIntoRegister 72 = .ok (.iconst 1, 1) := by decide +kernel
theorem d_Sum_turnIntoRegister_73 : decode b_Sum_turnIntoRegister 73 = .ok (.goto 4, 3) := by decide +kernel
theorem d_Sum_turnIntoRegister_76 : decode b_Sum_turnIntoRegister 76 = .ok (.iconst 0, 1) := by decide +kernel
theorem d_Sum_turnIntoRegister_77 : decode b_Sum_turnIntoRegister 77 = .ok (.putfield 30, 3) := by decide +kernel
theorem d_Sum_turnIntoRegister_80 : decode b_Sum_turnIntoRegister 80 = .ok (.aload_n 0, 1) := by decide +kernel
theorem d_Sum_turnIntoRegister_81 : decode b_Sum_turnIntoRegister 81 = .ok (.iconst 1, 1) := by decide +kernel
theorem d_Sum_turnIntoRegister_82 : decode b_Sum_turnIntoRegister 82 = .ok (.putfield 56, 3) := by decide +kernel
theorem d_Sum_turnIntoRegister_85 : decode b_Sum_turnIntoRegister 85 = .ok (.return_, 1) := by decide +kernel
