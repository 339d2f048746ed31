theorem d_Mac_shifted_65 : decode b_Mac_shifted 65 = .ok (.aload_n 0, 1) := by decide +kernel
theorem d_Mac_shifted_66 : decode b_Mac_shifted 66 = .ok (.getfield 89, 3) := by decide +kernel
theorem d_Mac_shifted_69 : decode b_Mac_shifted 69 = .ok (.lconst 0, 1) := by decide +kernel
theorem d_Mac_shifted_70 : decode b_Mac_shifted 70 = .ok (.lcmp, 1) := by decide +kernel
theorem d_Mac_shifted_71 : decode b_Mac_shifted 71 = .ok (.ifCond .eq 7, 3) := by decide +kernel
theorem d_Mac_shifted_74 : decode b_Mac_shifted 74 = .ok (.iconst 1, 1) := by decide +kernel
theorem d_Mac_shifted_75 : decode b_Mac_shifted 75 = .ok (.goto 36, 3) := by decide +kernel
theorem d_Mac_shifted_78 : decode b_Mac_shifted 78 = .ok (.iconst 0, 1) := by decide +kernel
theorem d_Mac_shifted_79 : decode b_Mac_shifted 79 = .ok (.goto 32, 3) := by decide +kernel
theorem d_Mac_shifted_82 : decode b_Mac_shifted 82 = .ok (.aload_n 0, 1) := by decide +kernel
theorem d_Mac_shifted_83 : decode b_Mac_shifted 83 = .ok (.getfield 89, 3) := by decide +kernel
theorem d_Mac_shifted_86 : decode b_Mac_shifted 86 = .ok (.aload_n 0, 1) := by decide +kernel
theorem d_Mac_shifted_87 : decode b_Mac_shifted 87 = .ok (.getfield 92, 3) := by decide +kernel
theorem d_Mac_shifted_90 : decode b_Mac_shifted 90 = .ok (.l2i, 1) := by decide +kernel
theorem d_Mac_shifted_91 : decode b_Mac_shifted 91 = .ok (.lshl, 1) := by decide +kernel
theorem d_Mac_shifted_92 : decode b_Mac_shifted 92 = .ok (.aload_n 0, 1) := by decide +kernel
theorem d_Mac_shifted_93 : decode b_Mac_shifted 93 = .ok (.getfield 92, 3) := by decide +kernel
theorem d_Mac_shifted_96 : decode b_Mac_shifted 96 = .ok (.l2i, 1) := by decide +kernel
theorem d_Mac_shifted_97 : decode b_Mac_shifted 97 = .ok (.lshr, 1) := by decide +kernel
theorem d_Mac_shifted_98 : decode b_Mac_shifted 98 = .ok (.aload_n 0, 1) := by decide +kernel
theorem d_Mac_shifted_99 : decode b_Mac_shifted 99 = .ok (.getfield 89, 3) := by decide +kernel
theorem d_Mac_shifted_102 : decode b_Mac_shifted 102 = .ok (.lcmp, 1) := by decide +kernel
theorem d_Mac_shifted_103 : decode b_Mac_shifted 103 = .ok (.ifCond .eq 7, 3) := by decide +kernel
theorem d_Mac_shifted_106 : decode b_Mac_shifted 106 = .ok (.iconst 1, 1) := by decide +kernel
theorem d_Mac_shifted_107 : decode b_Mac_shifted 107 = .ok (.goto 4, 3) := by decide +kernel
theorem d_Mac_shifted_110 : decode b_Mac_shifted 110 = .ok (.iconst 0, 1) := by decide +kernel
theorem d_Mac_shifted_111 : decode b_Mac_shifted 111 = .ok (.invokevirtual 154, 3) := by decide +kernel
theorem d_Mac_shifted_114 : decode b_Mac_shifted 114 = .ok (.iload_n 1, 1) := by decide +kernel
theorem d_Mac_shifted_115 : decode b_Mac_shifted 115 = .ok (.ifCond .eq 7, 3) := by decide +kernel
theorem d_Mac_shifted_118 : decode b_Mac_shifted 118 = .ok (.lconst 0, 1) := by decide +kernel
theorem d_Mac_shifted_119 : decode b_Mac_shifted 119 = .ok (.goto 13, 3) := by decide +kernel
theorem d_Mac_shifted_122 : decode b_Mac_shifted 122 = .ok (.aload_n 0, 1) := by decide +kernel
theorem d_Mac_shifted_123 : decode b_Mac_shifted 123 = .ok (.getfield 89, 3) := by decide +kernel
theorem d_Mac_shifted_126 : decode b_Mac_shifted 126 = .ok (.aload_n 0, 1) := by decide +kernel
theorem d_Mac_shifted_127 : decode b_Mac_shifted 127 = .ok (.getfield 92, 3) := by decide +kernel
theorem d_Mac_shifted_130 : decode b_Mac_shifted 130 = .ok (.l2i, 1) := by decide +kernel
theorem d_Mac_shifted_131 : decode b_Mac_shifted 131 = .ok (.lshl, 1) := by decide +kernel
theorem d_Mac_shifted_132 : decode b_Mac_shifted 132 = .ok (.lreturn, 1) := by decide +kernel
theorem d_Mac_shifted_133 : decode b_Mac_shifted 133 = .ok (.iload_n 1, 1) := by decide +kernel
theorem d_Mac_shifted_134 : decode b_Mac_shifted 134 = .ok (.ifCond .eq 7, 3) := by decide +kernel
theorem d_Mac_shifted_137 : decode b_Mac_shifted 137 = .ok (.lconst 0, 1) := by decide +kernel
theorem d_Mac_shifted_138 : decode b_Mac_shifted 138 = .ok (.goto 13, 3) := by decide +kernel
theorem d_Mac_shifted_141 : decode b_Mac_shifted 141 = .ok (.aload_n 0, 1) := by decide +kernel
theorem d_Mac_shifted_142 : decode b_Mac_shifted 142 = .ok (.getfield 89, 3) := by decide +kernel
theorem d_Mac_shifted_145 : decode b_Mac_shifted 145 = .ok (.aload_n 0, 1) := by decide +kernel
theorem d_Mac_shifted_146 : decode b_Mac_shifted 146 = .ok (.getfield 92, 3) := by decide +kernel
theorem d_Mac_shifted_149 : decode b_Mac_shifted 149 = .ok (.l2i, 1) := by decide +kernel
theorem d_Mac_shifted_150 : decode b_Mac_shifted 150 = .ok (.lshl, 1) := by decide +kernel
theorem d_Mac_shifted_151 : decode b_Mac_shifted 151 = .ok (.lreturn, 1) := by decide +kernel
theorem d_Mac_shifted_152 : decode b_Mac_shifted 152 = .ok (.iload_n 1, 1) := by decide +kernel
theorem d_Mac_shifted_153 : decode b_Mac_shifted 153 = .ok (.ifCond .eq 13, 3) := by decide +kernel
theorem d_Mac_shifted_156 : decode b_Mac_shifted 156 = .ok (.aload_n 0, 1) := by decide +kernel
theorem d_Mac_shifted_157 : decode b_Mac_shifted 157 = .ok (.getfield 89, 3) := by decide +kernel
theorem d_Mac_shifted_160 : decode b_Mac_shifted 160 = .ok (.bipush 63, 2) := by decide +kernel
theorem d_Mac_shifted_162 : decode b_Mac_shifted 162 = .ok (.lshr, 1) := by decide +kernel
theorem d_Mac_shifted_163 : decode b_Mac_shifted 163 = .ok (.goto 13, 3) := by decide +kernel
theorem d_Mac_shifted_166 : decode b_Mac_shifted 166 = .ok (.aload_n 0, 1) := by decide +kernel
theorem d_Mac_shifted_167 : decode b_Mac_shifted 167 = .ok (.getfield 89, 3) := by decide +kernel
theorem d_Mac_shifted_170 : decode b_Mac_shifted 170 = .ok (.aload_n 0, 1) := by decide +kernel
theorem d_Mac_shifted_171 : decode b_Mac_shifted 171 = .ok (.getfield 92, 3) := by decide +kernel
theorem d_Mac_shifted_174 : decode b_Mac_shifted 174 = .ok (.l2i, 1) := by decide +kernel
theorem d_Mac_shifted_175 : decode b_Mac_shifted 175 = .ok (.lshr, 1) := by decide +kernel
theorem d_Mac_shifted_176 : decode b_Mac_shifted 176 = .ok (.lreturn, 1) := by decide +kernel
theorem d_Mac_shifted_177 : decode b_Mac_shifted 177 = .ok (.iload_n 1, 1) := by decide +kernel
theorem d_Mac_shifted_178 : decode b_Mac_shifted 178 = .ok (.ifCond .eq 7, 3) := by decide +kernel
theorem d_Mac_shifted_181 : decode b_Mac_shifted 181 = .ok (.lconst 0, 1) := by decide +kernel
theorem d_Mac_shifted_182 : decode b_Mac_shifted 182 = .ok (.goto 13, 3) := by decide +kernel
theorem d_Mac_shifted_185 : decode b_Mac_shifted 185 = .ok (.aload_n 0, 1) := by decide +kernel
theorem d_Mac_shifted_186 : decode b_Mac_shifted 186 = .ok (.getfield 89, 3) := by decide +kernel
theorem d_Mac_shifted_189 : decode b_Mac_shifted 189 = .ok (.aload_n 0, 1) := by decide +kernel
theorem d_Mac_shifted_190 : decode b_Mac_shifted 190 = .ok (.getfield 92, 3) := by decide +kernel
theorem d_Mac_shifted_193 : decode b_Mac_shifted 193 = .ok (.l2i, 1) := by decide +kernel
theorem d_Mac_shifted_194 : decode b_Mac_shifted 194 = .ok (.lushr, 1) := by decide +kernel
theorem d_Mac_shifted_195 : decode b_Mac_shifted 195 = .ok (.lreturn, 1) := by decide +kernel
theorem d_Mac_trip_0 : decode b_Mac_trip 0 = .ok (.aload_n 0, 1) := by decide +kernel
theorem d_Mac_trip_1 : decode b_Mac_trip 1 = .ok (.getfield 13, 3) := by decide +kernel
theorem d_Mac_trip_4 : decode b_Mac_trip 4 = .ok (.iconst 0, 1) := by decide +kernel
theorem d_Mac_trip_5 : decode b_Mac_trip 5 = .ok (.aload_n 0, 1) := by decide +kernel
theorem d_Mac_trip_6 : decode b_Mac_trip 6 = .ok (.getfield 13, 3) := by decide +kernel
theorem d_Mac_trip_9 : decode b_Mac_trip 9 = .ok (.sipush 255, 3) := by decide +kernel
theorem d_Mac_trip_12 : decode b_Mac_trip 12 = .ok (.invokevirtual 85, 3) := by decide +kernel
theorem d_Mac_trip_15 : decode b_Mac_trip 15 = .ok (.invokevirtual 102, 3) := by decide +kernel
theorem d_Mac_trip_18 : decode b_Mac_trip 18 = .ok (.aload_n 0, 1) := by decide +kernel
theorem d_Mac_trip_19 : decode b_Mac_trip 19 = .ok (.getfield 13, 3) := by decide +kernel
theorem d_Mac_trip_22 : decode b_Mac_trip 22 = .ok (.sipush 255, 3) := by decide +kernel
theorem d_Mac_trip_25 : decode b_Mac_trip 25 = .ok (.aload_n 0, 1) := by decide +kernel
theorem d_Mac_trip_26 : decode b_Mac_trip 26 = .ok (.getfield 13, 3) := by decide +kernel
theorem d_Mac_trip_29 : decode b_Mac_trip 29 = .ok (.iconst 4, 1) := by decide +kernel
theorem d_Mac_trip_30 : decode b_Mac_trip 30 = .ok (.invokevirtual 99, 3) := by decide +kernel
theorem d_Mac_trip_33 : decode b_Mac_trip 33 = .ok (.invokevirtual 110, 3) := by decide +kernel
theorem d_Mac_trip_36 : decode b_Mac_trip 36 = .ok (.aload_n 0, 1) := by decide +kernel
theorem d_Mac_trip_37 : decode b_Mac_trip 37 = .ok (.getfield 13, 3) := by decide +kernel
theorem d_Mac_trip_40 : decode b_Mac_trip 40 = .ok (.bipush 24, 2) := by decide +kernel
theorem d_Mac_trip_42 : decode b_Mac_trip 42 = .ok (.aload_n 0, 1) := by decide +kernel
theorem d_Mac_trip_43 : decode b_Mac_trip 43 = .ok (.getfield 60, 3) := by decide +kernel
theorem d_Mac_trip_46 : decode b_Mac_trip 46 = .ok (.invokevirtual 102, 3) := by decide +kernel
theorem d_Mac_trip_49 : decode b_Mac_trip 49 = .ok (.aload_n 0, 1) := by decide +kernel
theorem d_Mac_trip_50 : decode b_Mac_trip 50 = .ok (.getfield 13, 3) := by decide +kernel
theorem d_Mac_trip_53 : decode b_Mac_trip 53 = .ok (.bipush 25, 2) := by decide +kernel
theorem d_Mac_trip_55 : decode b_Mac_trip 55 = .ok (.aload_n 0, 1) := by decide +kernel
theorem d_Mac_trip_56 : decode b_Mac_trip 56 = .ok (.getfield 70, 3) := by decide +kernel
theorem d_Mac_trip_59 : decode b_Mac_trip 59 = .ok (.i2l, 1) := by decide +kernel
theorem d_Mac_trip_60 : decode b_Mac_trip 60 = .ok (.ldc2_w 115, 3) := by decide +kernel
theorem d_Mac_trip_63 : decode b_Mac_trip 63 = .ok (.land, 1) := by decide +kernel
theorem d_Mac_trip_64 : decode b_Mac_trip 64 = .ok (.ldc2_w 117, 3) := by decide +kernel
theorem d_Mac_trip_67 : decode b_Mac_trip 67 = .ok (.ladd, 1) := by decide +kernel
theorem d_Mac_trip_68 : decode b_Mac_trip 68 = .ok (.invokevirtual 102, 3) := by decide +kernel
theorem d_Mac_trip_71 : decode b_Mac_trip 71 = .ok (.aload_n 0, 1) := by decide +kernel
theorem d_Mac_trip_72 : decode b_Mac_trip 72 = .ok (.getfield 13, 3) := by decide +kernel
theorem d_Mac_trip_75 : decode b_Mac_trip 75 = .ok (.bipush 26, 2) := by decide +kernel
theorem d_Mac_trip_77 : decode b_Mac_trip 77 = .ok (.aload_n 0, 1) := by decide +kernel
theorem d_Mac_trip_78 : decode b_Mac_trip 78 = .ok (.getfield 89, 3) := by decide +kernel
theorem d_Mac_trip_81 : decode b_Mac_trip 81 = .ok (.invokevirtual 102, 3) := by decide +kernel
theorem d_Mac_trip_84 : decode b_Mac_trip 84 = .ok (.aload_n 0, 1) := by decide +kernel
theorem d_Mac_trip_85 : decode b_Mac_trip 85 = .ok (.getfield 13, 3) := by decide +kernel
theorem d_Mac_trip_88 : decode b_Mac_trip 88 = .ok (.bipush 27, 2) := by decide +kernel
theorem d_Mac_trip_90 : decode b_Mac_trip 90 = .ok (.aload_n 0, 1) := by decide +kernel
theorem d_Mac_trip_91 : decode b_Mac_trip 91 = .ok (.getfield 92, 3) := by decide +kernel
theorem d_Mac_trip_94 : decode b_Mac_trip 94 = .ok (.invokevirtual 102, 3) := by decide +kernel
theorem d_Mac_trip_97 : decode b_Mac_trip 97 = .ok (.aload_n 0, 1) := by decide +kernel
theorem d_Mac_trip_98 : decode b_Mac_trip 98 = .ok (.iload_n 1, 1) := by decide +kernel
theorem d_Mac_trip_99 : decode b_Mac_trip 99 = .ok (.i2l, 1) := by decide +kernel
theorem d_Mac_trip_100 : decode b_Mac_trip 100 = .ok (.putfield 60, 3) := by decide +kernel
theorem d_Mac_trip_103 : decode b_Mac_trip 103 = .ok (.return_, 1) := by decide +kernel
theorem d_Mac_widened_0 : decode b_Mac_widened 0 = .ok (.aload_n 0, 1) := by decide +kernel
theorem d_Mac_widened_1 : decode b_Mac_widened 1 = .ok (.getfield 13, 3) := by decide +kernel
theorem d_Mac_widened_4 : decode b_Mac_widened 4 = .ok (.aload_n 0, 1) := by decide +kernel
theorem d_Mac_widened_5 : decode b_Mac_widened 5 = .ok (.getfield 76, 3) := by decide +kernel
theorem d_Mac_widened_8 : decode b_Mac_widened 8 = .ok (.invokevirtual 85, 3) := by decide +kernel
theorem d_Mac_widened_11 : decode b_Mac_widened 11 = .ok (.lstore_n 1, 1) := by decide +kernel
theorem d_Mac_widened_12 : decode b_Mac_widened 12 = .ok (.aload_n 0, 1) := by decide +kernel
theorem d_Mac_widened_13 : decode b_Mac_widened 13 = .ok (.getfield 70, 3) := by decide +kernel
theorem d_Mac_widened_16 : decode b_Mac_widened 16 = .ok (.i2l, 1) := by decide +kernel
theorem d_Mac_widened_17 : decode b_Mac_widened 17 = .ok (.ldc2_w 229, 3) := by decide +kernel
theorem d_Mac_widened_20 : decode b_Mac_widened 20 = .ok (.land, 1) := by decide +kernel
theorem d_Mac_widened_21 : decode b_Mac_widened 21 = .ok (.bipush 48, 2) := by decide +kernel
theorem d_Mac_widened_23 : decode b_Mac_widened 23 = .ok (.bipush 16, 2) := by decide +kernel
theorem d_Mac_widened_25 : decode b_Mac_widened 25 = .ok (.aload_n 0, 1) := by decide +kernel
theorem d_Mac_widened_26 : decode b_Mac_widened 26 = .ok (.getfield 73, 3) := by decide +kernel
theorem d_Mac_widened_29 : decode b_Mac_widened 29 = .ok (.iconst 3, 1) := by decide +kernel
theorem d_Mac_widened_30 : decode b_Mac_widened 30 = .ok (.iand, 1) := by decide +kernel
theorem d_Mac_widened_31 : decode b_Mac_widened 31 = .ok (.imul, 1) := by decide +kernel
theorem d_Mac_widened_32 : decode b_Mac_widened 32 = .ok (.isub, 1) := by decide +kernel
theorem d_Mac_widened_33 : decode b_Mac_widened 33 = .ok (.lshl, 1) := by decide +kernel
theorem d_Mac_widened_34 : decode b_Mac_widened 34 = .ok (.lstore_n 3, 1) := by decide +kernel
theorem d_Mac_widened_35 : decode b_Mac_widened 35 = .ok (.aload_n 0, 1) := by decide +kernel
theorem d_Mac_widened_36 : decode b_Mac_widened 36 = .ok (.getfield 73, 3) := by decide +kernel
theorem d_Mac_widened_39 : decode b_Mac_widened 39 = .ok (.iconst 2, 1) := by decide +kernel
theorem d_Mac_widened_40 : decode b_Mac_widened 40 = .ok (.ishr, 1) := by decide +kernel
theorem d_Mac_widened_41 : decode b_Mac_widened 41 = .ok (.tableswitch 37 56 58 #[27, 29, 33], 27) := by decide +kernel
theorem d_Mac_widened_68 : decode b_Mac_widened 68 = .ok (.lload_n 3, 1) := by decide +kernel
theorem d_Mac_widened_69 : decode b_Mac_widened 69 = .ok (.lreturn, 1) := by decide +kernel
theorem d_Mac_widened_70 : decode b_Mac_widened 70 = .ok (.lload_n 1, 1) := by decide +kernel
theorem d_Mac_widened_71 : decode b_Mac_widened 71 = .ok (.lload_n 3, 1) := by decide +kernel
theorem d_Mac_widened_72 : decode b_Mac_widened 72 = .ok (.ladd, 1) := by decide +kernel
theorem d_Mac_widened_73 : decode b_Mac_widened 73 = .ok (.lreturn, 1) := by decide +kernel
theorem d_Mac_widened_74 : decode b_Mac_widened 74 = .ok (.lload_n 1, 1) := by decide +kernel
theorem d_Mac_widened_75 : decode b_Mac_widened 75 = .ok (.lload_n 3, 1) := by decide +kernel
theorem d_Mac_widened_76 : decode b_Mac_widened 76 = .ok (.lor, 1) := by decide +kernel
theorem d_Mac_widened_77 : decode b_Mac_widened 77 = .ok (.lreturn, 1) := by decide +kernel
theorem d_Mac_widened_78 : decode b_Mac_widened 78 = .ok (.lload_n 1, 1) := by decide +kernel
theorem d_Mac_widened_79 : decode b_Mac_widened 79 = .ok (.lload_n 3, 1) := by decide +kernel
theorem d_Mac_widened_80 : decode b_Mac_widened 80 = .ok (.ldc2_w 168, 3) := by decide +kernel
theorem d_Mac_widened_83 : decode b_Mac_widened 83 = .ok (.lxor, 1) := by decide +kernel
theorem d_Mac_widened_84 : decode b_Mac_widened 84 = .ok (.land, 1) := by decide +kernel
theorem d_Mac_widened_85 : decode b_Mac_widened 85 = .ok (.lreturn, 1) := by decide +kernel
