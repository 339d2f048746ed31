theorem d_Mac_control_140 : decode b_Mac_control 140 = .ok (.bipush 24, 2) := by decide +kernel
theorem d_Mac_control_142 : decode b_Mac_control 142 = .ok (.invokevirtual 99, 3) := by decide +kernel
theorem d_Mac_control_145 : decode b_Mac_control 145 = .ok (.putfield 60, 3) := by decide +kernel
theorem d_Mac_control_148 : decode b_Mac_control 148 = .ok (.aload_n 0, 1) := by decide +kernel
theorem d_Mac_control_149 : decode b_Mac_control 149 = .ok (.iconst 5, 1) := by decide +kernel
theorem d_Mac_control_150 : decode b_Mac_control 150 = .ok (.putfield 63, 3) := by decide +kernel
theorem d_Mac_control_153 : decode b_Mac_control 153 = .ok (.iconst 0, 1) := by decide +kernel
theorem d_Mac_control_154 : decode b_Mac_control 154 = .ok (.ireturn, 1) := by decide +kernel
theorem d_Mac_control_155 : decode b_Mac_control 155 = .ok (.iconst 0, 1) := by decide +kernel
theorem d_Mac_control_156 : decode b_Mac_control 156 = .ok (.ireturn, 1) := by decide +kernel
theorem d_Mac_control_157 : decode b_Mac_control 157 = .ok (.aload_n 0, 1) := by decide +kernel
theorem d_Mac_control_158 : decode b_Mac_control 158 = .ok (.invokevirtual 242, 3) := by decide +kernel
theorem d_Mac_control_161 : decode b_Mac_control 161 = .ok (.ireturn, 1) := by decide +kernel
theorem d_Mac_control_162 : decode b_Mac_control 162 = .ok (.aload_n 0, 1) := by decide +kernel
theorem d_Mac_control_163 : decode b_Mac_control 163 = .ok (.aload_n 0, 1) := by decide +kernel
theorem d_Mac_control_164 : decode b_Mac_control 164 = .ok (.getfield 13, 3) := by decide +kernel
theorem d_Mac_control_167 : decode b_Mac_control 167 = .ok (.aload_n 0, 1) := by decide +kernel
theorem d_Mac_control_168 : decode b_Mac_control 168 = .ok (.getfield 82, 3) := by decide +kernel
theorem d_Mac_control_171 : decode b_Mac_control 171 = .ok (.invokevirtual 85, 3) := by decide +kernel
theorem d_Mac_control_174 : decode b_Mac_control 174 = .ok (.putfield 92, 3) := by decide +kernel
theorem d_Mac_control_177 : decode b_Mac_control 177 = .ok (.aload_n 0, 1) := by decide +kernel
theorem d_Mac_control_178 : decode b_Mac_control 178 = .ok (.iconst 0, 1) := by decide +kernel
theorem d_Mac_control_179 : decode b_Mac_control 179 = .ok (.invokevirtual 106, 3) := by decide +kernel
theorem d_Mac_control_182 : decode b_Mac_control 182 = .ok (.aload_n 0, 1) := by decide +kernel
theorem d_Mac_control_183 : decode b_Mac_control 183 = .ok (.iconst 5, 1) := by decide +kernel
theorem d_Mac_control_184 : decode b_Mac_control 184 = .ok (.putfield 63, 3) := by decide +kernel
theorem d_Mac_control_187 : decode b_Mac_control 187 = .ok (.iconst 0, 1) := by decide +kernel
theorem d_Mac_control_188 : decode b_Mac_control 188 = .ok (.ireturn, 1) := by decide +kernel
theorem d_Mac_control_189 : decode b_Mac_control 189 = .ok (.iconst 1, 1) := by decide +kernel
theorem d_Mac_control_190 : decode b_Mac_control 190 = .ok (.ireturn, 1) := by decide +kernel
theorem d_Mac_decode_0 : decode b_Mac_decode 0 = .ok (.aload_n 0, 1) := by decide +kernel
theorem d_Mac_decode_1 : decode b_Mac_decode 1 = .ok (.aload_n 0, 1) := by decide +kernel
theorem d_Mac_decode_2 : decode b_Mac_decode 2 = .ok (.getfield 7, 3) := by decide +kernel
theorem d_Mac_decode_5 : decode b_Mac_decode 5 = .ok (.aload_n 0, 1) := by decide +kernel
theorem d_Mac_decode_6 : decode b_Mac_decode 6 = .ok (.getfield 19, 3) := by decide +kernel
theorem d_Mac_decode_9 : decode b_Mac_decode 9 = .ok (.invokevirtual 66, 3) := by decide +kernel
theorem d_Mac_decode_12 : decode b_Mac_decode 12 = .ok (.putfield 70, 3) := by decide +kernel
theorem d_Mac_decode_15 : decode b_Mac_decode 15 = .ok (.aload_n 0, 1) := by decide +kernel
theorem d_Mac_decode_16 : decode b_Mac_decode 16 = .ok (.aload_n 0, 1) := by decide +kernel
theorem d_Mac_decode_17 : decode b_Mac_decode 17 = .ok (.getfield 70, 3) := by decide +kernel
theorem d_Mac_decode_20 : decode b_Mac_decode 20 = .ok (.bipush 24, 2) := by decide +kernel
theorem d_Mac_decode_22 : decode b_Mac_decode 22 = .ok (.iushr, 1) := by decide +kernel
theorem d_Mac_decode_23 : decode b_Mac_decode 23 = .ok (.putfield 73, 3) := by decide +kernel
theorem d_Mac_decode_26 : decode b_Mac_decode 26 = .ok (.aload_n 0, 1) := by decide +kernel
theorem d_Mac_decode_27 : decode b_Mac_decode 27 = .ok (.aload_n 0, 1) := by decide +kernel
theorem d_Mac_decode_28 : decode b_Mac_decode 28 = .ok (.getfield 70, 3) := by decide +kernel
theorem d_Mac_decode_31 : decode b_Mac_decode 31 = .ok (.bipush 16, 2) := by decide +kernel
theorem d_Mac_decode_33 : decode b_Mac_decode 33 = .ok (.iushr, 1) := by decide +kernel
theorem d_Mac_decode_34 : decode b_Mac_decode 34 = .ok (.sipush 255, 3) := by decide +kernel
theorem d_Mac_decode_37 : decode b_Mac_decode 37 = .ok (.iand, 1) := by decide +kernel
theorem d_Mac_decode_38 : decode b_Mac_decode 38 = .ok (.putfield 76, 3) := by decide +kernel
theorem d_Mac_decode_41 : decode b_Mac_decode 41 = .ok (.aload_n 0, 1) := by decide +kernel
theorem d_Mac_decode_42 : decode b_Mac_decode 42 = .ok (.aload_n 0, 1) := by decide +kernel
theorem d_Mac_decode_43 : decode b_Mac_decode 43 = .ok (.getfield 70, 3) := by decide +kernel
theorem d_Mac_decode_46 : decode b_Mac_decode 46 = .ok (.bipush 8, 2) := by decide +kernel
theorem d_Mac_decode_48 : decode b_Mac_decode 48 = .ok (.iushr, 1) := by decide +kernel
theorem d_Mac_decode_49 : decode b_Mac_decode 49 = .ok (.sipush 255, 3) := by decide +kernel
theorem d_Mac_decode_52 : decode b_Mac_decode 52 = .ok (.iand, 1) := by decide +kernel
theorem d_Mac_decode_53 : decode b_Mac_decode 53 = .ok (.putfield 79, 3) := by decide +kernel
theorem d_Mac_decode_56 : decode b_Mac_decode 56 = .ok (.aload_n 0, 1) := by decide +kernel
theorem d_Mac_decode_57 : decode b_Mac_decode 57 = .ok (.aload_n 0, 1) := by decide +kernel
theorem d_Mac_decode_58 : decode b_Mac_decode 58 = .ok (.getfield 70, 3) := by decide +kernel
theorem d_Mac_decode_61 : decode b_Mac_decode 61 = .ok (.sipush 255, 3) := by decide +kernel
theorem d_Mac_decode_64 : decode b_Mac_decode 64 = .ok (.iand, 1) := by decide +kernel
theorem d_Mac_decode_65 : decode b_Mac_decode 65 = .ok (.putfield 82, 3) := by decide +kernel
theorem d_Mac_decode_68 : decode b_Mac_decode 68 = .ok (.aload_n 0, 1) := by decide +kernel
theorem d_Mac_decode_69 : decode b_Mac_decode 69 = .ok (.aload_n 0, 1) := by decide +kernel
theorem d_Mac_decode_70 : decode b_Mac_decode 70 = .ok (.getfield 13, 3) := by decide +kernel
theorem d_Mac_decode_73 : decode b_Mac_decode 73 = .ok (.aload_n 0, 1) := by decide +kernel
theorem d_Mac_decode_74 : decode b_Mac_decode 74 = .ok (.getfield 79, 3) := by decide +kernel
theorem d_Mac_decode_77 : decode b_Mac_decode 77 = .ok (.invokevirtual 85, 3) := by decide +kernel
theorem d_Mac_decode_80 : decode b_Mac_decode 80 = .ok (.putfield 89, 3) := by decide +kernel
theorem d_Mac_decode_83 : decode b_Mac_decode 83 = .ok (.aload_n 0, 1) := by decide +kernel
theorem d_Mac_decode_84 : decode b_Mac_decode 84 = .ok (.aload_n 0, 1) := by decide +kernel
theorem d_Mac_decode_85 : decode b_Mac_decode 85 = .ok (.getfield 73, 3) := by decide +kernel
theorem d_Mac_decode_88 : decode b_Mac_decode 88 = .ok (.iconst 1, 1) := by decide +kernel
theorem d_Mac_decode_89 : decode b_Mac_decode 89 = .ok (.iand, 1) := by decide +kernel
theorem d_Mac_decode_90 : decode b_Mac_decode 90 = .ok (.ifCond .ne 17, 3) := by decide +kernel
theorem d_Mac_decode_93 : decode b_Mac_decode 93 = .ok (.aload_n 0, 1) := by decide +kernel
theorem d_Mac_decode_94 : decode b_Mac_decode 94 = .ok (.getfield 13, 3) := by decide +kernel
theorem d_Mac_decode_97 : decode b_Mac_decode 97 = .ok (.aload_n 0, 1) := by decide +kernel
theorem d_Mac_decode_98 : decode b_Mac_decode 98 = .ok (.getfield 82, 3) := by decide +kernel
theorem d_Mac_decode_101 : decode b_Mac_decode 101 = .ok (.invokevirtual 85, 3) := by decide +kernel
theorem d_Mac_decode_104 : decode b_Mac_decode 104 = .ok (.goto 8, 3) := by decide +kernel
theorem d_Mac_decode_107 : decode b_Mac_decode 107 = .ok (.aload_n 0, 1) := by decide +kernel
theorem d_Mac_decode_108 : decode b_Mac_decode 108 = .ok (.getfield 82, 3) := by decide +kernel
theorem d_Mac_decode_111 : decode b_Mac_decode 111 = .ok (.i2l, 1) := by decide +kernel
theorem d_Mac_decode_112 : decode b_Mac_decode 112 = .ok (.putfield 92, 3) := by decide +kernel
theorem d_Mac_decode_115 : decode b_Mac_decode 115 = .ok (.aload_n 0, 1) := by decide +kernel
theorem d_Mac_decode_116 : decode b_Mac_decode 116 = .ok (.aload_n 0, 1) := by decide +kernel
theorem d_Mac_decode_117 : decode b_Mac_decode 117 = .ok (.getfield 19, 3) := by decide +kernel
theorem d_Mac_decode_120 : decode b_Mac_decode 120 = .ok (.ldc2_w 95, 3) := by decide +kernel
theorem d_Mac_decode_123 : decode b_Mac_decode 123 = .ok (.ladd, 1) := by decide +kernel
theorem d_Mac_decode_124 : decode b_Mac_decode 124 = .ok (.putfield 60, 3) := by decide +kernel
theorem d_Mac_decode_127 : decode b_Mac_decode 127 = .ok (.aload_n 0, 1) := by decide +kernel
theorem d_Mac_decode_128 : decode b_Mac_decode 128 = .ok (.iconst 1, 1) := by decide +kernel
theorem d_Mac_decode_129 : decode b_Mac_decode 129 = .ok (.putfield 63, 3) := by decide +kernel
theorem d_Mac_decode_132 : decode b_Mac_decode 132 = .ok (.aload_n 0, 1) := by decide +kernel
theorem d_Mac_decode_133 : decode b_Mac_decode 133 = .ok (.iconst 0, 1) := by decide +kernel
theorem d_Mac_decode_134 : decode b_Mac_decode 134 = .ok (.putfield 54, 3) := by decide +kernel
theorem d_Mac_decode_137 : decode b_Mac_decode 137 = .ok (.return_, 1) := by decide +kernel
theorem d_Mac_execute_0 : decode b_Mac_execute 0 = .ok (.aload_n 0, 1) := by decide +kernel
theorem d_Mac_execute_1 : decode b_Mac_execute 1 = .ok (.getfield 73, 3) := by decide +kernel
theorem d_Mac_execute_4 : decode b_Mac_execute 4 = .ok (.ifCond .ne 23, 3) := by decide +kernel
theorem d_Mac_execute_7 : decode b_Mac_execute 7 = .ok (.aload_n 0, 1) := by decide +kernel
theorem d_Mac_execute_8 : decode b_Mac_execute 8 = .ok (.getfield 76, 3) := by decide +kernel
theorem d_Mac_execute_11 : decode b_Mac_execute 11 = .ok (.ifCond .ne 14, 3) := by decide +kernel
theorem d_Mac_execute_14 : decode b_Mac_execute 14 = .ok (.aload_n 0, 1) := by decide +kernel
theorem d_Mac_execute_15 : decode b_Mac_execute 15 = .ok (.getfield 79, 3) := by decide +kernel
theorem d_Mac_execute_18 : decode b_Mac_execute 18 = .ok (.ifCond .ne 7, 3) := by decide +kernel
theorem d_Mac_execute_21 : decode b_Mac_execute 21 = .ok (.iconst 5, 1) := by decide +kernel
theorem d_Mac_execute_22 : decode b_Mac_execute 22 = .ok (.goto 4, 3) := by decide +kernel
theorem d_Mac_execute_25 : decode b_Mac_execute 25 = .ok (.iconst 0, 1) := by decide +kernel
theorem d_Mac_execute_26 : decode b_Mac_execute 26 = .ok (.ireturn, 1) := by decide +kernel
theorem d_Mac_execute_27 : decode b_Mac_execute 27 = .ok (.aload_n 0, 1) := by decide +kernel
theorem d_Mac_execute_28 : decode b_Mac_execute 28 = .ok (.getfield 73, 3) := by decide +kernel
theorem d_Mac_execute_31 : decode b_Mac_execute 31 = .ok (.sipush 128, 3) := by decide +kernel
theorem d_Mac_execute_34 : decode b_Mac_execute 34 = .ok (.if_icmp .lt 18, 3) := by decide +kernel
theorem d_Mac_execute_37 : decode b_Mac_execute 37 = .ok (.aload_n 0, 1) := by decide +kernel
theorem d_Mac_execute_38 : decode b_Mac_execute 38 = .ok (.getfield 73, 3) := by decide +kernel
theorem d_Mac_execute_41 : decode b_Mac_execute 41 = .ok (.sipush 192, 3) := by decide +kernel
theorem d_Mac_execute_44 : decode b_Mac_execute 44 = .ok (.if_icmp .ge 8, 3) := by decide +kernel
theorem d_Mac_execute_47 : decode b_Mac_execute 47 = .ok (.aload_n 0, 1) := by decide +kernel
theorem d_Mac_execute_48 : decode b_Mac_execute 48 = .ok (.invokevirtual 119, 3) := by decide +kernel
theorem d_Mac_execute_51 : decode b_Mac_execute 51 = .ok (.ireturn, 1) := by decide +kernel
theorem d_Mac_execute_52 : decode b_Mac_execute 52 = .ok (.aload_n 0, 1) := by decide +kernel
theorem d_Mac_execute_53 : decode b_Mac_execute 53 = .ok (.getfield 73, 3) := by decide +kernel
theorem d_Mac_execute_56 : decode b_Mac_execute 56 = .ok (.sipush 240, 3) := by decide +kernel
theorem d_Mac_execute_59 : decode b_Mac_execute 59 = .ok (.if_icmp .lt 8, 3) := by decide +kernel
theorem d_Mac_execute_62 : decode b_Mac_execute 62 = .ok (.aload_n 0, 1) := by decide +kernel
theorem d_Mac_execute_63 : decode b_Mac_execute 63 = .ok (.invokevirtual 122, 3) := by decide +kernel
theorem d_Mac_execute_66 : decode b_Mac_execute 66 = .ok (.ireturn, 1) := by decide +kernel
theorem d_Mac_execute_67 : decode b_Mac_execute 67 = .ok (.aload_n 0, 1) := by decide +kernel
theorem d_Mac_execute_68 : decode b_Mac_execute 68 = .ok (.getfield 73, 3) := by decide +kernel
theorem d_Mac_execute_71 : decode b_Mac_execute 71 = .ok (.bipush 24, 2) := by decide +kernel
theorem d_Mac_execute_73 : decode b_Mac_execute 73 = .ok (.if_icmp .ge 5, 3) := by decide +kernel
theorem d_Mac_execute_76 : decode b_Mac_execute 76 = .ok (.iconst 1, 1) := by decide +kernel
theorem d_Mac_execute_77 : decode b_Mac_execute 77 = .ok (.ireturn, 1) := by decide +kernel
theorem d_Mac_execute_78 : decode b_Mac_execute 78 = .ok (.aload_n 0, 1) := by decide +kernel
theorem d_Mac_execute_79 : decode b_Mac_execute 79 = .ok (.getfield 73, 3) := by decide +kernel
theorem d_Mac_execute_82 : decode b_Mac_execute 82 = .ok (.bipush 32, 2) := by decide +kernel
theorem d_Mac_execute_84 : decode b_Mac_execute 84 = .ok (.if_icmp .ge 21, 3) := by decide +kernel
theorem d_Mac_execute_87 : decode b_Mac_execute 87 = .ok (.aload_n 0, 1) := by decide +kernel
theorem d_Mac_execute_88 : decode b_Mac_execute 88 = .ok (.getfield 13, 3) := by decide +kernel
theorem d_Mac_execute_91 : decode b_Mac_execute 91 = .ok (.aload_n 0, 1) := by decide +kernel
theorem d_Mac_execute_92 : decode b_Mac_execute 92 = .ok (.getfield 76, 3) := by decide +kernel
theorem d_Mac_execute_95 : decode b_Mac_execute 95 = .ok (.aload_n 0, 1) := by decide +kernel
theorem d_Mac_execute_96 : decode b_Mac_execute 96 = .ok (.invokevirtual 125, 3) := by decide +kernel
theorem d_Mac_execute_99 : decode b_Mac_execute 99 = .ok (.invokevirtual 110, 3) := by decide +kernel
theorem d_Mac_execute_102 : decode b_Mac_execute 102 = .ok (.goto 150, 3) := by decide +kernel
theorem d_Mac_execute_105 : decode b_Mac_execute 105 = .ok (.aload_n 0, 1) := by decide +kernel
theorem d_Mac_execute_106 : decode b_Mac_execute 106 = .ok (.getfield 73, 3) := by decide +kernel
theorem d_Mac_execute_109 : decode b_Mac_execute 109 = .ok (.bipush 56, 2) := by decide +kernel
theorem d_Mac_execute_111 : decode b_Mac_execute 111 = .ok (.if_icmp .ge 21, 3) := by decide +kernel
theorem d_Mac_execute_114 : decode b_Mac_execute 114 = .ok (.aload_n 0, 1) := by decide +kernel
theorem d_Mac_execute_115 : decode b_Mac_execute 115 = .ok (.getfield 13, 3) := by decide +kernel
theorem d_Mac_execute_118 : decode b_Mac_execute 118 = .ok (.aload_n 0, 1) := by decide +kernel
theorem d_Mac_execute_119 : decode b_Mac_execute 119 = .ok (.getfield 76, 3) := by decide +kernel
theorem d_Mac_execute_122 : decode b_Mac_execute 122 = .ok (.aload_n 0, 1) := by decide +kernel
theorem d_Mac_execute_123 : decode b_Mac_execute 123 = .ok (.invokevirtual 129, 3) := by decide +kernel
theorem d_Mac_execute_126 : decode b_Mac_execute 126 = .ok (.invokevirtual 110, 3) := by decide +kernel
theorem d_Mac_execute_129 : decode b_Mac_execute 129 = .ok (.goto 123, 3) := by decide +kernel
theorem d_Mac_execute_132 : decode b_Mac_execute 132 = .ok (.aload_n 0, 1) := by decide +kernel
theorem d_Mac_execute_133 : decode b_Mac_execute 133 = .ok (.getfield 73, 3) := by decide +kernel
theorem d_Mac_execute_136 : decode b_Mac_execute 136 = .ok (.bipush 64, 2) := by decide +kernel
theorem d_Mac_execute_138 : decode b_Mac_execute 138 = .ok (.if_icmp .ge 21, 3) := by decide +kernel
theorem d_Mac_execute_141 : decode b_Mac_execute 141 = .ok (.aload_n 0, 1) := by decide +kernel
theorem d_Mac_execute_142 : decode b_Mac_execute 142 = .ok (.getfield 13, 3) := by decide +kernel
theorem d_Mac_execute_145 : decode b_Mac_execute 145 = .ok (.aload_n 0, 1) := by decide +kernel
theorem d_Mac_execute_146 : decode b_Mac_execute 146 = .ok (.getfield 76, 3) := by decide +kernel
theorem d_Mac_execute_149 : decode b_Mac_execute 149 = .ok (.aload_n 0, 1) := by decide +kernel
theorem d_Mac_execute_150 : decode b_Mac_execute 150 = .ok (.invokevirtual 132, 3) := by decide +kernel
theorem d_Mac_execute_153 : decode b_Mac_execute 153 = .ok (.invokevirtual 110, 3) := by decide +kernel
theorem d_Mac_execute_156 : decode b_Mac_execute 156 = .ok (.goto 96, 3) := by decide +kernel
theorem d_Mac_execute_159 : decode b_Mac_execute 159 = .ok (.aload_n 0, 1) := by decide +kernel
theorem d_Mac_execute_160 : decode b_Mac_execute 160 = .ok (.getfield 73, 3) := by decide +kernel
theorem d_Mac_execute_163 : decode b_Mac_execute 163 = .ok (.bipush 96, 2) := by decide +kernel
theorem d_Mac_execute_165 : decode b_Mac_execute 165 = .ok (.if_icmp .ge 10, 3) := by decide +kernel
theorem d_Mac_execute_168 : decode b_Mac_execute 168 = .ok (.aload_n 0, 1) := by decide +kernel
theorem d_Mac_execute_169 : decode b_Mac_execute 169 = .ok (.invokevirtual 135, 3) := by decide +kernel
theorem d_Mac_execute_172 : decode b_Mac_execute 172 = .ok (.goto 80, 3) := by decide +kernel
theorem d_Mac_execute_175 : decode b_Mac_execute 175 = .ok (.aload_n 0, 1) := by decide +kernel
theorem d_Mac_execute_176 : decode b_Mac_execute 176 = .ok (.getfield 73, 3) := by decide +kernel
theorem d_Mac_execute_179 : decode b_Mac_execute 179 = .ok (.sipush 128, 3) := by decide +kernel
theorem d_Mac_execute_182 : decode b_Mac_execute 182 = .ok (.if_icmp .ge 10, 3) := by decide +kernel
theorem d_Mac_execute_185 : decode b_Mac_execute 185 = .ok (.aload_n 0, 1) := by decide +kernel
theorem d_Mac_execute_186 : decode b_Mac_execute 186 = .ok (.invokevirtual 138, 3) := by decide +kernel
theorem d_Mac_execute_189 : decode b_Mac_execute 189 = .ok (.goto 63, 3) := by decide +kernel
theorem d_Mac_execute_192 : decode b_Mac_execute 192 = .ok (.aload_n 0, 1) := by decide +kernel
theorem d_Mac_execute_193 : decode b_Mac_execute 193 = .ok (.getfield 73, 3) := by decide +kernel
theorem d_Mac_execute_196 : decode b_Mac_execute 196 = .ok (.sipush 224, 3) := by decide +kernel
theorem d_Mac_execute_199 : decode b_Mac_execute 199 = .ok (.if_icmp .ge 38, 3) := by decide +kernel
theorem d_Mac_execute_202 : decode b_Mac_execute 202 = .ok (.aload_n 0, 1) := by decide +kernel
theorem d_Mac_execute_203 : decode b_Mac_execute 203 = .ok (.getfield 13, 3) := by decide +kernel
theorem d_Mac_execute_206 : decode b_Mac_execute 206 = .ok (.aload_n 0, 1) := by decide +kernel
theorem d_Mac_execute_207 : decode b_Mac_execute 207 = .ok (.getfield 76, 3) := by decide +kernel
theorem d_Mac_execute_210 : decode b_Mac_execute 210 = .ok (.aload_n 0, 1) := by decide +kernel
theorem d_Mac_execute_211 : decode b_Mac_execute 211 = .ok (.getfield 73, 3) := by decide +kernel
theorem d_Mac_execute_214 : decode b_Mac_execute 214 = .ok (.sipush 208, 3) := by decide +kernel
theorem d_Mac_execute_217 : decode b_Mac_execute 217 = .ok (.if_icmp .ge 10, 3) := by decide +kernel
theorem d_Mac_execute_220 : decode b_Mac_execute 220 = .ok (.aload_n 0, 1) := by decide +kernel
theorem d_Mac_execute_221 : decode b_Mac_execute 221 = .ok (.invokevirtual 141, 3) := by decide +kernel
theorem d_Mac_execute_224 : decode b_Mac_execute 224 = .ok (.goto 7, 3) := by decide +kernel
theorem d_Mac_execute_227 : decode b_Mac_execute 227 = .ok (.aload_n 0, 1) := by decide +kernel
theorem d_Mac_execute_228 : decode b_Mac_execute 228 = .ok (.invokevirtual 144, 3) := by decide +kernel
theorem d_Mac_execute_231 : decode b_Mac_execute 231 = .ok (.invokevirtual 110, 3) := by decide +kernel
theorem d_Mac_execute_234 : decode b_Mac_execute 234 = .ok (.goto 18, 3) := by decide +kernel
theorem d_Mac_execute_237 : decode b_Mac_execute 237 = .ok (.aload_n 0, 1) := by decide +kernel
theorem d_Mac_execute_238 : decode b_Mac_execute 238 = .ok (.getfield 13, 3) := by decide +kernel
theorem d_Mac_execute_241 : decode b_Mac_execute 241 = .ok (.aload_n 0, 1) := by decide +kernel
theorem d_Mac_execute_242 : decode b_Mac_execute 242 = .ok (.getfield 76, 3) := by decide +kernel
theorem d_Mac_execute_245 : decode b_Mac_execute 245 = .ok (.aload_n 0, 1) := by decide +kernel
theorem d_Mac_execute_246 : decode b_Mac_execute 246 = .ok (.invokevirtual 147, 3) := by decide +kernel
theorem d_Mac_execute_249 : decode b_Mac_execute 249 = .ok (.invokevirtual 110, 3) := by decide +kernel
theorem d_Mac_execute_252 : decode b_Mac_execute 252 = .ok (.iconst 0, 1) := by decide +kernel
theorem d_Mac_execute_253 : decode b_Mac_execute 253 = .ok (.ireturn, 1) := by decide +kernel
theorem d_Mac_go_0 : decode b_Mac_go 0 = .ok (.iconst 0, 1) := by decide +kernel
theorem d_Mac_go_1 : decode b_Mac_go 1 = .ok (.istore_n 2, 1) := by decide +kernel
theorem d_Mac_go_2 : decode b_Mac_go 2 = .ok (.iconst 0, 1) := by decide +kernel
theorem d_Mac_go_3 : decode b_Mac_go 3 = .ok (.istore_n 3, 1) := by decide +kernel
theorem d_Mac_go_4 : decode b_Mac_go 4 = .ok (.iload_n 3, 1) := by decide +kernel
theorem d_Mac_go_5 : decode b_Mac_go 5 = .ok (.iload_n 1, 1) := by decide +kernel
theorem d_Mac_go_6 : decode b_Mac_go 6 = .ok (.if_icmp .ge 30, 3) := by decide +kernel
theorem d_Mac_go_9 : decode b_Mac_go 9 = .ok (.aload_n 0, 1) := by decide +kernel
theorem d_Mac_go_10 : decode b_Mac_go 10 = .ok (.getfield 28, 3) := by decide +kernel
theorem d_Mac_go_13 : decode b_Mac_go 13 = .ok (.ifCond .ne 23, 3) := by decide +kernel
theorem d_Mac_go_16 : decode b_Mac_go 16 = .ok (.aload_n 0, 1) := by decide +kernel
theorem d_Mac_go_17 : decode b_Mac_go 17 = .ok (.invokevirtual 38, 3) := by decide +kernel
theorem d_Mac_go_20 : decode b_Mac_go 20 = .ok (.aload_n 0, 1) := by decide +kernel
theorem d_Mac_go_21 : decode b_Mac_go 21 = .ok (.getfield 28, 3) := by decide +kernel
theorem d_Mac_go_24 : decode b_Mac_go 24 = .ok (.ifCond .ne 6, 3) := by decide +kernel
theorem d_Mac_go_27 : decode b_Mac_go 27 = .ok (.iinc 2 1, 3) := by decide +kernel
theorem d_Mac_go_30 : decode b_Mac_go 30 = .ok (.iinc 3 1, 3) := by decide +kernel
theorem d_Mac_go_33 : decode b_Mac_go 33 = .ok (.goto (-29), 3) := by decide +kernel
theorem d_Mac_go_36 : decode b_Mac_go 36 = .ok (.iload_n 2, 1) := by decide +kernel
theorem d_Mac_go_37 : decode b_Mac_go 37 = .ok (.ireturn, 1) := by decide +kernel
theorem d_Mac_setBack_0 : decode b_Mac_setBack 0 = .ok (.aload_n 0, 1) := by decide +kernel
theorem d_Mac_setBack_1 : decode b_Mac_setBack 1 = .ok (.getfield 13, 3) := by decide +kernel
theorem d_Mac_setBack_4 : decode b_Mac_setBack 4 = .ok (.invokevirtual 23, 3) := by decide +kernel
theorem d_Mac_setBack_7 : decode b_Mac_setBack 7 = .ok (.aload_n 0, 1) := by decide +kernel
theorem d_Mac_setBack_8 : decode b_Mac_setBack 8 = .ok (.ldc2_w 17, 3) := by decide +kernel
theorem d_Mac_setBack_11 : decode b_Mac_setBack 11 = .ok (.putfield 19, 3) := by decide +kernel
theorem d_Mac_setBack_14 : decode b_Mac_setBack 14 = .ok (.aload_n 0, 1) := by decide +kernel
theorem d_Mac_setBack_15 : decode b_Mac_setBack 15 = .ok (.iconst 0, 1) := by decide +kernel
theorem d_Mac_setBack_16 : decode b_Mac_setBack 16 = .ok (.putfield 28, 3) := by decide +kernel
theorem d_Mac_setBack_19 : decode b_Mac_setBack 19 = .ok (.aload_n 0, 1) := by decide +kernel
theorem d_Mac_setBack_20 : decode b_Mac_setBack 20 = .ok (.iconst 0, 1) := by decide +kernel
theorem d_Mac_setBack_21 : decode b_Mac_setBack 21 = .ok (.putfield 32, 3) := by decide +kernel
theorem d_Mac_setBack_24 : decode b_Mac_setBack 24 = .ok (.aload_n 0, 1) := by decide +kernel
theorem d_Mac_setBack_25 : decode b_Mac_setBack 25 = .ok (.iconst 0, 1) := by decide +kernel
theorem d_Mac_setBack_26 : decode b_Mac_setBack 26 = .ok (.putfield 35, 3) := by decide +kernel
theorem d_Mac_setBack_29 : decode b_Mac_setBack 29 = .ok (.return_, 1) := by decide +kernel
theorem d_Mac_step_0 : decode b_Mac_step 0 = .ok (.aload_n 0, 1) := by decide +kernel
theorem d_Mac_step_1 : decode b_Mac_step 1 = .ok (.getfield 7, 3) := by decide +kernel
theorem d_Mac_step_4 : decode b_Mac_step 4 = .ok (.aload_n 0, 1) := by decide +kernel
theorem d_Mac_step_5 : decode b_Mac_step 5 = .ok (.getfield 19, 3) := by decide +kernel
theorem d_Mac_step_8 : decode b_Mac_step 8 = .ok (.iconst 4, 1) := by decide +kernel
theorem d_Mac_step_9 : decode b_Mac_step 9 = .ok (.invokevirtual 41, 3) := by decide +kernel
theorem d_Mac_step_12 : decode b_Mac_step 12 = .ok (.ifCond .ne 9, 3) := by decide +kernel
theorem d_Mac_step_15 : decode b_Mac_step 15 = .ok (.aload_n 0, 1) := by decide +kernel
theorem d_Mac_step_16 : decode b_Mac_step 16 = .ok (.iconst 4, 1) := by decide +kernel
theorem d_Mac_step_17 : decode b_Mac_step 17 = .ok (.putfield 28, 3) := by decide +kernel
theorem d_Mac_step_20 : decode b_Mac_step 20 = .ok (.return_, 1) := by decide +kernel
theorem d_Mac_step_21 : decode b_Mac_step 21 = .ok (.aload_n 0, 1) := by decide +kernel
theorem d_Mac_step_22 : decode b_Mac_step 22 = .ok (.invokevirtual 47, 3) := by decide +kernel
theorem d_Mac_step_25 : decode b_Mac_step 25 = .ok (.aload_n 0, 1) := by decide +kernel
theorem d_Mac_step_26 : decode b_Mac_step 26 = .ok (.aload_n 0, 1) := by decide +kernel
theorem d_Mac_step_27 : decode b_Mac_step 27 = .ok (.invokevirtual 50, 3) := by decide +kernel
theorem d_Mac_step_30 : decode b_Mac_step 30 = .ok (.putfield 28, 3) := by decide +kernel
theorem d_Mac_step_33 : decode b_Mac_step 33 = .ok (.aload_n 0, 1) := by decide +kernel
theorem d_Mac_step_34 : decode b_Mac_step 34 = .ok (.getfield 28, 3) := by decide +kernel
theorem d_Mac_step_37 : decode b_Mac_step 37 = .ok (.ifCond .eq 4, 3) := by decide +kernel
theorem d_Mac_step_40 : decode b_Mac_step 40 = .ok (.return_, 1) := by decide +kernel
theorem d_Mac_step_41 : decode b_Mac_step 41 = .ok (.aload_n 0, 1) := by decide +kernel
theorem d_Mac_step_42 : decode b_Mac_step 42 = .ok (.getfield 54, 3) := by decide +kernel
theorem d_Mac_step_45 : decode b_Mac_step 45 = .ok (.ifCond .eq 7, 3) := by decide +kernel
theorem d_Mac_step_48 : decode b_Mac_step 48 = .ok (.aload_n 0, 1) := by decide +kernel
theorem d_Mac_step_49 : decode b_Mac_step 49 = .ok (.invokevirtual 57, 3) := by decide +kernel
theorem d_Mac_step_52 : decode b_Mac_step 52 = .ok (.aload_n 0, 1) := by decide +kernel
theorem d_Mac_step_53 : decode b_Mac_step 53 = .ok (.aload_n 0, 1) := by decide +kernel
theorem d_Mac_step_54 : decode b_Mac_step 54 = .ok (.getfield 60, 3) := by decide +kernel
theorem d_Mac_step_57 : decode b_Mac_step 57 = .ok (.putfield 19, 3) := by decide +kernel
theorem d_Mac_step_60 : decode b_Mac_step 60 = .ok (.aload_n 0, 1) := by decide +kernel
theorem d_Mac_step_61 : decode b_Mac_step 61 = .ok (.dup, 1) := by decide +kernel
theorem d_Mac_step_62 : decode b_Mac_step 62 = .ok (.getfield 32, 3) := by decide +kernel
theorem d_Mac_step_65 : decode b_Mac_step 65 = .ok (.aload_n 0, 1) := by decide +kernel
theorem d_Mac_step_66 : decode b_Mac_step 66 = .ok (.getfield 63, 3) := by decide +kernel
theorem d_Mac_step_69 : decode b_Mac_step 69 = .ok (.iadd, 1) := by decide +kernel
theorem d_Mac_step_70 : decode b_Mac_step 70 = .ok (.putfield 32, 3) := by decide +kernel
theorem d_Mac_step_73 : decode b_Mac_step 73 = .ok (.return_, 1) := by decide +kernel
