theorem d_Mod_pop_120 : decode b_Mod_pop 120 = .ok (.iconst 1, 1) := by decide +kernel
theorem d_Mod_pop_121 : decode b_Mod_pop 121 = .ok (.isub, 1) := by decide +kernel
theorem d_Mod_pop_122 : decode b_Mod_pop 122 = .ok (.if_icmp .ge 26, 3) := by decide +kernel
theorem d_Mod_pop_125 : decode b_Mod_pop 125 = .ok (.aload_n 0, 1) := by decide +kernel
theorem d_Mod_pop_126 : decode b_Mod_pop 126 = .ok (.getfield 52, 3) := by decide +kernel
theorem d_Mod_pop_129 : decode b_Mod_pop 129 = .ok (.iload 4, 2) := by decide +kernel
theorem d_Mod_pop_131 : decode b_Mod_pop 131 = .ok (.aload_n 0, 1) := by decide +kernel
theorem d_Mod_pop_132 : decode b_Mod_pop 132 = .ok (.getfield 43, 3) := by decide +kernel
theorem d_Mod_pop_135 : decode b_Mod_pop 135 = .ok (.iload 5, 2) := by decide +kernel
theorem d_Mod_pop_137 : decode b_Mod_pop 137 = .ok (.laload, 1) := by decide +kernel
theorem d_Mod_pop_138 : decode b_Mod_pop 138 = .ok (.lastore, 1) := by decide +kernel
theorem d_Mod_pop_139 : decode b_Mod_pop 139 = .ok (.iinc 4 1, 3) := by decide +kernel
theorem d_Mod_pop_142 : decode b_Mod_pop 142 = .ok (.iinc 5 1, 3) := by decide +kernel
theorem d_Mod_pop_145 : decode b_Mod_pop 145 = .ok (.goto (-28), 3) := by decide +kernel
theorem d_Mod_pop_148 : decode b_Mod_pop 148 = .ok (.aload_n 0, 1) := by decide +kernel
theorem d_Mod_pop_149 : decode b_Mod_pop 149 = .ok (.dup, 1) := by decide +kernel
theorem d_Mod_pop_150 : decode b_Mod_pop 150 = .ok (.getfield 61, 3) := by decide +kernel
theorem d_Mod_pop_153 : decode b_Mod_pop 153 = .ok (.iload_n 3, 1) := by decide +kernel
theorem d_Mod_pop_154 : decode b_Mod_pop 154 = .ok (.iconst 1, 1) := by decide +kernel
theorem d_Mod_pop_155 : decode b_Mod_pop 155 = .ok (.iadd, 1) := by decide +kernel
theorem d_Mod_pop_156 : decode b_Mod_pop 156 = .ok (.isub, 1) := by decide +kernel
theorem d_Mod_pop_157 : decode b_Mod_pop 157 = .ok (.putfield 61, 3) := by decide +kernel
theorem d_Mod_pop_160 : decode b_Mod_pop 160 = .ok (.aload_n 0, 1) := by decide +kernel
theorem d_Mod_pop_161 : decode b_Mod_pop 161 = .ok (.iload 4, 2) := by decide +kernel
theorem d_Mod_pop_163 : decode b_Mod_pop 163 = .ok (.aload_n 0, 1) := by decide +kernel
theorem d_Mod_pop_164 : decode b_Mod_pop 164 = .ok (.getfield 67, 3) := by decide +kernel
theorem d_Mod_pop_167 : decode b_Mod_pop 167 = .ok (.if_icmp .ge 8, 3) := by decide +kernel
theorem d_Mod_pop_170 : decode b_Mod_pop 170 = .ok (.iload 4, 2) := by decide +kernel
theorem d_Mod_pop_172 : decode b_Mod_pop 172 = .ok (.goto 7, 3) := by decide +kernel
theorem d_Mod_pop_175 : decode b_Mod_pop 175 = .ok (.aload_n 0, 1) := by decide +kernel
theorem d_Mod_pop_176 : decode b_Mod_pop 176 = .ok (.getfield 67, 3) := by decide +kernel
theorem d_Mod_pop_179 : decode b_Mod_pop 179 = .ok (.putfield 64, 3) := by decide +kernel
theorem d_Mod_pop_182 : decode b_Mod_pop 182 = .ok (.iconst 0, 1) := by decide +kernel
theorem d_Mod_pop_183 : decode b_Mod_pop 183 = .ok (.istore 5, 2) := by decide +kernel
theorem d_Mod_pop_185 : decode b_Mod_pop 185 = .ok (.iload 5, 2) := by decide +kernel
theorem d_Mod_pop_187 : decode b_Mod_pop 187 = .ok (.aload_n 0, 1) := by decide +kernel
theorem d_Mod_pop_188 : decode b_Mod_pop 188 = .ok (.getfield 64, 3) := by decide +kernel
theorem d_Mod_pop_191 : decode b_Mod_pop 191 = .ok (.if_icmp .ge 23, 3) := by decide +kernel
theorem d_Mod_pop_194 : decode b_Mod_pop 194 = .ok (.aload_n 0, 1) := by decide +kernel
theorem d_Mod_pop_195 : decode b_Mod_pop 195 = .ok (.getfield 43, 3) := by decide +kernel
theorem d_Mod_pop_198 : decode b_Mod_pop 198 = .ok (.iload 5, 2) := by decide +kernel
theorem d_Mod_pop_200 : decode b_Mod_pop 200 = .ok (.aload_n 0, 1) := by decide +kernel
theorem d_Mod_pop_201 : decode b_Mod_pop 201 = .ok (.getfield 52, 3) := by decide +kernel
theorem d_Mod_pop_204 : decode b_Mod_pop 204 = .ok (.iload 5, 2) := by decide +kernel
theorem d_Mod_pop_206 : decode b_Mod_pop 206 = .ok (.laload, 1) := by decide +kernel
theorem d_Mod_pop_207 : decode b_Mod_pop 207 = .ok (.lastore, 1) := by decide +kernel
theorem d_Mod_pop_208 : decode b_Mod_pop 208 = .ok (.iinc 5 1, 3) := by decide +kernel
theorem d_Mod_pop_211 : decode b_Mod_pop 211 = .ok (.goto (-26), 3) := by decide +kernel
theorem d_Mod_pop_214 : decode b_Mod_pop 214 = .ok (.return_, 1) := by decide +kernel
theorem d_Mod_push_0 : decode b_Mod_push 0 = .ok (.iload_n 1, 1) := by decide +kernel
theorem d_Mod_push_1 : decode b_Mod_push 1 = .ok (.aload_n 0, 1) := by decide +kernel
theorem d_Mod_push_2 : decode b_Mod_push 2 = .ok (.getfield 67, 3) := by decide +kernel
theorem d_Mod_push_5 : decode b_Mod_push 5 = .ok (.if_icmp .ge 7, 3) := by decide +kernel
theorem d_Mod_push_8 : decode b_Mod_push 8 = .ok (.iload_n 1, 1) := by decide +kernel
theorem d_Mod_push_9 : decode b_Mod_push 9 = .ok (.goto 7, 3) := by decide +kernel
theorem d_Mod_push_12 : decode b_Mod_push 12 = .ok (.aload_n 0, 1) := by decide +kernel
theorem d_Mod_push_13 : decode b_Mod_push 13 = .ok (.getfield 64, 3) := by decide +kernel
theorem d_Mod_push_16 : decode b_Mod_push 16 = .ok (.istore_n 2, 1) := by decide +kernel
theorem d_Mod_push_17 : decode b_Mod_push 17 = .ok (.aload_n 0, 1) := by decide +kernel
theorem d_Mod_push_18 : decode b_Mod_push 18 = .ok (.getfield 61, 3) := by decide +kernel
theorem d_Mod_push_21 : decode b_Mod_push 21 = .ok (.iload_n 2, 1) := by decide +kernel
theorem d_Mod_push_22 : decode b_Mod_push 22 = .ok (.iadd, 1) := by decide +kernel
theorem d_Mod_push_23 : decode b_Mod_push 23 = .ok (.iconst 1, 1) := by decide +kernel
theorem d_Mod_push_24 : decode b_Mod_push 24 = .ok (.iadd, 1) := by decide +kernel
theorem d_Mod_push_25 : decode b_Mod_push 25 = .ok (.sipush 300, 3) := by decide +kernel
theorem d_Mod_push_28 : decode b_Mod_push 28 = .ok (.if_icmp .le 5, 3) := by decide +kernel
theorem d_Mod_push_31 : decode b_Mod_push 31 = .ok (.iconst 0, 1) := by decide +kernel
theorem d_Mod_push_32 : decode b_Mod_push 32 = .ok (.ireturn, 1) := by decide +kernel
theorem d_Mod_push_33 : decode b_Mod_push 33 = .ok (.iconst 0, 1) := by decide +kernel
theorem d_Mod_push_34 : decode b_Mod_push 34 = .ok (.istore_n 3, 1) := by decide +kernel
theorem d_Mod_push_35 : decode b_Mod_push 35 = .ok (.iload_n 3, 1) := by decide +kernel
theorem d_Mod_push_36 : decode b_Mod_push 36 = .ok (.iload_n 2, 1) := by decide +kernel
theorem d_Mod_push_37 : decode b_Mod_push 37 = .ok (.if_icmp .ge 38, 3) := by decide +kernel
theorem d_Mod_push_40 : decode b_Mod_push 40 = .ok (.aload_n 0, 1) := by decide +kernel
theorem d_Mod_push_41 : decode b_Mod_push 41 = .ok (.getfield 49, 3) := by decide +kernel
theorem d_Mod_push_44 : decode b_Mod_push 44 = .ok (.aload_n 0, 1) := by decide +kernel
theorem d_Mod_push_45 : decode b_Mod_push 45 = .ok (.getfield 61, 3) := by decide +kernel
theorem d_Mod_push_48 : decode b_Mod_push 48 = .ok (.iload_n 3, 1) := by decide +kernel
theorem d_Mod_push_49 : decode b_Mod_push 49 = .ok (.iadd, 1) := by decide +kernel
theorem d_Mod_push_50 : decode b_Mod_push 50 = .ok (.iload_n 3, 1) := by decide +kernel
theorem d_Mod_push_51 : decode b_Mod_push 51 = .ok (.aload_n 0, 1) := by decide +kernel
theorem d_Mod_push_52 : decode b_Mod_push 52 = .ok (.getfield 64, 3) := by decide +kernel
theorem d_Mod_push_55 : decode b_Mod_push 55 = .ok (.if_icmp .ge 12, 3) := by decide +kernel
theorem d_Mod_push_58 : decode b_Mod_push 58 = .ok (.aload_n 0, 1) := by decide +kernel
theorem d_Mod_push_59 : decode b_Mod_push 59 = .ok (.getfield 43, 3) := by decide +kernel
theorem d_Mod_push_62 : decode b_Mod_push 62 = .ok (.iload_n 3, 1) := by decide +kernel
theorem d_Mod_push_63 : decode b_Mod_push 63 = .ok (.laload, 1) := by decide +kernel
theorem d_Mod_push_64 : decode b_Mod_push 64 = .ok (.goto 4, 3) := by decide +kernel
theorem d_Mod_push_67 : decode b_Mod_push 67 = .ok (.lconst 0, 1) := by decide +kernel
theorem d_Mod_push_68 : decode b_Mod_push 68 = .ok (.lastore, 1) := by decide +kernel
theorem d_Mod_push_69 : decode b_Mod_push 69 = .ok (.iinc 3 1, 3) := by decide +kernel
theorem d_Mod_push_72 : decode b_Mod_push 72 = .ok (.goto (-37), 3) := by decide +kernel
theorem d_Mod_push_75 : decode b_Mod_push 75 = .ok (.aload_n 0, 1) := by decide +kernel
theorem d_Mod_push_76 : decode b_Mod_push 76 = .ok (.getfield 49, 3) := by decide +kernel
theorem d_Mod_push_79 : decode b_Mod_push 79 = .ok (.aload_n 0, 1) := by decide +kernel
theorem d_Mod_push_80 : decode b_Mod_push 80 = .ok (.getfield 61, 3) := by decide +kernel
theorem d_Mod_push_83 : decode b_Mod_push 83 = .ok (.iload_n 2, 1) := by decide +kernel
theorem d_Mod_push_84 : decode b_Mod_push 84 = .ok (.iadd, 1) := by decide +kernel
theorem d_Mod_push_85 : decode b_Mod_push 85 = .ok (.iload_n 2, 1) := by decide +kernel
theorem d_Mod_push_86 : decode b_Mod_push 86 = .ok (.i2l, 1) := by decide +kernel
theorem d_Mod_push_87 : decode b_Mod_push 87 = .ok (.lastore, 1) := by decide +kernel
theorem d_Mod_push_88 : decode b_Mod_push 88 = .ok (.aload_n 0, 1) := by decide +kernel
theorem d_Mod_push_89 : decode b_Mod_push 89 = .ok (.dup, 1) := by decide +kernel
theorem d_Mod_push_90 : decode b_Mod_push 90 = .ok (.getfield 61, 3) := by decide +kernel
theorem d_Mod_push_93 : decode b_Mod_push 93 = .ok (.iload_n 2, 1) := by decide +kernel
theorem d_Mod_push_94 : decode b_Mod_push 94 = .ok (.iconst 1, 1) := by decide +kernel
theorem d_Mod_push_95 : decode b_Mod_push 95 = .ok (.iadd, 1) := by decide +kernel
theorem d_Mod_push_96 : decode b_Mod_push 96 = .ok (.iadd, 1) := by decide +kernel
theorem d_Mod_push_97 : decode b_Mod_push 97 = .ok (.putfield 61, 3) := by decide +kernel
theorem d_Mod_push_100 : decode b_Mod_push 100 = .ok (.aload_n 0, 1) := by decide +kernel
theorem d_Mod_push_101 : decode b_Mod_push 101 = .ok (.getfield 64, 3) := by decide +kernel
theorem d_Mod_push_104 : decode b_Mod_push 104 = .ok (.iload_n 2, 1) := by decide +kernel
theorem d_Mod_push_105 : decode b_Mod_push 105 = .ok (.isub, 1) := by decide +kernel
theorem d_Mod_push_106 : decode b_Mod_push 106 = .ok (.iconst 1, 1) := by decide +kernel
theorem d_Mod_push_107 : decode b_Mod_push 107 = .ok (.isub, 1) := by decide +kernel
theorem d_Mod_push_108 : decode b_Mod_push 108 = .ok (.istore_n 3, 1) := by decide +kernel
theorem d_Mod_push_109 : decode b_Mod_push 109 = .ok (.iconst 0, 1) := by decide +kernel
theorem d_Mod_push_110 : decode b_Mod_push 110 = .ok (.istore 4, 2) := by decide +kernel
theorem d_Mod_push_112 : decode b_Mod_push 112 = .ok (.iload 4, 2) := by decide +kernel
theorem d_Mod_push_114 : decode b_Mod_push 114 = .ok (.iload_n 3, 1) := by decide +kernel
theorem d_Mod_push_115 : decode b_Mod_push 115 = .ok (.if_icmp .ge 27, 3) := by decide +kernel
theorem d_Mod_push_118 : decode b_Mod_push 118 = .ok (.aload_n 0, 1) := by decide +kernel
theorem d_Mod_push_119 : decode b_Mod_push 119 = .ok (.getfield 43, 3) := by decide +kernel
theorem d_Mod_push_122 : decode b_Mod_push 122 = .ok (.iload 4, 2) := by decide +kernel
theorem d_Mod_push_124 : decode b_Mod_push 124 = .ok (.aload_n 0, 1) := by decide +kernel
theorem d_Mod_push_125 : decode b_Mod_push 125 = .ok (.getfield 43, 3) := by decide +kernel
theorem d_Mod_push_128 : decode b_Mod_push 128 = .ok (.iload_n 2, 1) := by decide +kernel
theorem d_Mod_push_129 : decode b_Mod_push 129 = .ok (.iconst 1, 1) := by decide +kernel
theorem d_Mod_push_130 : decode b_Mod_push 130 = .ok (.iadd, 1) := by decide +kernel
theorem d_Mod_push_131 : decode b_Mod_push 131 = .ok (.iload 4, 2) := by decide +kernel
theorem d_Mod_push_133 : decode b_Mod_push 133 = .ok (.iadd, 1) := by decide +kernel
theorem d_Mod_push_134 : decode b_Mod_push 134 = .ok (.laload, 1) := by decide +kernel
theorem d_Mod_push_135 : decode b_Mod_push 135 = .ok (.lastore, 1) := by decide +kernel
theorem d_Mod_push_136 : decode b_Mod_push 136 = .ok (.iinc 4 1, 3) := by decide +kernel
theorem d_Mod_push_139 : decode b_Mod_push 139 = .ok (.goto (-27), 3) := by decide +kernel
theorem d_Mod_push_142 : decode b_Mod_push 142 = .ok (.aload_n 0, 1) := by decide +kernel
theorem d_Mod_push_143 : decode b_Mod_push 143 = .ok (.iload_n 3, 1) := by decide +kernel
theorem d_Mod_push_144 : decode b_Mod_push 144 = .ok (.ifCond .le 7, 3) := by decide +kernel
theorem d_Mod_push_147 : decode b_Mod_push 147 = .ok (.iload_n 3, 1) := by decide +kernel
theorem d_Mod_push_148 : decode b_Mod_push 148 = .ok (.goto 4, 3) := by decide +kernel
theorem d_Mod_push_151 : decode b_Mod_push 151 = .ok (.iconst 0, 1) := by decide +kernel
theorem d_Mod_push_152 : decode b_Mod_push 152 = .ok (.putfield 64, 3) := by decide +kernel
theorem d_Mod_push_155 : decode b_Mod_push 155 = .ok (.iconst 1, 1) := by decide +kernel
theorem d_Mod_push_156 : decode b_Mod_push 156 = .ok (.ireturn, 1) := by decide +kernel
theorem d_Mod_reckon_0 : decode b_Mod_reckon 0 = .ok (.iload_n 1, 1) := by decide +kernel
theorem d_Mod_reckon_1 : decode b_Mod_reckon 1 = .ok (.tableswitch 368 24 62 #[171, 368, 179, 368, 201, 368, 209, 368, 217, 368, 226, 368, 231, 368, 240, 368, 245, 368, 245, 368, 245, 368, 245, 368, 280, 368, 306, 368, 368, 368, 368, 368, 334, 368, 343, 368, 352, 368, 360], 171) := by decide +kernel
theorem d_Mod_reckon_172 : decode b_Mod_reckon 172 = .ok (.aload_n 0, 1) := by decide +kernel
theorem d_Mod_reckon_173 : decode b_Mod_reckon 173 = .ok (.lload_n 2, 1) := by decide +kernel
theorem d_Mod_reckon_174 : decode b_Mod_reckon 174 = .ok (.lload 4, 2) := by decide +kernel
theorem d_Mod_reckon_176 : decode b_Mod_reckon 176 = .ok (.invokevirtual 356, 3) := by decide +kernel
theorem d_Mod_reckon_179 : decode b_Mod_reckon 179 = .ok (.lreturn, 1) := by decide +kernel
theorem d_Mod_reckon_180 : decode b_Mod_reckon 180 = .ok (.aload_n 0, 1) := by decide +kernel
theorem d_Mod_reckon_181 : decode b_Mod_reckon 181 = .ok (.lload_n 2, 1) := by decide +kernel
theorem d_Mod_reckon_182 : decode b_Mod_reckon 182 = .ok (.lload 4, 2) := by decide +kernel
theorem d_Mod_reckon_184 : decode b_Mod_reckon 184 = .ok (.invokevirtual 332, 3) := by decide +kernel
theorem d_Mod_reckon_187 : decode b_Mod_reckon 187 = .ok (.lstore 6, 2) := by decide +kernel
theorem d_Mod_reckon_189 : decode b_Mod_reckon 189 = .ok (.aload_n 0, 1) := by decide +kernel
theorem d_Mod_reckon_190 : decode b_Mod_reckon 190 = .ok (.getfield 46, 3) := by decide +kernel
theorem d_Mod_reckon_193 : decode b_Mod_reckon 193 = .ok (.iconst 3, 1) := by decide +kernel
theorem d_Mod_reckon_194 : decode b_Mod_reckon 194 = .ok (.aload_n 0, 1) := by decide +kernel
theorem d_Mod_reckon_195 : decode b_Mod_reckon 195 = .ok (.getfield 307, 3) := by decide +kernel
theorem d_Mod_reckon_198 : decode b_Mod_reckon 198 = .ok (.lastore, 1) := by decide +kernel
theorem d_Mod_reckon_199 : decode b_Mod_reckon 199 = .ok (.lload 6, 2) := by decide +kernel
theorem d_Mod_reckon_201 : decode b_Mod_reckon 201 = .ok (.lreturn, 1) := by decide +kernel
theorem d_Mod_reckon_202 : decode b_Mod_reckon 202 = .ok (.aload_n 0, 1) := by decide +kernel
theorem d_Mod_reckon_203 : decode b_Mod_reckon 203 = .ok (.lload_n 2, 1) := by decide +kernel
theorem d_Mod_reckon_204 : decode b_Mod_reckon 204 = .ok (.lload 4, 2) := by decide +kernel
theorem d_Mod_reckon_206 : decode b_Mod_reckon 206 = .ok (.invokevirtual 359, 3) := by decide +kernel
theorem d_Mod_reckon_209 : decode b_Mod_reckon 209 = .ok (.lreturn, 1) := by decide +kernel
theorem d_Mod_reckon_210 : decode b_Mod_reckon 210 = .ok (.aload_n 0, 1) := by decide +kernel
theorem d_Mod_reckon_211 : decode b_Mod_reckon 211 = .ok (.lload_n 2, 1) := by decide +kernel
theorem d_Mod_reckon_212 : decode b_Mod_reckon 212 = .ok (.lload 4, 2) := by decide +kernel
theorem d_Mod_reckon_214 : decode b_Mod_reckon 214 = .ok (.invokevirtual 362, 3) := by decide +kernel
theorem d_Mod_reckon_217 : decode b_Mod_reckon 217 = .ok (.lreturn, 1) := by decide +kernel
theorem d_Mod_reckon_218 : decode b_Mod_reckon 218 = .ok (.aload_n 0, 1) := by decide +kernel
theorem d_Mod_reckon_219 : decode b_Mod_reckon 219 = .ok (.lload_n 2, 1) := by decide +kernel
theorem d_Mod_reckon_220 : decode b_Mod_reckon 220 = .ok (.lload 4, 2) := by decide +kernel
theorem d_Mod_reckon_222 : decode b_Mod_reckon 222 = .ok (.iconst 0, 1) := by decide +kernel
theorem d_Mod_reckon_223 : decode b_Mod_reckon 223 = .ok (.invokevirtual 365, 3) := by decide +kernel
theorem d_Mod_reckon_226 : decode b_Mod_reckon 226 = .ok (.lreturn, 1) := by decide +kernel
theorem d_Mod_reckon_227 : decode b_Mod_reckon 227 = .ok (.lload_n 2, 1) := by decide +kernel
theorem d_Mod_reckon_228 : decode b_Mod_reckon 228 = .ok (.lload 4, 2) := by decide +kernel
theorem d_Mod_reckon_230 : decode b_Mod_reckon 230 = .ok (.ladd, 1) := by decide +kernel
theorem d_Mod_reckon_231 : decode b_Mod_reckon 231 = .ok (.lreturn, 1) := by decide +kernel
theorem d_Mod_reckon_232 : decode b_Mod_reckon 232 = .ok (.aload_n 0, 1) := by decide +kernel
theorem d_Mod_reckon_233 : decode b_Mod_reckon 233 = .ok (.lload_n 2, 1) := by decide +kernel
theorem d_Mod_reckon_234 : decode b_Mod_reckon 234 = .ok (.lload 4, 2) := by decide +kernel
theorem d_Mod_reckon_236 : decode b_Mod_reckon 236 = .ok (.iconst 1, 1) := by decide +kernel
theorem d_Mod_reckon_237 : decode b_Mod_reckon 237 = .ok (.invokevirtual 365, 3) := by decide +kernel
theorem d_Mod_reckon_240 : decode b_Mod_reckon 240 = .ok (.lreturn, 1) := by decide +kernel
theorem d_Mod_reckon_241 : decode b_Mod_reckon 241 = .ok (.lload_n 2, 1) := by decide +kernel
theorem d_Mod_reckon_242 : decode b_Mod_reckon 242 = .ok (.lload 4, 2) := by decide +kernel
theorem d_Mod_reckon_244 : decode b_Mod_reckon 244 = .ok (.lsub, 1) := by decide +kernel
theorem d_Mod_reckon_245 : decode b_Mod_reckon 245 = .ok (.lreturn, 1) := by decide +kernel
theorem d_Mod_reckon_246 : decode b_Mod_reckon 246 = .ok (.lload 4, 2) := by decide +kernel
theorem d_Mod_reckon_248 : decode b_Mod_reckon 248 = .ok (.lstore 6, 2) := by decide +kernel
theorem d_Mod_reckon_250 : decode b_Mod_reckon 250 = .ok (.iconst 0, 1) := by decide +kernel
theorem d_Mod_reckon_251 : decode b_Mod_reckon 251 = .ok (.istore 8, 2) := by decide +kernel
theorem d_Mod_reckon_253 : decode b_Mod_reckon 253 = .ok (.iload 8, 2) := by decide +kernel
theorem d_Mod_reckon_255 : decode b_Mod_reckon 255 = .ok (.iconst 1, 1) := by decide +kernel
theorem d_Mod_reckon_256 : decode b_Mod_reckon 256 = .ok (.iload_n 1, 1) := by decide +kernel
theorem d_Mod_reckon_257 : decode b_Mod_reckon 257 = .ok (.bipush 38, 2) := by decide +kernel
theorem d_Mod_reckon_259 : decode b_Mod_reckon 259 = .ok (.isub, 1) := by decide +kernel
theorem d_Mod_reckon_260 : decode b_Mod_reckon 260 = .ok (.iconst 2, 1) := by decide +kernel
theorem d_Mod_reckon_261 : decode b_Mod_reckon 261 = .ok (.idiv, 1) := by decide +kernel
theorem d_Mod_reckon_262 : decode b_Mod_reckon 262 = .ok (.ishl, 1) := by decide +kernel
theorem d_Mod_reckon_263 : decode b_Mod_reckon 263 = .ok (.if_icmp .ge 15, 3) := by decide +kernel
theorem d_Mod_reckon_266 : decode b_Mod_reckon 266 = .ok (.lload 6, 2) := by decide +kernel
theorem d_Mod_reckon_268 : decode b_Mod_reckon 268 = .ok (.lload_n 2, 1) := by decide +kernel
theorem d_Mod_reckon_269 : decode b_Mod_reckon 269 = .ok (.ladd, 1) := by decide +kernel
theorem d_Mod_reckon_270 : decode b_Mod_reckon 270 = .ok (.lstore 6, 2) := by decide +kernel
theorem d_Mod_reckon_272 : decode b_Mod_reckon 272 = .ok (.iinc 8 1, 3) := by decide +kernel
theorem d_Mod_reckon_275 : decode b_Mod_reckon 275 = .ok (.goto (-22), 3) := by decide +kernel
theorem d_Mod_reckon_278 : decode b_Mod_reckon 278 = .ok (.lload 6, 2) := by decide +kernel
theorem d_Mod_reckon_280 : decode b_Mod_reckon 280 = .ok (.lreturn, 1) := by decide +kernel
theorem d_Mod_reckon_281 : decode b_Mod_reckon 281 = .ok (.lload_n 2, 1) := by decide +kernel
theorem d_Mod_reckon_282 : decode b_Mod_reckon 282 = .ok (.lload 4, 2) := by decide +kernel
theorem d_Mod_reckon_284 : decode b_Mod_reckon 284 = .ok (.lcmp, 1) := by decide +kernel
theorem d_Mod_reckon_285 : decode b_Mod_reckon 285 = .ok (.ifCond .ge 9, 3) := by decide +kernel
theorem d_Mod_reckon_288 : decode b_Mod_reckon 288 = .ok (.ldc2_w 301, 3) := by decide +kernel
theorem d_Mod_reckon_291 : decode b_Mod_reckon 291 = .ok (.goto 15, 3) := by decide +kernel
theorem d_Mod_reckon_294 : decode b_Mod_reckon 294 = .ok (.lload_n 2, 1) := by decide +kernel
theorem d_Mod_reckon_295 : decode b_Mod_reckon 295 = .ok (.lload 4, 2) := by decide +kernel
theorem d_Mod_reckon_297 : decode b_Mod_reckon 297 = .ok (.lcmp, 1) := by decide +kernel
theorem d_Mod_reckon_298 : decode b_Mod_reckon 298 = .ok (.ifCond .le 7, 3) := by decide +kernel
theorem d_Mod_reckon_301 : decode b_Mod_reckon 301 = .ok (.lconst 1, 1) := by decide +kernel
theorem d_Mod_reckon_302 : decode b_Mod_reckon 302 = .ok (.goto 4, 3) := by decide +kernel
theorem d_Mod_reckon_305 : decode b_Mod_reckon 305 = .ok (.lconst 0, 1) := by decide +kernel
theorem d_Mod_reckon_306 : decode b_Mod_reckon 306 = .ok (.lreturn, 1) := by decide +kernel
theorem d_Mod_reckon_307 : decode b_Mod_reckon 307 = .ok (.lload_n 2, 1) := by decide +kernel
theorem d_Mod_reckon_308 : decode b_Mod_reckon 308 = .ok (.lload 4, 2) := by decide +kernel
theorem d_Mod_reckon_310 : decode b_Mod_reckon 310 = .ok (.invokestatic 314, 3) := by decide +kernel
theorem d_Mod_reckon_313 : decode b_Mod_reckon 313 = .ok (.ifCond .ge 9, 3) := by decide +kernel
theorem d_Mod_reckon_316 : decode b_Mod_reckon 316 = .ok (.ldc2_w 301, 3) := by decide +kernel
theorem d_Mod_reckon_319 : decode b_Mod_reckon 319 = .ok (.goto 15, 3) := by decide +kernel
theorem d_Mod_reckon_322 : decode b_Mod_reckon 322 = .ok (.lload_n 2, 1) := by decide +kernel
theorem d_Mod_reckon_323 : decode b_Mod_reckon 323 = .ok (.lload 4, 2) := by decide +kernel
theorem d_Mod_reckon_325 : decode b_Mod_reckon 325 = .ok (.lcmp, 1) := by decide +kernel
theorem d_Mod_reckon_326 : decode b_Mod_reckon 326 = .ok (.ifCond .ne 7, 3) := by decide +kernel
theorem d_Mod_reckon_329 : decode b_Mod_reckon 329 = .ok (.lconst 0, 1) := by decide +kernel
theorem d_Mod_reckon_330 : decode b_Mod_reckon 330 = .ok (.goto 4, 3) := by decide +kernel
theorem d_Mod_reckon_333 : decode b_Mod_reckon 333 = .ok (.lconst 1, 1) := by decide +kernel
theorem d_Mod_reckon_334 : decode b_Mod_reckon 334 = .ok (.lreturn, 1) := by decide +kernel
theorem d_Mod_reckon_335 : decode b_Mod_reckon 335 = .ok (.aload_n 0, 1) := by decide +kernel
theorem d_Mod_reckon_336 : decode b_Mod_reckon 336 = .ok (.lload_n 2, 1) := by decide +kernel
theorem d_Mod_reckon_337 : decode b_Mod_reckon 337 = .ok (.lload 4, 2) := by decide +kernel
theorem d_Mod_reckon_339 : decode b_Mod_reckon 339 = .ok (.iconst 1, 1) := by decide +kernel
theorem d_Mod_reckon_340 : decode b_Mod_reckon 340 = .ok (.invokevirtual 368, 3) := by decide +kernel
theorem d_Mod_reckon_343 : decode b_Mod_reckon 343 = .ok (.lreturn, 1) := by decide +kernel
theorem d_Mod_reckon_344 : decode b_Mod_reckon 344 = .ok (.aload_n 0, 1) := by decide +kernel
theorem d_Mod_reckon_345 : decode b_Mod_reckon 345 = .ok (.lload_n 2, 1) := by decide +kernel
theorem d_Mod_reckon_346 : decode b_Mod_reckon 346 = .ok (.lload 4, 2) := by decide +kernel
theorem d_Mod_reckon_348 : decode b_Mod_reckon 348 = .ok (.iconst 0, 1) := by decide +kernel
theorem d_Mod_reckon_349 : decode b_Mod_reckon 349 = .ok (.invokevirtual 368, 3) := by decide +kernel
theorem d_Mod_reckon_352 : decode b_Mod_reckon 352 = .ok (.lreturn, 1) := by decide +kernel
theorem d_Mod_reckon_353 : decode b_Mod_reckon 353 = .ok (.lload_n 2, 1) := by decide +kernel
theorem d_Mod_reckon_354 : decode b_Mod_reckon 354 = .ok (.lload 4, 2) := by decide +kernel
theorem d_Mod_reckon_356 : decode b_Mod_reckon 356 = .ok (.iconst 1, 1) := by decide +kernel
theorem d_Mod_reckon_357 : decode b_Mod_reckon 357 = .ok (.invokestatic 371, 3) := by decide +kernel
theorem d_Mod_reckon_360 : decode b_Mod_reckon 360 = .ok (.lreturn, 1) := by decide +kernel
theorem d_Mod_reckon_361 : decode b_Mod_reckon 361 = .ok (.lload_n 2, 1) := by decide +kernel
theorem d_Mod_reckon_362 : decode b_Mod_reckon 362 = .ok (.lload 4, 2) := by decide +kernel
theorem d_Mod_reckon_364 : decode b_Mod_reckon 364 = .ok (.iconst 0, 1) := by decide +kernel
theorem d_Mod_reckon_365 : decode b_Mod_reckon 365 = .ok (.invokestatic 371, 3) := by decide +kernel
theorem d_Mod_reckon_368 : decode b_Mod_reckon 368 = .ok (.lreturn, 1) := by decide +kernel
theorem d_Mod_reckon_369 : decode b_Mod_reckon 369 = .ok (.aload_n 0, 1) := by decide +kernel
theorem d_Mod_reckon_370 : decode b_Mod_reckon 370 = .ok (.iload_n 1, 1) := by decide +kernel
theorem d_Mod_reckon_371 : decode b_Mod_reckon 371 = .ok (.lload_n 2, 1) := by decide +kernel
theorem d_Mod_reckon_372 : decode b_Mod_reckon 372 = .ok (.lload 4, 2) := by decide +kernel
theorem d_Mod_reckon_374 : decode b_Mod_reckon 374 = .ok (.invokevirtual 373, 3) := by decide +kernel
theorem d_Mod_reckon_377 : decode b_Mod_reckon 377 = .ok (.lreturn, 1) := by decide +kernel
theorem d_Mod_trip_0 : decode b_Mod_trip 0 = .ok (.aload_n 0, 1) := by decide +kernel
theorem d_Mod_trip_1 : decode b_Mod_trip 1 = .ok (.getfield 46, 3) := by decide +kernel
theorem d_Mod_trip_4 : decode b_Mod_trip 4 = .ok (.iconst 0, 1) := by decide +kernel
theorem d_Mod_trip_5 : decode b_Mod_trip 5 = .ok (.aload_n 0, 1) := by decide +kernel
theorem d_Mod_trip_6 : decode b_Mod_trip 6 = .ok (.sipush 255, 3) := by decide +kernel
theorem d_Mod_trip_9 : decode b_Mod_trip 9 = .ok (.invokevirtual 385, 3) := by decide +kernel
theorem d_Mod_trip_12 : decode b_Mod_trip 12 = .ok (.lastore, 1) := by decide +kernel
theorem d_Mod_trip_13 : decode b_Mod_trip 13 = .ok (.aload_n 0, 1) := by decide +kernel
theorem d_Mod_trip_14 : decode b_Mod_trip 14 = .ok (.sipush 255, 3) := by decide +kernel
theorem d_Mod_trip_17 : decode b_Mod_trip 17 = .ok (.aload_n 0, 1) := by decide +kernel
theorem d_Mod_trip_18 : decode b_Mod_trip 18 = .ok (.getfield 46, 3) := by decide +kernel
theorem d_Mod_trip_21 : decode b_Mod_trip 21 = .ok (.iconst 4, 1) := by decide +kernel
theorem d_Mod_trip_22 : decode b_Mod_trip 22 = .ok (.laload, 1) := by decide +kernel
theorem d_Mod_trip_23 : decode b_Mod_trip 23 = .ok (.invokevirtual 393, 3) := by decide +kernel
theorem d_Mod_trip_26 : decode b_Mod_trip 26 = .ok (.aload_n 0, 1) := by decide +kernel
theorem d_Mod_trip_27 : decode b_Mod_trip 27 = .ok (.getfield 46, 3) := by decide +kernel
theorem d_Mod_trip_30 : decode b_Mod_trip 30 = .ok (.bipush 24, 2) := by decide +kernel
theorem d_Mod_trip_32 : decode b_Mod_trip 32 = .ok (.lload_n 3, 1) := by decide +kernel
theorem d_Mod_trip_33 : decode b_Mod_trip 33 = .ok (.lastore, 1) := by decide +kernel
theorem d_Mod_trip_34 : decode b_Mod_trip 34 = .ok (.aload_n 0, 1) := by decide +kernel
theorem d_Mod_trip_35 : decode b_Mod_trip 35 = .ok (.getfield 46, 3) := by decide +kernel
theorem d_Mod_trip_38 : decode b_Mod_trip 38 = .ok (.bipush 25, 2) := by decide +kernel
theorem d_Mod_trip_40 : decode b_Mod_trip 40 = .ok (.aload_n 0, 1) := by decide +kernel
theorem d_Mod_trip_41 : decode b_Mod_trip 41 = .ok (.getfield 382, 3) := by decide +kernel
theorem d_Mod_trip_44 : decode b_Mod_trip 44 = .ok (.ldc2_w 340, 3) := by decide +kernel
theorem d_Mod_trip_47 : decode b_Mod_trip 47 = .ok (.lor, 1) := by decide +kernel
theorem d_Mod_trip_48 : decode b_Mod_trip 48 = .ok (.lastore, 1) := by decide +kernel
theorem d_Mod_trip_49 : decode b_Mod_trip 49 = .ok (.aload_n 0, 1) := by decide +kernel
theorem d_Mod_trip_50 : decode b_Mod_trip 50 = .ok (.getfield 46, 3) := by decide +kernel
