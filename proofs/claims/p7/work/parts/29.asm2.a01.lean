theorem d_Asm_translate_157 : decode b_Asm_translate 157 = .ok (.putfield 31, 3) := by decide +kernel
theorem d_Asm_translate_160 : decode b_Asm_translate 160 = .ok (.aload_n 0, 1) := by decide +kernel
theorem d_Asm_translate_161 : decode b_Asm_translate 161 = .ok (.getfield 45, 3) := by decide +kernel
theorem d_Asm_translate_164 : decode b_Asm_translate 164 = .ok (.getfield 91, 3) := by decide +kernel
theorem d_Asm_translate_167 : decode b_Asm_translate 167 = .ok (.iconst 1, 1) := by decide +kernel
theorem d_Asm_translate_168 : decode b_Asm_translate 168 = .ok (.iadd, 1) := by decide +kernel
theorem d_Asm_translate_169 : decode b_Asm_translate 169 = .ok (.istore 4, 2) := by decide +kernel
theorem d_Asm_translate_171 : decode b_Asm_translate 171 = .ok (.iinc 5 1, 3) := by decide +kernel
theorem d_Asm_translate_174 : decode b_Asm_translate 174 = .ok (.goto (-112), 3) := by decide +kernel
theorem d_Asm_translate_177 : decode b_Asm_translate 177 = .ok (.iinc 2 1, 3) := by decide +kernel
theorem d_Asm_translate_180 : decode b_Asm_translate 180 = .ok (.goto (-159), 3) := by decide +kernel
theorem d_Asm_translate_183 : decode b_Asm_translate 183 = .ok (.aload_n 0, 1) := by decide +kernel
theorem d_Asm_translate_184 : decode b_Asm_translate 184 = .ok (.getfield 31, 3) := by decide +kernel
theorem d_Asm_translate_187 : decode b_Asm_translate 187 = .ok (.iconst (-1), 1) := by decide +kernel
theorem d_Asm_translate_188 : decode b_Asm_translate 188 = .ok (.if_icmp .ne 18, 3) := by decide +kernel
theorem d_Asm_translate_191 : decode b_Asm_translate 191 = .ok (.aload_n 0, 1) := by decide +kernel
theorem d_Asm_translate_192 : decode b_Asm_translate 192 = .ok (.aload_n 0, 1) := by decide +kernel
theorem d_Asm_translate_193 : decode b_Asm_translate 193 = .ok (.getfield 38, 3) := by decide +kernel
theorem d_Asm_translate_196 : decode b_Asm_translate 196 = .ok (.aload_n 0, 1) := by decide +kernel
theorem d_Asm_translate_197 : decode b_Asm_translate 197 = .ok (.getfield 20, 3) := by decide +kernel
theorem d_Asm_translate_200 : decode b_Asm_translate 200 = .ok (.invokevirtual 94, 3) := by decide +kernel
theorem d_Asm_translate_203 : decode b_Asm_translate 203 = .ok (.putfield 58, 3) := by decide +kernel
theorem d_Asm_translate_206 : decode b_Asm_translate 206 = .ok (.aload_n 0, 1) := by decide +kernel
theorem d_Asm_translate_207 : decode b_Asm_translate 207 = .ok (.getfield 31, 3) := by decide +kernel
theorem d_Asm_translate_210 : decode b_Asm_translate 210 = .ok (.iconst (-1), 1) := by decide +kernel
theorem d_Asm_translate_211 : decode b_Asm_translate 211 = .ok (.if_icmp .ne 7, 3) := by decide +kernel
theorem d_Asm_translate_214 : decode b_Asm_translate 214 = .ok (.iconst 1, 1) := by decide +kernel
theorem d_Asm_translate_215 : decode b_Asm_translate 215 = .ok (.goto 4, 3) := by decide +kernel
theorem d_Asm_translate_218 : decode b_Asm_translate 218 = .ok (.iconst 0, 1) := by decide +kernel
theorem d_Asm_translate_219 : decode b_Asm_translate 219 = .ok (.ireturn, 1) := by decide +kernel
