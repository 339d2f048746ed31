abbrev b_Mod_getSpecial : ByteArray := prog_14_method_43_code
abbrev b_Mod_logic : ByteArray := prog_14_method_58_code
abbrev b_Mod_putSpecial : ByteArray := prog_14_method_44_code
abbrev y_Mod_getSpecial : MethodName := ⟨"LittleMixModel", "getSpecial", "(I)J"⟩
abbrev y_Mod_logic : MethodName := ⟨"LittleMixModel", "logic", "(IJJ)J"⟩
abbrev y_Mod_putSpecial : MethodName := ⟨"LittleMixModel", "putSpecial", "(IJ)V"⟩
theorem p_Mod_dif : y_Mod_dif.cls ≠ "java/lang/invoke/MethodHandle" ∧ y_Mod_dif.cls ≠ "java/lang/invoke/VarHandle" ∧ (parseMethodDescriptor y_Mod_dif.desc).map (fun d => d.parameters.length) = some 3 := by decide +kernel
theorem p_Mod_matrix : y_Mod_matrix.cls ≠ "java/lang/invoke/MethodHandle" ∧ y_Mod_matrix.cls ≠ "java/lang/invoke/VarHandle" ∧ (parseMethodDescriptor y_Mod_matrix.desc).map (fun d => d.parameters.length) = some 3 := by decide +kernel
theorem k_1195 : (Jvm.Cond.constantLong "LittleMixModel" (153 : Nat) (255 : Int64)) ∈ mx_T := List.mem_filter.mpr ⟨List.mem_append_right _ ((List.mem_append_right _ (List.mem_append_right _ (List.mem_append_right _ (List.mem_append_right _ (List.mem_append_left _ (List.mem_of_getElem? (l := tables_1_5) (i := 235) (by decide +kernel)))))))), rfl⟩
theorem k_1362 : (Jvm.Cond.methodLink "LittleMixModel" (348 : Nat) ({ cls := "LittleMixModel", name := "dif", desc := "(JJI)J" } : Jvm.MethodName)) ∈ mx_T := List.mem_filter.mpr ⟨List.mem_append_right _ ((List.mem_append_right _ (List.mem_append_right _ (List.mem_append_right _ (List.mem_append_right _ (List.mem_append_right _ (List.mem_of_getElem? (l := tables_1_6) (i := 162) (by decide +kernel)))))))), rfl⟩
theorem k_1363 : (Jvm.Cond.static ({ cls := "LittleMixModel", name := "dif", desc := "(JJI)J" } : Jvm.MethodName)) ∈ mx_T := List.mem_filter.mpr ⟨List.mem_append_right _ ((List.mem_append_right _ (List.mem_append_right _ (List.mem_append_right _ (List.mem_append_right _ (List.mem_append_right _ (List.mem_of_getElem? (l := tables_1_6) (i := 163) (by decide +kernel)))))))), rfl⟩
theorem k_1364 : (Jvm.Cond.code ({ cls := "LittleMixModel", name := "dif", desc := "(JJI)J" } : Jvm.MethodName) prog_14_method_55_code (12 : Nat) (Option.some Jvm.ClassFile.FieldType.long)) ∈ mx_T := List.mem_filter.mpr ⟨List.mem_append_right _ ((List.mem_append_right _ (List.mem_append_right _ (List.mem_append_right _ (List.mem_append_right _ (List.mem_append_right _ (List.mem_of_getElem? (l := tables_1_6) (i := 164) rfl))))))), rfl⟩
theorem k_1365 : (Jvm.Cond.methodLink "LittleMixModel" (352 : Nat) ({ cls := "LittleMixModel", name := "matrix", desc := "(JJZ)J" } : Jvm.MethodName)) ∈ mx_T := List.mem_filter.mpr ⟨List.mem_append_right _ ((List.mem_append_right _ (List.mem_append_right _ (List.mem_append_right _ (List.mem_append_right _ (List.mem_append_right _ (List.mem_of_getElem? (l := tables_1_6) (i := 165) (by decide +kernel)))))))), rfl⟩
theorem k_1366 : (Jvm.Cond.static ({ cls := "LittleMixModel", name := "matrix", desc := "(JJZ)J" } : Jvm.MethodName)) ∈ mx_T := List.mem_filter.mpr ⟨List.mem_append_right _ ((List.mem_append_right _ (List.mem_append_right _ (List.mem_append_right _ (List.mem_append_right _ (List.mem_append_right _ (List.mem_of_getElem? (l := tables_1_6) (i := 166) (by decide +kernel)))))))), rfl⟩
theorem k_1367 : (Jvm.Cond.code ({ cls := "LittleMixModel", name := "matrix", desc := "(JJZ)J" } : Jvm.MethodName) prog_14_method_56_code (14 : Nat) (Option.some Jvm.ClassFile.FieldType.long)) ∈ mx_T := List.mem_filter.mpr ⟨List.mem_append_right _ ((List.mem_append_right _ (List.mem_append_right _ (List.mem_append_right _ (List.mem_append_right _ (List.mem_append_right _ (List.mem_of_getElem? (l := tables_1_6) (i := 167) rfl))))))), rfl⟩
theorem k_1388 : (Jvm.Cond.constantLong "LittleMixModel" (303 : Nat) (32 : Int64)) ∈ mx_T := List.mem_filter.mpr ⟨List.mem_append_right _ ((List.mem_append_right _ (List.mem_append_right _ (List.mem_append_right _ (List.mem_append_right _ (List.mem_append_right _ (List.mem_of_getElem? (l := tables_1_6) (i := 188) (by decide +kernel)))))))), rfl⟩
theorem k_1389 : (Jvm.Cond.constantLong "LittleMixModel" (305 : Nat) (262143 : Int64)) ∈ mx_T := List.mem_filter.mpr ⟨List.mem_append_right _ ((List.mem_append_right _ (List.mem_append_right _ (List.mem_append_right _ (List.mem_append_right _ (List.mem_append_right _ (List.mem_of_getElem? (l := tables_1_6) (i := 189) (by decide +kernel)))))))), rfl⟩
theorem d_Mod_getSpecial_0 : decode b_Mod_getSpecial 0 = .ok (.iload_n 1, 1) := by decide +kernel
theorem d_Mod_getSpecial_1 : decode b_Mod_getSpecial 1 = .ok (.bipush 19, 2) := by decide +kernel
theorem d_Mod_getSpecial_3 : decode b_Mod_getSpecial 3 = .ok (.if_icmp .ne 11, 3) := by decide +kernel
theorem d_Mod_getSpecial_6 : decode b_Mod_getSpecial 6 = .ok (.aload_n 0, 1) := by decide +kernel
theorem d_Mod_getSpecial_7 : decode b_Mod_getSpecial 7 = .ok (.getfield 67, 3) := by decide +kernel
theorem d_Mod_getSpecial_10 : decode b_Mod_getSpecial 10 = .ok (.i2l, 1) := by decide +kernel
theorem d_Mod_getSpecial_11 : decode b_Mod_getSpecial 11 = .ok (.goto 23, 3) := by decide +kernel
theorem d_Mod_getSpecial_14 : decode b_Mod_getSpecial 14 = .ok (.iload_n 1, 1) := by decide +kernel
theorem d_Mod_getSpecial_15 : decode b_Mod_getSpecial 15 = .ok (.bipush 20, 2) := by decide +kernel
theorem d_Mod_getSpecial_17 : decode b_Mod_getSpecial 17 = .ok (.if_icmp .ne 11, 3) := by decide +kernel
theorem d_Mod_getSpecial_20 : decode b_Mod_getSpecial 20 = .ok (.aload_n 0, 1) := by decide +kernel
theorem d_Mod_getSpecial_21 : decode b_Mod_getSpecial 21 = .ok (.getfield 64, 3) := by decide +kernel
theorem d_Mod_getSpecial_24 : decode b_Mod_getSpecial 24 = .ok (.i2l, 1) := by decide +kernel
theorem d_Mod_getSpecial_25 : decode b_Mod_getSpecial 25 = .ok (.goto 9, 3) := by decide +kernel
theorem d_Mod_getSpecial_28 : decode b_Mod_getSpecial 28 = .ok (.aload_n 0, 1) := by decide +kernel
theorem d_Mod_getSpecial_29 : decode b_Mod_getSpecial 29 = .ok (.getfield 46, 3) := by decide +kernel
theorem d_Mod_getSpecial_32 : decode b_Mod_getSpecial 32 = .ok (.iload_n 1, 1) := by decide +kernel
theorem d_Mod_getSpecial_33 : decode b_Mod_getSpecial 33 = .ok (.laload, 1) := by decide +kernel
theorem d_Mod_getSpecial_34 : decode b_Mod_getSpecial 34 = .ok (.lreturn, 1) := by decide +kernel
theorem d_Mod_logic_0 : decode b_Mod_logic 0 = .ok (.iload_n 1, 1) := by decide +kernel
theorem d_Mod_logic_1 : decode b_Mod_logic 1 = .ok (.tableswitch 269 192 218 #[123, 269, 128, 269, 137, 269, 146, 269, 151, 269, 156, 269, 165, 269, 174, 269, 183, 269, 183, 269, 183, 269, 183, 269, 199, 269, 222], 123) := by decide +kernel
theorem d_Mod_logic_124 : decode b_Mod_logic 124 = .ok (.lload_n 2, 1) := by decide +kernel
theorem d_Mod_logic_125 : decode b_Mod_logic 125 = .ok (.lload 4, 2) := by decide +kernel
theorem d_Mod_logic_127 : decode b_Mod_logic 127 = .ok (.lor, 1) := by decide +kernel
theorem d_Mod_logic_128 : decode b_Mod_logic 128 = .ok (.lreturn, 1) := by decide +kernel
theorem d_Mod_logic_129 : decode b_Mod_logic 129 = .ok (.lload_n 2, 1) := by decide +kernel
theorem d_Mod_logic_130 : decode b_Mod_logic 130 = .ok (.lload 4, 2) := by decide +kernel
theorem d_Mod_logic_132 : decode b_Mod_logic 132 = .ok (.ldc2_w 301, 3) := by decide +kernel
theorem d_Mod_logic_135 : decode b_Mod_logic 135 = .ok (.lxor, 1) := by decide +kernel
theorem d_Mod_logic_136 : decode b_Mod_logic 136 = .ok (.lor, 1) := by decide +kernel
theorem d_Mod_logic_137 : decode b_Mod_logic 137 = .ok (.lreturn, 1) := by decide +kernel
theorem d_Mod_logic_138 : decode b_Mod_logic 138 = .ok (.lload_n 2, 1) := by decide +kernel
theorem d_Mod_logic_139 : decode b_Mod_logic 139 = .ok (.lload 4, 2) := by decide +kernel
theorem d_Mod_logic_141 : decode b_Mod_logic 141 = .ok (.lor, 1) := by decide +kernel
theorem d_Mod_logic_142 : decode b_Mod_logic 142 = .ok (.ldc2_w 301, 3) := by decide +kernel
theorem d_Mod_logic_145 : decode b_Mod_logic 145 = .ok (.lxor, 1) := by decide +kernel
theorem d_Mod_logic_146 : decode b_Mod_logic 146 = .ok (.lreturn, 1) := by decide +kernel
theorem d_Mod_logic_147 : decode b_Mod_logic 147 = .ok (.lload_n 2, 1) := by decide +kernel
theorem d_Mod_logic_148 : decode b_Mod_logic 148 = .ok (.lload 4, 2) := by decide +kernel
theorem d_Mod_logic_150 : decode b_Mod_logic 150 = .ok (.lxor, 1) := by decide +kernel
theorem d_Mod_logic_151 : decode b_Mod_logic 151 = .ok (.lreturn, 1) := by decide +kernel
theorem d_Mod_logic_152 : decode b_Mod_logic 152 = .ok (.lload_n 2, 1) := by decide +kernel
theorem d_Mod_logic_153 : decode b_Mod_logic 153 = .ok (.lload 4, 2) := by decide +kernel
theorem d_Mod_logic_155 : decode b_Mod_logic 155 = .ok (.land, 1) := by decide +kernel
theorem d_Mod_logic_156 : decode b_Mod_logic 156 = .ok (.lreturn, 1) := by decide +kernel
theorem d_Mod_logic_157 : decode b_Mod_logic 157 = .ok (.lload_n 2, 1) := by decide +kernel
theorem d_Mod_logic_158 : decode b_Mod_logic 158 = .ok (.lload 4, 2) := by decide +kernel
theorem d_Mod_logic_160 : decode b_Mod_logic 160 = .ok (.ldc2_w 301, 3) := by decide +kernel
theorem d_Mod_logic_163 : decode b_Mod_logic 163 = .ok (.lxor, 1) := by decide +kernel
theorem d_Mod_logic_164 : decode b_Mod_logic 164 = .ok (.land, 1) := by decide +kernel
theorem d_Mod_logic_165 : decode b_Mod_logic 165 = .ok (.lreturn, 1) := by decide +kernel
theorem d_Mod_logic_166 : decode b_Mod_logic 166 = .ok (.lload_n 2, 1) := by decide +kernel
theorem d_Mod_logic_167 : decode b_Mod_logic 167 = .ok (.lload 4, 2) := by decide +kernel
theorem d_Mod_logic_169 : decode b_Mod_logic 169 = .ok (.land, 1) := by decide +kernel
theorem d_Mod_logic_170 : decode b_Mod_logic 170 = .ok (.ldc2_w 301, 3) := by decide +kernel
theorem d_Mod_logic_173 : decode b_Mod_logic 173 = .ok (.lxor, 1) := by decide +kernel
theorem d_Mod_logic_174 : decode b_Mod_logic 174 = .ok (.lreturn, 1) := by decide +kernel
theorem d_Mod_logic_175 : decode b_Mod_logic 175 = .ok (.lload_n 2, 1) := by decide +kernel
theorem d_Mod_logic_176 : decode b_Mod_logic 176 = .ok (.lload 4, 2) := by decide +kernel
theorem d_Mod_logic_178 : decode b_Mod_logic 178 = .ok (.lxor, 1) := by decide +kernel
theorem d_Mod_logic_179 : decode b_Mod_logic 179 = .ok (.ldc2_w 301, 3) := by decide +kernel
theorem d_Mod_logic_182 : decode b_Mod_logic 182 = .ok (.lxor, 1) := by decide +kernel
theorem d_Mod_logic_183 : decode b_Mod_logic 183 = .ok (.lreturn, 1) := by decide +kernel
theorem d_Mod_logic_184 : decode b_Mod_logic 184 = .ok (.lload_n 2, 1) := by decide +kernel
theorem d_Mod_logic_185 : decode b_Mod_logic 185 = .ok (.lload 4, 2) := by decide +kernel
theorem d_Mod_logic_187 : decode b_Mod_logic 187 = .ok (.iconst 1, 1) := by decide +kernel
theorem d_Mod_logic_188 : decode b_Mod_logic 188 = .ok (.iload_n 1, 1) := by decide +kernel
theorem d_Mod_logic_189 : decode b_Mod_logic 189 = .ok (.sipush 208, 3) := by decide +kernel
theorem d_Mod_logic_192 : decode b_Mod_logic 192 = .ok (.isub, 1) := by decide +kernel
theorem d_Mod_logic_193 : decode b_Mod_logic 193 = .ok (.iconst 2, 1) := by decide +kernel
theorem d_Mod_logic_194 : decode b_Mod_logic 194 = .ok (.idiv, 1) := by decide +kernel
theorem d_Mod_logic_195 : decode b_Mod_logic 195 = .ok (.ishl, 1) := by decide +kernel
theorem d_Mod_logic_196 : decode b_Mod_logic 196 = .ok (.invokestatic 348, 3) := by decide +kernel
theorem d_Mod_logic_199 : decode b_Mod_logic 199 = .ok (.lreturn, 1) := by decide +kernel
theorem d_Mod_logic_200 : decode b_Mod_logic 200 = .ok (.lload_n 2, 1) := by decide +kernel
theorem d_Mod_logic_201 : decode b_Mod_logic 201 = .ok (.aload_n 0, 1) := by decide +kernel
theorem d_Mod_logic_202 : decode b_Mod_logic 202 = .ok (.getfield 46, 3) := by decide +kernel
theorem d_Mod_logic_205 : decode b_Mod_logic 205 = .ok (.iconst 5, 1) := by decide +kernel
theorem d_Mod_logic_206 : decode b_Mod_logic 206 = .ok (.laload, 1) := by decide +kernel
theorem d_Mod_logic_207 : decode b_Mod_logic 207 = .ok (.land, 1) := by decide +kernel
theorem d_Mod_logic_208 : decode b_Mod_logic 208 = .ok (.lload 4, 2) := by decide +kernel
theorem d_Mod_logic_210 : decode b_Mod_logic 210 = .ok (.aload_n 0, 1) := by decide +kernel
theorem d_Mod_logic_211 : decode b_Mod_logic 211 = .ok (.getfield 46, 3) := by decide +kernel
theorem d_Mod_logic_214 : decode b_Mod_logic 214 = .ok (.iconst 5, 1) := by decide +kernel
theorem d_Mod_logic_215 : decode b_Mod_logic 215 = .ok (.laload, 1) := by decide +kernel
theorem d_Mod_logic_216 : decode b_Mod_logic 216 = .ok (.ldc2_w 301, 3) := by decide +kernel
theorem d_Mod_logic_219 : decode b_Mod_logic 219 = .ok (.lxor, 1) := by decide +kernel
theorem d_Mod_logic_220 : decode b_Mod_logic 220 = .ok (.land, 1) := by decide +kernel
theorem d_Mod_logic_221 : decode b_Mod_logic 221 = .ok (.lor, 1) := by decide +kernel
theorem d_Mod_logic_222 : decode b_Mod_logic 222 = .ok (.lreturn, 1) := by decide +kernel
theorem d_Mod_logic_223 : decode b_Mod_logic 223 = .ok (.lconst 0, 1) := by decide +kernel
theorem d_Mod_logic_224 : decode b_Mod_logic 224 = .ok (.lstore 6, 2) := by decide +kernel
theorem d_Mod_logic_226 : decode b_Mod_logic 226 = .ok (.iconst 0, 1) := by decide +kernel
theorem d_Mod_logic_227 : decode b_Mod_logic 227 = .ok (.istore 8, 2) := by decide +kernel
theorem d_Mod_logic_229 : decode b_Mod_logic 229 = .ok (.iload 8, 2) := by decide +kernel
theorem d_Mod_logic_231 : decode b_Mod_logic 231 = .ok (.bipush 64, 2) := by decide +kernel
theorem d_Mod_logic_233 : decode b_Mod_logic 233 = .ok (.if_icmp .ge 34, 3) := by decide +kernel
theorem d_Mod_logic_236 : decode b_Mod_logic 236 = .ok (.lload 6, 2) := by decide +kernel
theorem d_Mod_logic_238 : decode b_Mod_logic 238 = .ok (.lload_n 2, 1) := by decide +kernel
theorem d_Mod_logic_239 : decode b_Mod_logic 239 = .ok (.iload 8, 2) := by decide +kernel
theorem d_Mod_logic_241 : decode b_Mod_logic 241 = .ok (.invokestatic 310, 3) := by decide +kernel
theorem d_Mod_logic_244 : decode b_Mod_logic 244 = .ok (.lload 4, 2) := by decide +kernel
theorem d_Mod_logic_246 : decode b_Mod_logic 246 = .ok (.iload 8, 2) := by decide +kernel
theorem d_Mod_logic_248 : decode b_Mod_logic 248 = .ok (.invokestatic 310, 3) := by decide +kernel
theorem d_Mod_logic_251 : decode b_Mod_logic 251 = .ok (.ldc2_w 301, 3) := by decide +kernel
theorem d_Mod_logic_254 : decode b_Mod_logic 254 = .ok (.lxor, 1) := by decide +kernel
theorem d_Mod_logic_255 : decode b_Mod_logic 255 = .ok (.land, 1) := by decide +kernel
theorem d_Mod_logic_256 : decode b_Mod_logic 256 = .ok (.lconst 1, 1) := by decide +kernel
theorem d_Mod_logic_257 : decode b_Mod_logic 257 = .ok (.land, 1) := by decide +kernel
theorem d_Mod_logic_258 : decode b_Mod_logic 258 = .ok (.ladd, 1) := by decide +kernel
theorem d_Mod_logic_259 : decode b_Mod_logic 259 = .ok (.lstore 6, 2) := by decide +kernel
theorem d_Mod_logic_261 : decode b_Mod_logic 261 = .ok (.iinc 8 1, 3) := by decide +kernel
theorem d_Mod_logic_264 : decode b_Mod_logic 264 = .ok (.goto (-35), 3) := by decide +kernel
theorem d_Mod_logic_267 : decode b_Mod_logic 267 = .ok (.lload 6, 2) := by decide +kernel
theorem d_Mod_logic_269 : decode b_Mod_logic 269 = .ok (.lreturn, 1) := by decide +kernel
theorem d_Mod_logic_270 : decode b_Mod_logic 270 = .ok (.lload_n 2, 1) := by decide +kernel
theorem d_Mod_logic_271 : decode b_Mod_logic 271 = .ok (.lload 4, 2) := by decide +kernel
theorem d_Mod_logic_273 : decode b_Mod_logic 273 = .ok (.iload_n 1, 1) := by decide +kernel
theorem d_Mod_logic_274 : decode b_Mod_logic 274 = .ok (.sipush 222, 3) := by decide +kernel
theorem d_Mod_logic_277 : decode b_Mod_logic 277 = .ok (.if_icmp .ne 7, 3) := by decide +kernel
theorem d_Mod_logic_280 : decode b_Mod_logic 280 = .ok (.iconst 1, 1) := by decide +kernel
theorem d_Mod_logic_281 : decode b_Mod_logic 281 = .ok (.goto 4, 3) := by decide +kernel
theorem d_Mod_logic_284 : decode b_Mod_logic 284 = .ok (.iconst 0, 1) := by decide +kernel
theorem d_Mod_logic_285 : decode b_Mod_logic 285 = .ok (.invokestatic 352, 3) := by decide +kernel
theorem d_Mod_logic_288 : decode b_Mod_logic 288 = .ok (.lreturn, 1) := by decide +kernel
theorem d_Mod_putSpecial_0 : decode b_Mod_putSpecial 0 = .ok (.iload_n 1, 1) := by decide +kernel
theorem d_Mod_putSpecial_1 : decode b_Mod_putSpecial 1 = .ok (.bipush 19, 2) := by decide +kernel
theorem d_Mod_putSpecial_3 : decode b_Mod_putSpecial 3 = .ok (.if_icmp .ne 66, 3) := by decide +kernel
theorem d_Mod_putSpecial_6 : decode b_Mod_putSpecial 6 = .ok (.lload_n 2, 1) := by decide +kernel
theorem d_Mod_putSpecial_7 : decode b_Mod_putSpecial 7 = .ok (.ldc2_w 303, 3) := by decide +kernel
theorem d_Mod_putSpecial_10 : decode b_Mod_putSpecial 10 = .ok (.lcmp, 1) := by decide +kernel
theorem d_Mod_putSpecial_11 : decode b_Mod_putSpecial 11 = .ok (.ifCond .lt 21, 3) := by decide +kernel
theorem d_Mod_putSpecial_14 : decode b_Mod_putSpecial 14 = .ok (.lload_n 2, 1) := by decide +kernel
theorem d_Mod_putSpecial_15 : decode b_Mod_putSpecial 15 = .ok (.ldc2_w 153, 3) := by decide +kernel
theorem d_Mod_putSpecial_18 : decode b_Mod_putSpecial 18 = .ok (.lcmp, 1) := by decide +kernel
theorem d_Mod_putSpecial_19 : decode b_Mod_putSpecial 19 = .ok (.ifCond .gt 13, 3) := by decide +kernel
theorem d_Mod_putSpecial_22 : decode b_Mod_putSpecial 22 = .ok (.lload_n 2, 1) := by decide +kernel
theorem d_Mod_putSpecial_23 : decode b_Mod_putSpecial 23 = .ok (.aload_n 0, 1) := by decide +kernel
theorem d_Mod_putSpecial_24 : decode b_Mod_putSpecial 24 = .ok (.getfield 64, 3) := by decide +kernel
theorem d_Mod_putSpecial_27 : decode b_Mod_putSpecial 27 = .ok (.i2l, 1) := by decide +kernel
theorem d_Mod_putSpecial_28 : decode b_Mod_putSpecial 28 = .ok (.lcmp, 1) := by decide +kernel
theorem d_Mod_putSpecial_29 : decode b_Mod_putSpecial 29 = .ok (.ifCond .ge 4, 3) := by decide +kernel
theorem d_Mod_putSpecial_32 : decode b_Mod_putSpecial 32 = .ok (.return_, 1) := by decide +kernel
theorem d_Mod_putSpecial_33 : decode b_Mod_putSpecial 33 = .ok (.lload_n 2, 1) := by decide +kernel
theorem d_Mod_putSpecial_34 : decode b_Mod_putSpecial 34 = .ok (.l2i, 1) := by decide +kernel
theorem d_Mod_putSpecial_35 : decode b_Mod_putSpecial 35 = .ok (.istore 4, 2) := by decide +kernel
theorem d_Mod_putSpecial_37 : decode b_Mod_putSpecial 37 = .ok (.iload 4, 2) := by decide +kernel
theorem d_Mod_putSpecial_39 : decode b_Mod_putSpecial 39 = .ok (.aload_n 0, 1) := by decide +kernel
theorem d_Mod_putSpecial_40 : decode b_Mod_putSpecial 40 = .ok (.getfield 67, 3) := by decide +kernel
theorem d_Mod_putSpecial_43 : decode b_Mod_putSpecial 43 = .ok (.if_icmp .ge 17, 3) := by decide +kernel
theorem d_Mod_putSpecial_46 : decode b_Mod_putSpecial 46 = .ok (.aload_n 0, 1) := by decide +kernel
theorem d_Mod_putSpecial_47 : decode b_Mod_putSpecial 47 = .ok (.getfield 43, 3) := by decide +kernel
theorem d_Mod_putSpecial_50 : decode b_Mod_putSpecial 50 = .ok (.iload 4, 2) := by decide +kernel
theorem d_Mod_putSpecial_52 : decode b_Mod_putSpecial 52 = .ok (.lconst 0, 1) := by decide +kernel
theorem d_Mod_putSpecial_53 : decode b_Mod_putSpecial 53 = .ok (.lastore, 1) := by decide +kernel
theorem d_Mod_putSpecial_54 : decode b_Mod_putSpecial 54 = .ok (.iinc 4 1, 3) := by decide +kernel
theorem d_Mod_putSpecial_57 : decode b_Mod_putSpecial 57 = .ok (.goto (-20), 3) := by decide +kernel
theorem d_Mod_putSpecial_60 : decode b_Mod_putSpecial 60 = .ok (.aload_n 0, 1) := by decide +kernel
theorem d_Mod_putSpecial_61 : decode b_Mod_putSpecial 61 = .ok (.lload_n 2, 1) := by decide +kernel
theorem d_Mod_putSpecial_62 : decode b_Mod_putSpecial 62 = .ok (.l2i, 1) := by decide +kernel
theorem d_Mod_putSpecial_63 : decode b_Mod_putSpecial 63 = .ok (.putfield 67, 3) := by decide +kernel
theorem d_Mod_putSpecial_66 : decode b_Mod_putSpecial 66 = .ok (.goto 55, 3) := by decide +kernel
theorem d_Mod_putSpecial_69 : decode b_Mod_putSpecial 69 = .ok (.iload_n 1, 1) := by decide +kernel
theorem d_Mod_putSpecial_70 : decode b_Mod_putSpecial 70 = .ok (.bipush 20, 2) := by decide +kernel
theorem d_Mod_putSpecial_72 : decode b_Mod_putSpecial 72 = .ok (.if_icmp .ne 28, 3) := by decide +kernel
theorem d_Mod_putSpecial_75 : decode b_Mod_putSpecial 75 = .ok (.lload_n 2, 1) := by decide +kernel
theorem d_Mod_putSpecial_76 : decode b_Mod_putSpecial 76 = .ok (.lconst 0, 1) := by decide +kernel
theorem d_Mod_putSpecial_77 : decode b_Mod_putSpecial 77 = .ok (.lcmp, 1) := by decide +kernel
theorem d_Mod_putSpecial_78 : decode b_Mod_putSpecial 78 = .ok (.ifCond .lt 43, 3) := by decide +kernel
theorem d_Mod_putSpecial_81 : decode b_Mod_putSpecial 81 = .ok (.lload_n 2, 1) := by decide +kernel
theorem d_Mod_putSpecial_82 : decode b_Mod_putSpecial 82 = .ok (.aload_n 0, 1) := by decide +kernel
theorem d_Mod_putSpecial_83 : decode b_Mod_putSpecial 83 = .ok (.getfield 64, 3) := by decide +kernel
theorem d_Mod_putSpecial_86 : decode b_Mod_putSpecial 86 = .ok (.i2l, 1) := by decide +kernel
theorem d_Mod_putSpecial_87 : decode b_Mod_putSpecial 87 = .ok (.lcmp, 1) := by decide +kernel
theorem d_Mod_putSpecial_88 : decode b_Mod_putSpecial 88 = .ok (.ifCond .ge 33, 3) := by decide +kernel
theorem d_Mod_putSpecial_91 : decode b_Mod_putSpecial 91 = .ok (.aload_n 0, 1) := by decide +kernel
theorem d_Mod_putSpecial_92 : decode b_Mod_putSpecial 92 = .ok (.lload_n 2, 1) := by decide +kernel
theorem d_Mod_putSpecial_93 : decode b_Mod_putSpecial 93 = .ok (.l2i, 1) := by decide +kernel
theorem d_Mod_putSpecial_94 : decode b_Mod_putSpecial 94 = .ok (.putfield 64, 3) := by decide +kernel
theorem d_Mod_putSpecial_97 : decode b_Mod_putSpecial 97 = .ok (.goto 24, 3) := by decide +kernel
theorem d_Mod_putSpecial_100 : decode b_Mod_putSpecial 100 = .ok (.aload_n 0, 1) := by decide +kernel
theorem d_Mod_putSpecial_101 : decode b_Mod_putSpecial 101 = .ok (.getfield 46, 3) := by decide +kernel
theorem d_Mod_putSpecial_104 : decode b_Mod_putSpecial 104 = .ok (.iload_n 1, 1) := by decide +kernel
theorem d_Mod_putSpecial_105 : decode b_Mod_putSpecial 105 = .ok (.iload_n 1, 1) := by decide +kernel
theorem d_Mod_putSpecial_106 : decode b_Mod_putSpecial 106 = .ok (.bipush 21, 2) := by decide +kernel
theorem d_Mod_putSpecial_108 : decode b_Mod_putSpecial 108 = .ok (.if_icmp .ne 11, 3) := by decide +kernel
theorem d_Mod_putSpecial_111 : decode b_Mod_putSpecial 111 = .ok (.lload_n 2, 1) := by decide +kernel
theorem d_Mod_putSpecial_112 : decode b_Mod_putSpecial 112 = .ok (.ldc2_w 305, 3) := by decide +kernel
theorem d_Mod_putSpecial_115 : decode b_Mod_putSpecial 115 = .ok (.land, 1) := by decide +kernel
theorem d_Mod_putSpecial_116 : decode b_Mod_putSpecial 116 = .ok (.goto 4, 3) := by decide +kernel
theorem d_Mod_putSpecial_119 : decode b_Mod_putSpecial 119 = .ok (.lload_n 2, 1) := by decide +kernel
theorem d_Mod_putSpecial_120 : decode b_Mod_putSpecial 120 = .ok (.lastore, 1) := by decide +kernel
theorem d_Mod_putSpecial_121 : decode b_Mod_putSpecial 121 = .ok (.return_, 1) := by decide +kernel
