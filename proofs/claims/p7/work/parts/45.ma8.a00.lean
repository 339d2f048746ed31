abbrev b_Mod_put : ByteArray := prog_14_method_28_code
abbrev b_Mod_second : ByteArray := prog_14_method_29_code
abbrev y_Mod_put : MethodName := ⟨"LittleMixModel", "put", "(IJI)V"⟩
abbrev y_Mod_second : MethodName := ⟨"LittleMixModel", "second", "()I"⟩
theorem p_Mod_instruction : y_Mod_instruction.cls ≠ "java/lang/invoke/MethodHandle" ∧ y_Mod_instruction.cls ≠ "java/lang/invoke/VarHandle" ∧ (parseMethodDescriptor y_Mod_instruction.desc).map (fun d => d.parameters.length) = some 2 := by decide +kernel
theorem p_Mod_put : y_Mod_put.cls ≠ "java/lang/invoke/MethodHandle" ∧ y_Mod_put.cls ≠ "java/lang/invoke/VarHandle" ∧ (parseMethodDescriptor y_Mod_put.desc).map (fun d => d.parameters.length) = some 3 := by decide +kernel
theorem k_1224 : (Jvm.Cond.methodLink "LittleMixModel" (252 : Nat) ({ cls := "LittleMixModel", name := "put", desc := "(IJI)V" } : Jvm.MethodName)) ∈ mx_T := List.mem_filter.mpr ⟨List.mem_append_right _ ((List.mem_append_right _ (List.mem_append_right _ (List.mem_append_right _ (List.mem_append_right _ (List.mem_append_right _ (List.mem_of_getElem? (l := tables_1_6) (i := 24) (by decide +kernel)))))))), rfl⟩
theorem k_1226 : (Jvm.Cond.instanceMethod ({ cls := "LittleMixModel", name := "put", desc := "(IJI)V" } : Jvm.MethodName)) ∈ mx_T := List.mem_filter.mpr ⟨List.mem_append_right _ ((List.mem_append_right _ (List.mem_append_right _ (List.mem_append_right _ (List.mem_append_right _ (List.mem_append_right _ (List.mem_of_getElem? (l := tables_1_6) (i := 26) (by decide +kernel)))))))), rfl⟩
theorem k_1227 : (Jvm.Cond.code ({ cls := "LittleMixModel", name := "put", desc := "(IJI)V" } : Jvm.MethodName) prog_14_method_28_code (6 : Nat) (Option.none : Option Jvm.ClassFile.FieldType)) ∈ mx_T := List.mem_filter.mpr ⟨List.mem_append_right _ ((List.mem_append_right _ (List.mem_append_right _ (List.mem_append_right _ (List.mem_append_right _ (List.mem_append_right _ (List.mem_of_getElem? (l := tables_1_6) (i := 27) rfl))))))), rfl⟩
theorem k_1228 : (Jvm.Cond.methodLink "LittleMixModel" (256 : Nat) ({ cls := "LittleMixModel", name := "instruction", desc := "(II)Z" } : Jvm.MethodName)) ∈ mx_T := List.mem_filter.mpr ⟨List.mem_append_right _ ((List.mem_append_right _ (List.mem_append_right _ (List.mem_append_right _ (List.mem_append_right _ (List.mem_append_right _ (List.mem_of_getElem? (l := tables_1_6) (i := 28) (by decide +kernel)))))))), rfl⟩
theorem k_1230 : (Jvm.Cond.instanceMethod ({ cls := "LittleMixModel", name := "instruction", desc := "(II)Z" } : Jvm.MethodName)) ∈ mx_T := List.mem_filter.mpr ⟨List.mem_append_right _ ((List.mem_append_right _ (List.mem_append_right _ (List.mem_append_right _ (List.mem_append_right _ (List.mem_append_right _ (List.mem_of_getElem? (l := tables_1_6) (i := 30) (by decide +kernel)))))))), rfl⟩
theorem k_1231 : (Jvm.Cond.code ({ cls := "LittleMixModel", name := "instruction", desc := "(II)Z" } : Jvm.MethodName) prog_14_method_34_code (4 : Nat) (Option.some Jvm.ClassFile.FieldType.boolean)) ∈ mx_T := List.mem_filter.mpr ⟨List.mem_append_right _ ((List.mem_append_right _ (List.mem_append_right _ (List.mem_append_right _ (List.mem_append_right _ (List.mem_append_right _ (List.mem_of_getElem? (l := tables_1_6) (i := 31) rfl))))))), rfl⟩
theorem sl_Mod_instruction : Cond.selects y_Mod_instruction.cls y_Mod_instruction y_Mod_instruction ∈ mx_T := List.mem_filter.mpr ⟨List.mem_append_left _ (by decide +kernel), by decide +kernel⟩
theorem sl_Mod_put : Cond.selects y_Mod_put.cls y_Mod_put y_Mod_put ∈ mx_T := List.mem_filter.mpr ⟨List.mem_append_left _ (by decide +kernel), by decide +kernel⟩
theorem d_Mod_put_0 : decode b_Mod_put 0 = .ok (.iconst 0, 1) := by decide +kernel
theorem d_Mod_put_1 : decode b_Mod_put 1 = .ok (.istore 5, 2) := by decide +kernel
theorem d_Mod_put_3 : decode b_Mod_put 3 = .ok (.iload 5, 2) := by decide +kernel
theorem d_Mod_put_5 : decode b_Mod_put 5 = .ok (.iload 4, 2) := by decide +kernel
theorem d_Mod_put_7 : decode b_Mod_put 7 = .ok (.if_icmp .ge 35, 3) := by decide +kernel
theorem d_Mod_put_10 : decode b_Mod_put 10 = .ok (.aload_n 0, 1) := by decide +kernel
theorem d_Mod_put_11 : decode b_Mod_put 11 = .ok (.getfield 40, 3) := by decide +kernel
theorem d_Mod_put_14 : decode b_Mod_put 14 = .ok (.iload_n 1, 1) := by decide +kernel
theorem d_Mod_put_15 : decode b_Mod_put 15 = .ok (.iload 5, 2) := by decide +kernel
theorem d_Mod_put_17 : decode b_Mod_put 17 = .ok (.iadd, 1) := by decide +kernel
theorem d_Mod_put_18 : decode b_Mod_put 18 = .ok (.lload_n 2, 1) := by decide +kernel
theorem d_Mod_put_19 : decode b_Mod_put 19 = .ok (.bipush 8, 2) := by decide +kernel
theorem d_Mod_put_21 : decode b_Mod_put 21 = .ok (.iload 4, 2) := by decide +kernel
theorem d_Mod_put_23 : decode b_Mod_put 23 = .ok (.iconst 1, 1) := by decide +kernel
theorem d_Mod_put_24 : decode b_Mod_put 24 = .ok (.isub, 1) := by decide +kernel
theorem d_Mod_put_25 : decode b_Mod_put 25 = .ok (.iload 5, 2) := by decide +kernel
theorem d_Mod_put_27 : decode b_Mod_put 27 = .ok (.isub, 1) := by decide +kernel
theorem d_Mod_put_28 : decode b_Mod_put 28 = .ok (.imul, 1) := by decide +kernel
theorem d_Mod_put_29 : decode b_Mod_put 29 = .ok (.lshr, 1) := by decide +kernel
theorem d_Mod_put_30 : decode b_Mod_put 30 = .ok (.l2i, 1) := by decide +kernel
theorem d_Mod_put_31 : decode b_Mod_put 31 = .ok (.sipush 255, 3) := by decide +kernel
theorem d_Mod_put_34 : decode b_Mod_put 34 = .ok (.iand, 1) := by decide +kernel
theorem d_Mod_put_35 : decode b_Mod_put 35 = .ok (.iastore, 1) := by decide +kernel
theorem d_Mod_put_36 : decode b_Mod_put 36 = .ok (.iinc 5 1, 3) := by decide +kernel
theorem d_Mod_put_39 : decode b_Mod_put 39 = .ok (.goto (-36), 3) := by decide +kernel
theorem d_Mod_put_42 : decode b_Mod_put 42 = .ok (.return_, 1) := by decide +kernel
theorem d_Mod_second_0 : decode b_Mod_second 0 = .ok (.iconst 0, 1) := by decide +kernel
theorem d_Mod_second_1 : decode b_Mod_second 1 = .ok (.istore_n 1, 1) := by decide +kernel
theorem d_Mod_second_2 : decode b_Mod_second 2 = .ok (.iload_n 1, 1) := by decide +kernel
theorem d_Mod_second_3 : decode b_Mod_second 3 = .ok (.sipush 4096, 3) := by decide +kernel
theorem d_Mod_second_6 : decode b_Mod_second 6 = .ok (.if_icmp .ge 16, 3) := by decide +kernel
theorem d_Mod_second_9 : decode b_Mod_second 9 = .ok (.aload_n 0, 1) := by decide +kernel
theorem d_Mod_second_10 : decode b_Mod_second 10 = .ok (.getfield 40, 3) := by decide +kernel
theorem d_Mod_second_13 : decode b_Mod_second 13 = .ok (.iload_n 1, 1) := by decide +kernel
theorem d_Mod_second_14 : decode b_Mod_second 14 = .ok (.iconst 0, 1) := by decide +kernel
theorem d_Mod_second_15 : decode b_Mod_second 15 = .ok (.iastore, 1) := by decide +kernel
theorem d_Mod_second_16 : decode b_Mod_second 16 = .ok (.iinc 1 1, 3) := by decide +kernel
theorem d_Mod_second_19 : decode b_Mod_second 19 = .ok (.goto (-17), 3) := by decide +kernel
theorem d_Mod_second_22 : decode b_Mod_second 22 = .ok (.sipush 256, 3) := by decide +kernel
theorem d_Mod_second_25 : decode b_Mod_second 25 = .ok (.istore_n 1, 1) := by decide +kernel
theorem d_Mod_second_26 : decode b_Mod_second 26 = .ok (.iconst 0, 1) := by decide +kernel
theorem d_Mod_second_27 : decode b_Mod_second 27 = .ok (.istore_n 2, 1) := by decide +kernel
theorem d_Mod_second_28 : decode b_Mod_second 28 = .ok (.iconst 0, 1) := by decide +kernel
theorem d_Mod_second_29 : decode b_Mod_second 29 = .ok (.istore_n 3, 1) := by decide +kernel
theorem d_Mod_second_30 : decode b_Mod_second 30 = .ok (.iload_n 3, 1) := by decide +kernel
theorem d_Mod_second_31 : decode b_Mod_second 31 = .ok (.aload_n 0, 1) := by decide +kernel
theorem d_Mod_second_32 : decode b_Mod_second 32 = .ok (.getfield 88, 3) := by decide +kernel
theorem d_Mod_second_35 : decode b_Mod_second 35 = .ok (.if_icmp .ge 219, 3) := by decide +kernel
theorem d_Mod_second_38 : decode b_Mod_second 38 = .ok (.aload_n 0, 1) := by decide +kernel
theorem d_Mod_second_39 : decode b_Mod_second 39 = .ok (.iload_n 3, 1) := by decide +kernel
theorem d_Mod_second_40 : decode b_Mod_second 40 = .ok (.invokevirtual 234, 3) := by decide +kernel
theorem d_Mod_second_43 : decode b_Mod_second 43 = .ok (.istore 4, 2) := by decide +kernel
theorem d_Mod_second_45 : decode b_Mod_second 45 = .ok (.iinc 2 1, 3) := by decide +kernel
theorem d_Mod_second_48 : decode b_Mod_second 48 = .ok (.iload 4, 2) := by decide +kernel
theorem d_Mod_second_50 : decode b_Mod_second 50 = .ok (.ifCond .ne 6, 3) := by decide +kernel
theorem d_Mod_second_53 : decode b_Mod_second 53 = .ok (.goto 192, 3) := by decide +kernel
theorem d_Mod_second_56 : decode b_Mod_second 56 = .ok (.aload_n 0, 1) := by decide +kernel
theorem d_Mod_second_57 : decode b_Mod_second 57 = .ok (.invokevirtual 237, 3) := by decide +kernel
theorem d_Mod_second_60 : decode b_Mod_second 60 = .ok (.istore 5, 2) := by decide +kernel
theorem d_Mod_second_62 : decode b_Mod_second 62 = .ok (.aload_n 0, 1) := by decide +kernel
theorem d_Mod_second_63 : decode b_Mod_second 63 = .ok (.getfield 182, 3) := by decide +kernel
theorem d_Mod_second_66 : decode b_Mod_second 66 = .ok (.bipush 11, 2) := by decide +kernel
theorem d_Mod_second_68 : decode b_Mod_second 68 = .ok (.if_icmp .ne 16, 3) := by decide +kernel
theorem d_Mod_second_71 : decode b_Mod_second 71 = .ok (.aload_n 0, 1) := by decide +kernel
theorem d_Mod_second_72 : decode b_Mod_second 72 = .ok (.iconst 0, 1) := by decide +kernel
theorem d_Mod_second_73 : decode b_Mod_second 73 = .ok (.iload_n 1, 1) := by decide +kernel
theorem d_Mod_second_74 : decode b_Mod_second 74 = .ok (.i2l, 1) := by decide +kernel
theorem d_Mod_second_75 : decode b_Mod_second 75 = .ok (.invokevirtual 243, 3) := by decide +kernel
theorem d_Mod_second_78 : decode b_Mod_second 78 = .ok (.aload_n 0, 1) := by decide +kernel
theorem d_Mod_second_79 : decode b_Mod_second 79 = .ok (.getfield 168, 3) := by decide +kernel
theorem d_Mod_second_82 : decode b_Mod_second 82 = .ok (.l2i, 1) := by decide +kernel
theorem d_Mod_second_83 : decode b_Mod_second 83 = .ok (.istore_n 1, 1) := by decide +kernel
theorem d_Mod_second_84 : decode b_Mod_second 84 = .ok (.aload_n 0, 1) := by decide +kernel
theorem d_Mod_second_85 : decode b_Mod_second 85 = .ok (.getfield 182, 3) := by decide +kernel
theorem d_Mod_second_88 : decode b_Mod_second 88 = .ok (.bipush 10, 2) := by decide +kernel
theorem d_Mod_second_90 : decode b_Mod_second 90 = .ok (.if_icmp .eq 155, 3) := by decide +kernel
theorem d_Mod_second_93 : decode b_Mod_second 93 = .ok (.aload_n 0, 1) := by decide +kernel
theorem d_Mod_second_94 : decode b_Mod_second 94 = .ok (.getfield 182, 3) := by decide +kernel
theorem d_Mod_second_97 : decode b_Mod_second 97 = .ok (.bipush 11, 2) := by decide +kernel
theorem d_Mod_second_99 : decode b_Mod_second 99 = .ok (.if_icmp .ne 6, 3) := by decide +kernel
theorem d_Mod_second_102 : decode b_Mod_second 102 = .ok (.goto 143, 3) := by decide +kernel
theorem d_Mod_second_105 : decode b_Mod_second 105 = .ok (.iload_n 1, 1) := by decide +kernel
theorem d_Mod_second_106 : decode b_Mod_second 106 = .ok (.aload_n 0, 1) := by decide +kernel
theorem d_Mod_second_107 : decode b_Mod_second 107 = .ok (.getfield 177, 3) := by decide +kernel
theorem d_Mod_second_110 : decode b_Mod_second 110 = .ok (.invokestatic 240, 3) := by decide +kernel
theorem d_Mod_second_113 : decode b_Mod_second 113 = .ok (.istore_n 1, 1) := by decide +kernel
theorem d_Mod_second_114 : decode b_Mod_second 114 = .ok (.aload_n 0, 1) := by decide +kernel
theorem d_Mod_second_115 : decode b_Mod_second 115 = .ok (.getfield 182, 3) := by decide +kernel
theorem d_Mod_second_118 : decode b_Mod_second 118 = .ok (.bipush 12, 2) := by decide +kernel
theorem d_Mod_second_120 : decode b_Mod_second 120 = .ok (.if_icmp .ne 88, 3) := by decide +kernel
theorem d_Mod_second_123 : decode b_Mod_second 123 = .ok (.iload 5, 2) := by decide +kernel
theorem d_Mod_second_125 : decode b_Mod_second 125 = .ok (.ifCond .ne 7, 3) := by decide +kernel
theorem d_Mod_second_128 : decode b_Mod_second 128 = .ok (.iload_n 2, 1) := by decide +kernel
theorem d_Mod_second_129 : decode b_Mod_second 129 = .ok (.iconst 1, 1) := by decide +kernel
theorem d_Mod_second_130 : decode b_Mod_second 130 = .ok (.isub, 1) := by decide +kernel
theorem d_Mod_second_131 : decode b_Mod_second 131 = .ok (.ireturn, 1) := by decide +kernel
theorem d_Mod_second_132 : decode b_Mod_second 132 = .ok (.iconst 0, 1) := by decide +kernel
theorem d_Mod_second_133 : decode b_Mod_second 133 = .ok (.istore 6, 2) := by decide +kernel
theorem d_Mod_second_135 : decode b_Mod_second 135 = .ok (.iload 6, 2) := by decide +kernel
theorem d_Mod_second_137 : decode b_Mod_second 137 = .ok (.iload 5, 2) := by decide +kernel
theorem d_Mod_second_139 : decode b_Mod_second 139 = .ok (.if_icmp .ge 56, 3) := by decide +kernel
theorem d_Mod_second_142 : decode b_Mod_second 142 = .ok (.aload_n 0, 1) := by decide +kernel
theorem d_Mod_second_143 : decode b_Mod_second 143 = .ok (.iload 6, 2) := by decide +kernel
theorem d_Mod_second_145 : decode b_Mod_second 145 = .ok (.iload_n 1, 1) := by decide +kernel
theorem d_Mod_second_146 : decode b_Mod_second 146 = .ok (.i2l, 1) := by decide +kernel
theorem d_Mod_second_147 : decode b_Mod_second 147 = .ok (.invokevirtual 243, 3) := by decide +kernel
theorem d_Mod_second_150 : decode b_Mod_second 150 = .ok (.aload_n 0, 1) := by decide +kernel
theorem d_Mod_second_151 : decode b_Mod_second 151 = .ok (.getfield 162, 3) := by decide +kernel
theorem d_Mod_second_154 : decode b_Mod_second 154 = .ok (.ifCond .eq 10, 3) := by decide +kernel
theorem d_Mod_second_157 : decode b_Mod_second 157 = .ok (.aload_n 0, 1) := by decide +kernel
theorem d_Mod_second_158 : decode b_Mod_second 158 = .ok (.getfield 171, 3) := by decide +kernel
theorem d_Mod_second_161 : decode b_Mod_second 161 = .ok (.ifCond .eq 7, 3) := by decide +kernel
theorem d_Mod_second_164 : decode b_Mod_second 164 = .ok (.iload_n 2, 1) := by decide +kernel
theorem d_Mod_second_165 : decode b_Mod_second 165 = .ok (.iconst 1, 1) := by decide +kernel
theorem d_Mod_second_166 : decode b_Mod_second 166 = .ok (.isub, 1) := by decide +kernel
theorem d_Mod_second_167 : decode b_Mod_second 167 = .ok (.ireturn, 1) := by decide +kernel
theorem d_Mod_second_168 : decode b_Mod_second 168 = .ok (.aload_n 0, 1) := by decide +kernel
theorem d_Mod_second_169 : decode b_Mod_second 169 = .ok (.iload_n 1, 1) := by decide +kernel
theorem d_Mod_second_170 : decode b_Mod_second 170 = .ok (.aload_n 0, 1) := by decide +kernel
theorem d_Mod_second_171 : decode b_Mod_second 171 = .ok (.getfield 177, 3) := by decide +kernel
theorem d_Mod_second_174 : decode b_Mod_second 174 = .ok (.iload 6, 2) := by decide +kernel
theorem d_Mod_second_176 : decode b_Mod_second 176 = .ok (.imul, 1) := by decide +kernel
theorem d_Mod_second_177 : decode b_Mod_second 177 = .ok (.iadd, 1) := by decide +kernel
theorem d_Mod_second_178 : decode b_Mod_second 178 = .ok (.aload_n 0, 1) := by decide +kernel
theorem d_Mod_second_179 : decode b_Mod_second 179 = .ok (.getfield 168, 3) := by decide +kernel
theorem d_Mod_second_182 : decode b_Mod_second 182 = .ok (.aload_n 0, 1) := by decide +kernel
theorem d_Mod_second_183 : decode b_Mod_second 183 = .ok (.getfield 177, 3) := by decide +kernel
theorem d_Mod_second_186 : decode b_Mod_second 186 = .ok (.invokevirtual 252, 3) := by decide +kernel
theorem d_Mod_second_189 : decode b_Mod_second 189 = .ok (.iinc 6 1, 3) := by decide +kernel
theorem d_Mod_second_192 : decode b_Mod_second 192 = .ok (.goto (-57), 3) := by decide +kernel
theorem d_Mod_second_195 : decode b_Mod_second 195 = .ok (.iload_n 1, 1) := by decide +kernel
theorem d_Mod_second_196 : decode b_Mod_second 196 = .ok (.iload 5, 2) := by decide +kernel
theorem d_Mod_second_198 : decode b_Mod_second 198 = .ok (.aload_n 0, 1) := by decide +kernel
theorem d_Mod_second_199 : decode b_Mod_second 199 = .ok (.getfield 177, 3) := by decide +kernel
theorem d_Mod_second_202 : decode b_Mod_second 202 = .ok (.imul, 1) := by decide +kernel
theorem d_Mod_second_203 : decode b_Mod_second 203 = .ok (.iadd, 1) := by decide +kernel
theorem d_Mod_second_204 : decode b_Mod_second 204 = .ok (.istore_n 1, 1) := by decide +kernel
theorem d_Mod_second_205 : decode b_Mod_second 205 = .ok (.goto 40, 3) := by decide +kernel
theorem d_Mod_second_208 : decode b_Mod_second 208 = .ok (.aload_n 0, 1) := by decide +kernel
theorem d_Mod_second_209 : decode b_Mod_second 209 = .ok (.iload 5, 2) := by decide +kernel
theorem d_Mod_second_211 : decode b_Mod_second 211 = .ok (.iload_n 1, 1) := by decide +kernel
theorem d_Mod_second_212 : decode b_Mod_second 212 = .ok (.invokevirtual 256, 3) := by decide +kernel
theorem d_Mod_second_215 : decode b_Mod_second 215 = .ok (.ifCond .ne 7, 3) := by decide +kernel
theorem d_Mod_second_218 : decode b_Mod_second 218 = .ok (.iload_n 2, 1) := by decide +kernel
theorem d_Mod_second_219 : decode b_Mod_second 219 = .ok (.iconst 1, 1) := by decide +kernel
theorem d_Mod_second_220 : decode b_Mod_second 220 = .ok (.isub, 1) := by decide +kernel
theorem d_Mod_second_221 : decode b_Mod_second 221 = .ok (.ireturn, 1) := by decide +kernel
theorem d_Mod_second_222 : decode b_Mod_second 222 = .ok (.aload_n 0, 1) := by decide +kernel
theorem d_Mod_second_223 : decode b_Mod_second 223 = .ok (.iload_n 1, 1) := by decide +kernel
theorem d_Mod_second_224 : decode b_Mod_second 224 = .ok (.aload_n 0, 1) := by decide +kernel
theorem d_Mod_second_225 : decode b_Mod_second 225 = .ok (.getfield 187, 3) := by decide +kernel
theorem d_Mod_second_228 : decode b_Mod_second 228 = .ok (.i2l, 1) := by decide +kernel
theorem d_Mod_second_229 : decode b_Mod_second 229 = .ok (.bipush 24, 2) := by decide +kernel
theorem d_Mod_second_231 : decode b_Mod_second 231 = .ok (.lshl, 1) := by decide +kernel
theorem d_Mod_second_232 : decode b_Mod_second 232 = .ok (.aload_n 0, 1) := by decide +kernel
theorem d_Mod_second_233 : decode b_Mod_second 233 = .ok (.getfield 259, 3) := by decide +kernel
theorem d_Mod_second_236 : decode b_Mod_second 236 = .ok (.i2l, 1) := by decide +kernel
theorem d_Mod_second_237 : decode b_Mod_second 237 = .ok (.lor, 1) := by decide +kernel
theorem d_Mod_second_238 : decode b_Mod_second 238 = .ok (.iconst 4, 1) := by decide +kernel
theorem d_Mod_second_239 : decode b_Mod_second 239 = .ok (.invokevirtual 252, 3) := by decide +kernel
theorem d_Mod_second_242 : decode b_Mod_second 242 = .ok (.iinc 1 4, 3) := by decide +kernel
theorem d_Mod_second_245 : decode b_Mod_second 245 = .ok (.aload_n 0, 1) := by decide +kernel
theorem d_Mod_second_246 : decode b_Mod_second 246 = .ok (.iload_n 3, 1) := by decide +kernel
theorem d_Mod_second_247 : decode b_Mod_second 247 = .ok (.invokevirtual 249, 3) := by decide +kernel
theorem d_Mod_second_250 : decode b_Mod_second 250 = .ok (.istore_n 3, 1) := by decide +kernel
theorem d_Mod_second_251 : decode b_Mod_second 251 = .ok (.goto (-221), 3) := by decide +kernel
theorem d_Mod_second_254 : decode b_Mod_second 254 = .ok (.iconst (-1), 1) := by decide +kernel
theorem d_Mod_second_255 : decode b_Mod_second 255 = .ok (.ireturn, 1) := by decide +kernel
