abbrev b_Mod_instruction : ByteArray := prog_14_method_34_code
abbrev b_Mod_isEither : ByteArray := prog_14_method_32_code
abbrev b_Mod_isNumber : ByteArray := prog_14_method_31_code
abbrev b_Mod_isPlace : ByteArray := prog_14_method_33_code
abbrev b_Mod_isRegister : ByteArray := prog_14_method_30_code
abbrev y_Mod_instruction : MethodName := ⟨"LittleMixModel", "instruction", "(II)Z"⟩
abbrev y_Mod_isEither : MethodName := ⟨"LittleMixModel", "isEither", "(II)Z"⟩
abbrev y_Mod_isNumber : MethodName := ⟨"LittleMixModel", "isNumber", "(IIJ)Z"⟩
abbrev y_Mod_isPlace : MethodName := ⟨"LittleMixModel", "isPlace", "(III)Z"⟩
abbrev y_Mod_isRegister : MethodName := ⟨"LittleMixModel", "isRegister", "(II)Z"⟩
theorem p_Mod_isEither : y_Mod_isEither.cls ≠ "java/lang/invoke/MethodHandle" ∧ y_Mod_isEither.cls ≠ "java/lang/invoke/VarHandle" ∧ (parseMethodDescriptor y_Mod_isEither.desc).map (fun d => d.parameters.length) = some 2 := by decide +kernel
theorem p_Mod_isNumber : y_Mod_isNumber.cls ≠ "java/lang/invoke/MethodHandle" ∧ y_Mod_isNumber.cls ≠ "java/lang/invoke/VarHandle" ∧ (parseMethodDescriptor y_Mod_isNumber.desc).map (fun d => d.parameters.length) = some 3 := by decide +kernel
theorem p_Mod_isPlace : y_Mod_isPlace.cls ≠ "java/lang/invoke/MethodHandle" ∧ y_Mod_isPlace.cls ≠ "java/lang/invoke/VarHandle" ∧ (parseMethodDescriptor y_Mod_isPlace.desc).map (fun d => d.parameters.length) = some 3 := by decide +kernel
theorem p_Mod_isRegister : y_Mod_isRegister.cls ≠ "java/lang/invoke/MethodHandle" ∧ y_Mod_isRegister.cls ≠ "java/lang/invoke/VarHandle" ∧ (parseMethodDescriptor y_Mod_isRegister.desc).map (fun d => d.parameters.length) = some 2 := by decide +kernel
theorem k_1015 : (Jvm.Cond.fieldLink "LittleMixModel" (259 : Nat) "LittleMixModel" "xyz" "I") ∈ mx_T := List.mem_filter.mpr ⟨List.mem_append_right _ ((List.mem_append_right _ (List.mem_append_right _ (List.mem_append_right _ (List.mem_append_right _ (List.mem_append_left _ (List.mem_of_getElem? (l := tables_1_5) (i := 55) (by decide +kernel)))))))), rfl⟩
theorem k_1232 : (Jvm.Cond.methodLink "LittleMixModel" (262 : Nat) ({ cls := "LittleMixModel", name := "isRegister", desc := "(II)Z" } : Jvm.MethodName)) ∈ mx_T := List.mem_filter.mpr ⟨List.mem_append_right _ ((List.mem_append_right _ (List.mem_append_right _ (List.mem_append_right _ (List.mem_append_right _ (List.mem_append_right _ (List.mem_of_getElem? (l := tables_1_6) (i := 32) (by decide +kernel)))))))), rfl⟩
theorem k_1234 : (Jvm.Cond.instanceMethod ({ cls := "LittleMixModel", name := "isRegister", desc := "(II)Z" } : Jvm.MethodName)) ∈ mx_T := List.mem_filter.mpr ⟨List.mem_append_right _ ((List.mem_append_right _ (List.mem_append_right _ (List.mem_append_right _ (List.mem_append_right _ (List.mem_append_right _ (List.mem_of_getElem? (l := tables_1_6) (i := 34) (by decide +kernel)))))))), rfl⟩
theorem k_1235 : (Jvm.Cond.code ({ cls := "LittleMixModel", name := "isRegister", desc := "(II)Z" } : Jvm.MethodName) prog_14_method_30_code (3 : Nat) (Option.some Jvm.ClassFile.FieldType.boolean)) ∈ mx_T := List.mem_filter.mpr ⟨List.mem_append_right _ ((List.mem_append_right _ (List.mem_append_right _ (List.mem_append_right _ (List.mem_append_right _ (List.mem_append_right _ (List.mem_of_getElem? (l := tables_1_6) (i := 35) rfl))))))), rfl⟩
theorem k_1236 : (Jvm.Cond.methodLink "LittleMixModel" (265 : Nat) ({ cls := "LittleMixModel", name := "isNumber", desc := "(IIJ)Z" } : Jvm.MethodName)) ∈ mx_T := List.mem_filter.mpr ⟨List.mem_append_right _ ((List.mem_append_right _ (List.mem_append_right _ (List.mem_append_right _ (List.mem_append_right _ (List.mem_append_right _ (List.mem_of_getElem? (l := tables_1_6) (i := 36) (by decide +kernel)))))))), rfl⟩
theorem k_1238 : (Jvm.Cond.instanceMethod ({ cls := "LittleMixModel", name := "isNumber", desc := "(IIJ)Z" } : Jvm.MethodName)) ∈ mx_T := List.mem_filter.mpr ⟨List.mem_append_right _ ((List.mem_append_right _ (List.mem_append_right _ (List.mem_append_right _ (List.mem_append_right _ (List.mem_append_right _ (List.mem_of_getElem? (l := tables_1_6) (i := 38) (by decide +kernel)))))))), rfl⟩
theorem k_1239 : (Jvm.Cond.code ({ cls := "LittleMixModel", name := "isNumber", desc := "(IIJ)Z" } : Jvm.MethodName) prog_14_method_31_code (5 : Nat) (Option.some Jvm.ClassFile.FieldType.boolean)) ∈ mx_T := List.mem_filter.mpr ⟨List.mem_append_right _ ((List.mem_append_right _ (List.mem_append_right _ (List.mem_append_right _ (List.mem_append_right _ (List.mem_append_right _ (List.mem_of_getElem? (l := tables_1_6) (i := 39) rfl))))))), rfl⟩
theorem k_1240 : (Jvm.Cond.methodLink "LittleMixModel" (277 : Nat) ({ cls := "LittleMixModel", name := "isPlace", desc := "(III)Z" } : Jvm.MethodName)) ∈ mx_T := List.mem_filter.mpr ⟨List.mem_append_right _ ((List.mem_append_right _ (List.mem_append_right _ (List.mem_append_right _ (List.mem_append_right _ (List.mem_append_right _ (List.mem_of_getElem? (l := tables_1_6) (i := 40) (by decide +kernel)))))))), rfl⟩
theorem k_1242 : (Jvm.Cond.instanceMethod ({ cls := "LittleMixModel", name := "isPlace", desc := "(III)Z" } : Jvm.MethodName)) ∈ mx_T := List.mem_filter.mpr ⟨List.mem_append_right _ ((List.mem_append_right _ (List.mem_append_right _ (List.mem_append_right _ (List.mem_append_right _ (List.mem_append_right _ (List.mem_of_getElem? (l := tables_1_6) (i := 42) (by decide +kernel)))))))), rfl⟩
theorem k_1243 : (Jvm.Cond.code ({ cls := "LittleMixModel", name := "isPlace", desc := "(III)Z" } : Jvm.MethodName) prog_14_method_33_code (8 : Nat) (Option.some Jvm.ClassFile.FieldType.boolean)) ∈ mx_T := List.mem_filter.mpr ⟨List.mem_append_right _ ((List.mem_append_right _ (List.mem_append_right _ (List.mem_append_right _ (List.mem_append_right _ (List.mem_append_right _ (List.mem_of_getElem? (l := tables_1_6) (i := 43) rfl))))))), rfl⟩
theorem k_1244 : (Jvm.Cond.constantLong "LittleMixModel" (269 : Nat) (3 : Int64)) ∈ mx_T := List.mem_filter.mpr ⟨List.mem_append_right _ ((List.mem_append_right _ (List.mem_append_right _ (List.mem_append_right _ (List.mem_append_right _ (List.mem_append_right _ (List.mem_of_getElem? (l := tables_1_6) (i := 44) (by decide +kernel)))))))), rfl⟩
theorem k_1246 : (Jvm.Cond.constantLong "LittleMixModel" (273 : Nat) (1099511627776 : Int64)) ∈ mx_T := List.mem_filter.mpr ⟨List.mem_append_right _ ((List.mem_append_right _ (List.mem_append_right _ (List.mem_append_right _ (List.mem_append_right _ (List.mem_append_right _ (List.mem_of_getElem? (l := tables_1_6) (i := 46) (by decide +kernel)))))))), rfl⟩
theorem k_1247 : (Jvm.Cond.constantLong "LittleMixModel" (275 : Nat) (-1099511627776 : Int64)) ∈ mx_T := List.mem_filter.mpr ⟨List.mem_append_right _ ((List.mem_append_right _ (List.mem_append_right _ (List.mem_append_right _ (List.mem_append_right _ (List.mem_append_right _ (List.mem_of_getElem? (l := tables_1_6) (i := 47) (by decide +kernel)))))))), rfl⟩
theorem k_1248 : (Jvm.Cond.constantLong "LittleMixModel" (281 : Nat) (65535 : Int64)) ∈ mx_T := List.mem_filter.mpr ⟨List.mem_append_right _ ((List.mem_append_right _ (List.mem_append_right _ (List.mem_append_right _ (List.mem_append_right _ (List.mem_append_right _ (List.mem_of_getElem? (l := tables_1_6) (i := 48) (by decide +kernel)))))))), rfl⟩
theorem k_1249 : (Jvm.Cond.constantLong "LittleMixModel" (283 : Nat) (31 : Int64)) ∈ mx_T := List.mem_filter.mpr ⟨List.mem_append_right _ ((List.mem_append_right _ (List.mem_append_right _ (List.mem_append_right _ (List.mem_append_right _ (List.mem_append_right _ (List.mem_of_getElem? (l := tables_1_6) (i := 49) (by decide +kernel)))))))), rfl⟩
theorem k_1259 : (Jvm.Cond.methodLink "LittleMixModel" (289 : Nat) ({ cls := "LittleMixModel", name := "isEither", desc := "(II)Z" } : Jvm.MethodName)) ∈ mx_T := List.mem_filter.mpr ⟨List.mem_append_right _ ((List.mem_append_right _ (List.mem_append_right _ (List.mem_append_right _ (List.mem_append_right _ (List.mem_append_right _ (List.mem_of_getElem? (l := tables_1_6) (i := 59) (by decide +kernel)))))))), rfl⟩
theorem k_1261 : (Jvm.Cond.instanceMethod ({ cls := "LittleMixModel", name := "isEither", desc := "(II)Z" } : Jvm.MethodName)) ∈ mx_T := List.mem_filter.mpr ⟨List.mem_append_right _ ((List.mem_append_right _ (List.mem_append_right _ (List.mem_append_right _ (List.mem_append_right _ (List.mem_append_right _ (List.mem_of_getElem? (l := tables_1_6) (i := 61) (by decide +kernel)))))))), rfl⟩
theorem k_1262 : (Jvm.Cond.code ({ cls := "LittleMixModel", name := "isEither", desc := "(II)Z" } : Jvm.MethodName) prog_14_method_32_code (3 : Nat) (Option.some Jvm.ClassFile.FieldType.boolean)) ∈ mx_T := List.mem_filter.mpr ⟨List.mem_append_right _ ((List.mem_append_right _ (List.mem_append_right _ (List.mem_append_right _ (List.mem_append_right _ (List.mem_append_right _ (List.mem_of_getElem? (l := tables_1_6) (i := 62) rfl))))))), rfl⟩
theorem sl_Mod_isRegister : Cond.selects y_Mod_isRegister.cls y_Mod_isRegister y_Mod_isRegister ∈ mx_T := List.mem_filter.mpr ⟨List.mem_append_left _ (by decide +kernel), by decide +kernel⟩
theorem sl_Mod_isNumber : Cond.selects y_Mod_isNumber.cls y_Mod_isNumber y_Mod_isNumber ∈ mx_T := List.mem_filter.mpr ⟨List.mem_append_left _ (by decide +kernel), by decide +kernel⟩
theorem sl_Mod_isPlace : Cond.selects y_Mod_isPlace.cls y_Mod_isPlace y_Mod_isPlace ∈ mx_T := List.mem_filter.mpr ⟨List.mem_append_left _ (by decide +kernel), by decide +kernel⟩
theorem sl_Mod_isEither : Cond.selects y_Mod_isEither.cls y_Mod_isEither y_Mod_isEither ∈ mx_T := List.mem_filter.mpr ⟨List.mem_append_left _ (by decide +kernel), by decide +kernel⟩
theorem d_Mod_instruction_0 : decode b_Mod_instruction 0 = .ok (.aload_n 0, 1) := by decide +kernel
theorem d_Mod_instruction_1 : decode b_Mod_instruction 1 = .ok (.getfield 182, 3) := by decide +kernel
theorem d_Mod_instruction_4 : decode b_Mod_instruction 4 = .ok (.tableswitch 456 0 9 #[56, 137, 209, 209, 322, 351, 209, 395, 456, 56], 56) := by decide +kernel
theorem d_Mod_instruction_60 : decode b_Mod_instruction 60 = .ok (.iload_n 1, 1) := by decide +kernel
theorem d_Mod_instruction_61 : decode b_Mod_instruction 61 = .ok (.iconst 3, 1) := by decide +kernel
theorem d_Mod_instruction_62 : decode b_Mod_instruction 62 = .ok (.if_icmp .ne 34, 3) := by decide +kernel
theorem d_Mod_instruction_65 : decode b_Mod_instruction 65 = .ok (.aload_n 0, 1) := by decide +kernel
theorem d_Mod_instruction_66 : decode b_Mod_instruction 66 = .ok (.getfield 182, 3) := by decide +kernel
theorem d_Mod_instruction_69 : decode b_Mod_instruction 69 = .ok (.ifCond .ne 15, 3) := by decide +kernel
theorem d_Mod_instruction_72 : decode b_Mod_instruction 72 = .ok (.aload_n 0, 1) := by decide +kernel
theorem d_Mod_instruction_73 : decode b_Mod_instruction 73 = .ok (.iconst 0, 1) := by decide +kernel
theorem d_Mod_instruction_74 : decode b_Mod_instruction 74 = .ok (.iload_n 2, 1) := by decide +kernel
theorem d_Mod_instruction_75 : decode b_Mod_instruction 75 = .ok (.invokevirtual 262, 3) := by decide +kernel
theorem d_Mod_instruction_78 : decode b_Mod_instruction 78 = .ok (.ifCond .eq 18, 3) := by decide +kernel
theorem d_Mod_instruction_81 : decode b_Mod_instruction 81 = .ok (.goto 17, 3) := by decide +kernel
theorem d_Mod_instruction_84 : decode b_Mod_instruction 84 = .ok (.aload_n 0, 1) := by decide +kernel
theorem d_Mod_instruction_85 : decode b_Mod_instruction 85 = .ok (.iconst 0, 1) := by decide +kernel
theorem d_Mod_instruction_86 : decode b_Mod_instruction 86 = .ok (.iload_n 2, 1) := by decide +kernel
theorem d_Mod_instruction_87 : decode b_Mod_instruction 87 = .ok (.ldc2_w 153, 3) := by decide +kernel
theorem d_Mod_instruction_90 : decode b_Mod_instruction 90 = .ok (.invokevirtual 265, 3) := by decide +kernel
theorem d_Mod_instruction_93 : decode b_Mod_instruction 93 = .ok (.ifCond .ne 5, 3) := by decide +kernel
theorem d_Mod_instruction_96 : decode b_Mod_instruction 96 = .ok (.iconst 0, 1) := by decide +kernel
theorem d_Mod_instruction_97 : decode b_Mod_instruction 97 = .ok (.ireturn, 1) := by decide +kernel
theorem d_Mod_instruction_98 : decode b_Mod_instruction 98 = .ok (.aload_n 0, 1) := by decide +kernel
theorem d_Mod_instruction_99 : decode b_Mod_instruction 99 = .ok (.aload_n 0, 1) := by decide +kernel
theorem d_Mod_instruction_100 : decode b_Mod_instruction 100 = .ok (.getfield 168, 3) := by decide +kernel
theorem d_Mod_instruction_103 : decode b_Mod_instruction 103 = .ok (.l2i, 1) := by decide +kernel
theorem d_Mod_instruction_104 : decode b_Mod_instruction 104 = .ok (.bipush 16, 2) := by decide +kernel
theorem d_Mod_instruction_106 : decode b_Mod_instruction 106 = .ok (.ishl, 1) := by decide +kernel
theorem d_Mod_instruction_107 : decode b_Mod_instruction 107 = .ok (.putfield 259, 3) := by decide +kernel
theorem d_Mod_instruction_110 : decode b_Mod_instruction 110 = .ok (.aload_n 0, 1) := by decide +kernel
theorem d_Mod_instruction_111 : decode b_Mod_instruction 111 = .ok (.iconst 1, 1) := by decide +kernel
theorem d_Mod_instruction_112 : decode b_Mod_instruction 112 = .ok (.iload_n 2, 1) := by decide +kernel
theorem d_Mod_instruction_113 : decode b_Mod_instruction 113 = .ok (.invokevirtual 262, 3) := by decide +kernel
theorem d_Mod_instruction_116 : decode b_Mod_instruction 116 = .ok (.ifCond .ne 5, 3) := by decide +kernel
theorem d_Mod_instruction_119 : decode b_Mod_instruction 119 = .ok (.iconst 0, 1) := by decide +kernel
theorem d_Mod_instruction_120 : decode b_Mod_instruction 120 = .ok (.ireturn, 1) := by decide +kernel
theorem d_Mod_instruction_121 : decode b_Mod_instruction 121 = .ok (.aload_n 0, 1) := by decide +kernel
theorem d_Mod_instruction_122 : decode b_Mod_instruction 122 = .ok (.dup, 1) := by decide +kernel
theorem d_Mod_instruction_123 : decode b_Mod_instruction 123 = .ok (.getfield 259, 3) := by decide +kernel
theorem d_Mod_instruction_126 : decode b_Mod_instruction 126 = .ok (.aload_n 0, 1) := by decide +kernel
theorem d_Mod_instruction_127 : decode b_Mod_instruction 127 = .ok (.getfield 168, 3) := by decide +kernel
theorem d_Mod_instruction_130 : decode b_Mod_instruction 130 = .ok (.l2i, 1) := by decide +kernel
theorem d_Mod_instruction_131 : decode b_Mod_instruction 131 = .ok (.bipush 8, 2) := by decide +kernel
theorem d_Mod_instruction_133 : decode b_Mod_instruction 133 = .ok (.ishl, 1) := by decide +kernel
theorem d_Mod_instruction_134 : decode b_Mod_instruction 134 = .ok (.ior, 1) := by decide +kernel
theorem d_Mod_instruction_135 : decode b_Mod_instruction 135 = .ok (.putfield 259, 3) := by decide +kernel
theorem d_Mod_instruction_138 : decode b_Mod_instruction 138 = .ok (.goto 385, 3) := by decide +kernel
theorem d_Mod_instruction_141 : decode b_Mod_instruction 141 = .ok (.iload_n 1, 1) := by decide +kernel
theorem d_Mod_instruction_142 : decode b_Mod_instruction 142 = .ok (.iconst 2, 1) := by decide +kernel
theorem d_Mod_instruction_143 : decode b_Mod_instruction 143 = .ok (.if_icmp .eq 8, 3) := by decide +kernel
theorem d_Mod_instruction_146 : decode b_Mod_instruction 146 = .ok (.iload_n 1, 1) := by decide +kernel
theorem d_Mod_instruction_147 : decode b_Mod_instruction 147 = .ok (.iconst 3, 1) := by decide +kernel
theorem d_Mod_instruction_148 : decode b_Mod_instruction 148 = .ok (.if_icmp .ne 12, 3) := by decide +kernel
theorem d_Mod_instruction_151 : decode b_Mod_instruction 151 = .ok (.aload_n 0, 1) := by decide +kernel
theorem d_Mod_instruction_152 : decode b_Mod_instruction 152 = .ok (.iconst 0, 1) := by decide +kernel
theorem d_Mod_instruction_153 : decode b_Mod_instruction 153 = .ok (.iload_n 2, 1) := by decide +kernel
theorem d_Mod_instruction_154 : decode b_Mod_instruction 154 = .ok (.invokevirtual 262, 3) := by decide +kernel
theorem d_Mod_instruction_157 : decode b_Mod_instruction 157 = .ok (.ifCond .ne 5, 3) := by decide +kernel
theorem d_Mod_instruction_160 : decode b_Mod_instruction 160 = .ok (.iconst 0, 1) := by decide +kernel
theorem d_Mod_instruction_161 : decode b_Mod_instruction 161 = .ok (.ireturn, 1) := by decide +kernel
theorem d_Mod_instruction_162 : decode b_Mod_instruction 162 = .ok (.aload_n 0, 1) := by decide +kernel
theorem d_Mod_instruction_163 : decode b_Mod_instruction 163 = .ok (.aload_n 0, 1) := by decide +kernel
theorem d_Mod_instruction_164 : decode b_Mod_instruction 164 = .ok (.getfield 168, 3) := by decide +kernel
theorem d_Mod_instruction_167 : decode b_Mod_instruction 167 = .ok (.l2i, 1) := by decide +kernel
theorem d_Mod_instruction_168 : decode b_Mod_instruction 168 = .ok (.bipush 16, 2) := by decide +kernel
theorem d_Mod_instruction_170 : decode b_Mod_instruction 170 = .ok (.ishl, 1) := by decide +kernel
theorem d_Mod_instruction_171 : decode b_Mod_instruction 171 = .ok (.putfield 259, 3) := by decide +kernel
theorem d_Mod_instruction_174 : decode b_Mod_instruction 174 = .ok (.iload_n 1, 1) := by decide +kernel
theorem d_Mod_instruction_175 : decode b_Mod_instruction 175 = .ok (.iconst 3, 1) := by decide +kernel
theorem d_Mod_instruction_176 : decode b_Mod_instruction 176 = .ok (.if_icmp .ne 347, 3) := by decide +kernel
theorem d_Mod_instruction_179 : decode b_Mod_instruction 179 = .ok (.aload_n 0, 1) := by decide +kernel
theorem d_Mod_instruction_180 : decode b_Mod_instruction 180 = .ok (.iconst 1, 1) := by decide +kernel
theorem d_Mod_instruction_181 : decode b_Mod_instruction 181 = .ok (.iload_n 2, 1) := by decide +kernel
theorem d_Mod_instruction_182 : decode b_Mod_instruction 182 = .ok (.ldc2_w 153, 3) := by decide +kernel
theorem d_Mod_instruction_185 : decode b_Mod_instruction 185 = .ok (.invokevirtual 265, 3) := by decide +kernel
theorem d_Mod_instruction_188 : decode b_Mod_instruction 188 = .ok (.ifCond .ne 5, 3) := by decide +kernel
theorem d_Mod_instruction_191 : decode b_Mod_instruction 191 = .ok (.iconst 0, 1) := by decide +kernel
theorem d_Mod_instruction_192 : decode b_Mod_instruction 192 = .ok (.ireturn, 1) := by decide +kernel
theorem d_Mod_instruction_193 : decode b_Mod_instruction 193 = .ok (.aload_n 0, 1) := by decide +kernel
theorem d_Mod_instruction_194 : decode b_Mod_instruction 194 = .ok (.dup, 1) := by decide +kernel
theorem d_Mod_instruction_195 : decode b_Mod_instruction 195 = .ok (.getfield 259, 3) := by decide +kernel
theorem d_Mod_instruction_198 : decode b_Mod_instruction 198 = .ok (.aload_n 0, 1) := by decide +kernel
theorem d_Mod_instruction_199 : decode b_Mod_instruction 199 = .ok (.getfield 168, 3) := by decide +kernel
theorem d_Mod_instruction_202 : decode b_Mod_instruction 202 = .ok (.l2i, 1) := by decide +kernel
theorem d_Mod_instruction_203 : decode b_Mod_instruction 203 = .ok (.bipush 8, 2) := by decide +kernel
theorem d_Mod_instruction_205 : decode b_Mod_instruction 205 = .ok (.ishl, 1) := by decide +kernel
theorem d_Mod_instruction_206 : decode b_Mod_instruction 206 = .ok (.ior, 1) := by decide +kernel
theorem d_Mod_instruction_207 : decode b_Mod_instruction 207 = .ok (.putfield 259, 3) := by decide +kernel
theorem d_Mod_instruction_210 : decode b_Mod_instruction 210 = .ok (.goto 313, 3) := by decide +kernel
theorem d_Mod_instruction_213 : decode b_Mod_instruction 213 = .ok (.iload_n 1, 1) := by decide +kernel
theorem d_Mod_instruction_214 : decode b_Mod_instruction 214 = .ok (.iconst 2, 1) := by decide +kernel
theorem d_Mod_instruction_215 : decode b_Mod_instruction 215 = .ok (.if_icmp .ne 12, 3) := by decide +kernel
theorem d_Mod_instruction_218 : decode b_Mod_instruction 218 = .ok (.aload_n 0, 1) := by decide +kernel
theorem d_Mod_instruction_219 : decode b_Mod_instruction 219 = .ok (.iconst 0, 1) := by decide +kernel
theorem d_Mod_instruction_220 : decode b_Mod_instruction 220 = .ok (.iload_n 2, 1) := by decide +kernel
theorem d_Mod_instruction_221 : decode b_Mod_instruction 221 = .ok (.invokevirtual 262, 3) := by decide +kernel
theorem d_Mod_instruction_224 : decode b_Mod_instruction 224 = .ok (.ifCond .ne 5, 3) := by decide +kernel
theorem d_Mod_instruction_227 : decode b_Mod_instruction 227 = .ok (.iconst 0, 1) := by decide +kernel
theorem d_Mod_instruction_228 : decode b_Mod_instruction 228 = .ok (.ireturn, 1) := by decide +kernel
theorem d_Mod_instruction_229 : decode b_Mod_instruction 229 = .ok (.aload_n 0, 1) := by decide +kernel
theorem d_Mod_instruction_230 : decode b_Mod_instruction 230 = .ok (.aload_n 0, 1) := by decide +kernel
theorem d_Mod_instruction_231 : decode b_Mod_instruction 231 = .ok (.getfield 168, 3) := by decide +kernel
theorem d_Mod_instruction_234 : decode b_Mod_instruction 234 = .ok (.l2i, 1) := by decide +kernel
theorem d_Mod_instruction_235 : decode b_Mod_instruction 235 = .ok (.bipush 16, 2) := by decide +kernel
theorem d_Mod_instruction_237 : decode b_Mod_instruction 237 = .ok (.ishl, 1) := by decide +kernel
theorem d_Mod_instruction_238 : decode b_Mod_instruction 238 = .ok (.putfield 259, 3) := by decide +kernel
theorem d_Mod_instruction_241 : decode b_Mod_instruction 241 = .ok (.aload_n 0, 1) := by decide +kernel
theorem d_Mod_instruction_242 : decode b_Mod_instruction 242 = .ok (.getfield 182, 3) := by decide +kernel
theorem d_Mod_instruction_245 : decode b_Mod_instruction 245 = .ok (.iconst 2, 1) := by decide +kernel
theorem d_Mod_instruction_246 : decode b_Mod_instruction 246 = .ok (.if_icmp .ne 17, 3) := by decide +kernel
theorem d_Mod_instruction_249 : decode b_Mod_instruction 249 = .ok (.aload_n 0, 1) := by decide +kernel
theorem d_Mod_instruction_250 : decode b_Mod_instruction 250 = .ok (.iconst 1, 1) := by decide +kernel
theorem d_Mod_instruction_251 : decode b_Mod_instruction 251 = .ok (.iload_n 2, 1) := by decide +kernel
theorem d_Mod_instruction_252 : decode b_Mod_instruction 252 = .ok (.bipush 16, 2) := by decide +kernel
theorem d_Mod_instruction_254 : decode b_Mod_instruction 254 = .ok (.invokevirtual 277, 3) := by decide +kernel
theorem d_Mod_instruction_257 : decode b_Mod_instruction 257 = .ok (.ifCond .eq 51, 3) := by decide +kernel
theorem d_Mod_instruction_260 : decode b_Mod_instruction 260 = .ok (.goto 50, 3) := by decide +kernel
theorem d_Mod_instruction_263 : decode b_Mod_instruction 263 = .ok (.aload_n 0, 1) := by decide +kernel
theorem d_Mod_instruction_264 : decode b_Mod_instruction 264 = .ok (.getfield 182, 3) := by decide +kernel
theorem d_Mod_instruction_267 : decode b_Mod_instruction 267 = .ok (.iconst 3, 1) := by decide +kernel
theorem d_Mod_instruction_268 : decode b_Mod_instruction 268 = .ok (.if_icmp .ne 18, 3) := by decide +kernel
theorem d_Mod_instruction_271 : decode b_Mod_instruction 271 = .ok (.aload_n 0, 1) := by decide +kernel
theorem d_Mod_instruction_272 : decode b_Mod_instruction 272 = .ok (.iconst 1, 1) := by decide +kernel
theorem d_Mod_instruction_273 : decode b_Mod_instruction 273 = .ok (.iload_n 2, 1) := by decide +kernel
theorem d_Mod_instruction_274 : decode b_Mod_instruction 274 = .ok (.ldc2_w 281, 3) := by decide +kernel
theorem d_Mod_instruction_277 : decode b_Mod_instruction 277 = .ok (.invokevirtual 265, 3) := by decide +kernel
theorem d_Mod_instruction_280 : decode b_Mod_instruction 280 = .ok (.ifCond .eq 28, 3) := by decide +kernel
theorem d_Mod_instruction_283 : decode b_Mod_instruction 283 = .ok (.goto 27, 3) := by decide +kernel
theorem d_Mod_instruction_286 : decode b_Mod_instruction 286 = .ok (.aload_n 0, 1) := by decide +kernel
theorem d_Mod_instruction_287 : decode b_Mod_instruction 287 = .ok (.iconst 1, 1) := by decide +kernel
theorem d_Mod_instruction_288 : decode b_Mod_instruction 288 = .ok (.iload_n 2, 1) := by decide +kernel
theorem d_Mod_instruction_289 : decode b_Mod_instruction 289 = .ok (.ldc2_w 283, 3) := by decide +kernel
theorem d_Mod_instruction_292 : decode b_Mod_instruction 292 = .ok (.invokevirtual 265, 3) := by decide +kernel
theorem d_Mod_instruction_295 : decode b_Mod_instruction 295 = .ok (.ifCond .eq 13, 3) := by decide +kernel
theorem d_Mod_instruction_298 : decode b_Mod_instruction 298 = .ok (.aload_n 0, 1) := by decide +kernel
theorem d_Mod_instruction_299 : decode b_Mod_instruction 299 = .ok (.getfield 168, 3) := by decide +kernel
theorem d_Mod_instruction_302 : decode b_Mod_instruction 302 = .ok (.invokestatic 285, 3) := by decide +kernel
theorem d_Mod_instruction_305 : decode b_Mod_instruction 305 = .ok (.ifCond .ne 5, 3) := by decide +kernel
theorem d_Mod_instruction_308 : decode b_Mod_instruction 308 = .ok (.iconst 0, 1) := by decide +kernel
theorem d_Mod_instruction_309 : decode b_Mod_instruction 309 = .ok (.ireturn, 1) := by decide +kernel
theorem d_Mod_instruction_310 : decode b_Mod_instruction 310 = .ok (.aload_n 0, 1) := by decide +kernel
theorem d_Mod_instruction_311 : decode b_Mod_instruction 311 = .ok (.dup, 1) := by decide +kernel
theorem d_Mod_instruction_312 : decode b_Mod_instruction 312 = .ok (.getfield 259, 3) := by decide +kernel
theorem d_Mod_instruction_315 : decode b_Mod_instruction 315 = .ok (.aload_n 0, 1) := by decide +kernel
theorem d_Mod_instruction_316 : decode b_Mod_instruction 316 = .ok (.getfield 168, 3) := by decide +kernel
theorem d_Mod_instruction_319 : decode b_Mod_instruction 319 = .ok (.l2i, 1) := by decide +kernel
theorem d_Mod_instruction_320 : decode b_Mod_instruction 320 = .ok (.ior, 1) := by decide +kernel
theorem d_Mod_instruction_321 : decode b_Mod_instruction 321 = .ok (.putfield 259, 3) := by decide +kernel
theorem d_Mod_instruction_324 : decode b_Mod_instruction 324 = .ok (.iconst 1, 1) := by decide +kernel
theorem d_Mod_instruction_325 : decode b_Mod_instruction 325 = .ok (.ireturn, 1) := by decide +kernel
theorem d_Mod_instruction_326 : decode b_Mod_instruction 326 = .ok (.iload_n 1, 1) := by decide +kernel
theorem d_Mod_instruction_327 : decode b_Mod_instruction 327 = .ok (.iconst 1, 1) := by decide +kernel
theorem d_Mod_instruction_328 : decode b_Mod_instruction 328 = .ok (.if_icmp .ne 14, 3) := by decide +kernel
theorem d_Mod_instruction_331 : decode b_Mod_instruction 331 = .ok (.aload_n 0, 1) := by decide +kernel
theorem d_Mod_instruction_332 : decode b_Mod_instruction 332 = .ok (.iconst 0, 1) := by decide +kernel
theorem d_Mod_instruction_333 : decode b_Mod_instruction 333 = .ok (.iload_n 2, 1) := by decide +kernel
theorem d_Mod_instruction_334 : decode b_Mod_instruction 334 = .ok (.bipush 24, 2) := by decide +kernel
theorem d_Mod_instruction_336 : decode b_Mod_instruction 336 = .ok (.invokevirtual 277, 3) := by decide +kernel
theorem d_Mod_instruction_339 : decode b_Mod_instruction 339 = .ok (.ifCond .ne 5, 3) := by decide +kernel
theorem d_Mod_instruction_342 : decode b_Mod_instruction 342 = .ok (.iconst 0, 1) := by decide +kernel
theorem d_Mod_instruction_343 : decode b_Mod_instruction 343 = .ok (.ireturn, 1) := by decide +kernel
theorem d_Mod_instruction_344 : decode b_Mod_instruction 344 = .ok (.aload_n 0, 1) := by decide +kernel
theorem d_Mod_instruction_345 : decode b_Mod_instruction 345 = .ok (.aload_n 0, 1) := by decide +kernel
theorem d_Mod_instruction_346 : decode b_Mod_instruction 346 = .ok (.getfield 168, 3) := by decide +kernel
theorem d_Mod_instruction_349 : decode b_Mod_instruction 349 = .ok (.l2i, 1) := by decide +kernel
theorem d_Mod_instruction_350 : decode b_Mod_instruction 350 = .ok (.putfield 259, 3) := by decide +kernel
theorem d_Mod_instruction_353 : decode b_Mod_instruction 353 = .ok (.iconst 1, 1) := by decide +kernel
theorem d_Mod_instruction_354 : decode b_Mod_instruction 354 = .ok (.ireturn, 1) := by decide +kernel
theorem d_Mod_instruction_355 : decode b_Mod_instruction 355 = .ok (.iload_n 1, 1) := by decide +kernel
theorem d_Mod_instruction_356 : decode b_Mod_instruction 356 = .ok (.iconst 2, 1) := by decide +kernel
theorem d_Mod_instruction_357 : decode b_Mod_instruction 357 = .ok (.if_icmp .ne 25, 3) := by decide +kernel
theorem d_Mod_instruction_360 : decode b_Mod_instruction 360 = .ok (.aload_n 0, 1) := by decide +kernel
theorem d_Mod_instruction_361 : decode b_Mod_instruction 361 = .ok (.iconst 0, 1) := by decide +kernel
theorem d_Mod_instruction_362 : decode b_Mod_instruction 362 = .ok (.iload_n 2, 1) := by decide +kernel
theorem d_Mod_instruction_363 : decode b_Mod_instruction 363 = .ok (.ldc2_w 283, 3) := by decide +kernel
theorem d_Mod_instruction_366 : decode b_Mod_instruction 366 = .ok (.invokevirtual 265, 3) := by decide +kernel
theorem d_Mod_instruction_369 : decode b_Mod_instruction 369 = .ok (.ifCond .eq 13, 3) := by decide +kernel
theorem d_Mod_instruction_372 : decode b_Mod_instruction 372 = .ok (.aload_n 0, 1) := by decide +kernel
theorem d_Mod_instruction_373 : decode b_Mod_instruction 373 = .ok (.getfield 168, 3) := by decide +kernel
theorem d_Mod_instruction_376 : decode b_Mod_instruction 376 = .ok (.invokestatic 285, 3) := by decide +kernel
theorem d_Mod_instruction_379 : decode b_Mod_instruction 379 = .ok (.ifCond .ne 5, 3) := by decide +kernel
theorem d_Mod_instruction_382 : decode b_Mod_instruction 382 = .ok (.iconst 0, 1) := by decide +kernel
theorem d_Mod_instruction_383 : decode b_Mod_instruction 383 = .ok (.ireturn, 1) := by decide +kernel
theorem d_Mod_instruction_384 : decode b_Mod_instruction 384 = .ok (.aload_n 0, 1) := by decide +kernel
theorem d_Mod_instruction_385 : decode b_Mod_instruction 385 = .ok (.aload_n 0, 1) := by decide +kernel
theorem d_Mod_instruction_386 : decode b_Mod_instruction 386 = .ok (.getfield 168, 3) := by decide +kernel
theorem d_Mod_instruction_389 : decode b_Mod_instruction 389 = .ok (.l2i, 1) := by decide +kernel
theorem d_Mod_instruction_390 : decode b_Mod_instruction 390 = .ok (.bipush 16, 2) := by decide +kernel
theorem d_Mod_instruction_392 : decode b_Mod_instruction 392 = .ok (.ishl, 1) := by decide +kernel
theorem d_Mod_instruction_393 : decode b_Mod_instruction 393 = .ok (.putfield 259, 3) := by decide +kernel
theorem d_Mod_instruction_396 : decode b_Mod_instruction 396 = .ok (.goto 127, 3) := by decide +kernel
theorem d_Mod_instruction_399 : decode b_Mod_instruction 399 = .ok (.iload_n 1, 1) := by decide +kernel
theorem d_Mod_instruction_400 : decode b_Mod_instruction 400 = .ok (.iconst 2, 1) := by decide +kernel
theorem d_Mod_instruction_401 : decode b_Mod_instruction 401 = .ok (.if_icmp .ne 15, 3) := by decide +kernel
theorem d_Mod_instruction_404 : decode b_Mod_instruction 404 = .ok (.aload_n 0, 1) := by decide +kernel
theorem d_Mod_instruction_405 : decode b_Mod_instruction 405 = .ok (.iconst 0, 1) := by decide +kernel
theorem d_Mod_instruction_406 : decode b_Mod_instruction 406 = .ok (.iload_n 2, 1) := by decide +kernel
theorem d_Mod_instruction_407 : decode b_Mod_instruction 407 = .ok (.ldc2_w 153, 3) := by decide +kernel
theorem d_Mod_instruction_410 : decode b_Mod_instruction 410 = .ok (.invokevirtual 265, 3) := by decide +kernel
theorem d_Mod_instruction_413 : decode b_Mod_instruction 413 = .ok (.ifCond .ne 5, 3) := by decide +kernel
theorem d_Mod_instruction_416 : decode b_Mod_instruction 416 = .ok (.iconst 0, 1) := by decide +kernel
theorem d_Mod_instruction_417 : decode b_Mod_instruction 417 = .ok (.ireturn, 1) := by decide +kernel
theorem d_Mod_instruction_418 : decode b_Mod_instruction 418 = .ok (.aload_n 0, 1) := by decide +kernel
theorem d_Mod_instruction_419 : decode b_Mod_instruction 419 = .ok (.aload_n 0, 1) := by decide +kernel
theorem d_Mod_instruction_420 : decode b_Mod_instruction 420 = .ok (.getfield 168, 3) := by decide +kernel
theorem d_Mod_instruction_423 : decode b_Mod_instruction 423 = .ok (.l2i, 1) := by decide +kernel
theorem d_Mod_instruction_424 : decode b_Mod_instruction 424 = .ok (.bipush 16, 2) := by decide +kernel
theorem d_Mod_instruction_426 : decode b_Mod_instruction 426 = .ok (.ishl, 1) := by decide +kernel
theorem d_Mod_instruction_427 : decode b_Mod_instruction 427 = .ok (.putfield 259, 3) := by decide +kernel
theorem d_Mod_instruction_430 : decode b_Mod_instruction 430 = .ok (.aload_n 0, 1) := by decide +kernel
theorem d_Mod_instruction_431 : decode b_Mod_instruction 431 = .ok (.iconst 1, 1) := by decide +kernel
theorem d_Mod_instruction_432 : decode b_Mod_instruction 432 = .ok (.iload_n 2, 1) := by decide +kernel
theorem d_Mod_instruction_433 : decode b_Mod_instruction 433 = .ok (.ldc2_w 281, 3) := by decide +kernel
theorem d_Mod_instruction_436 : decode b_Mod_instruction 436 = .ok (.invokevirtual 265, 3) := by decide +kernel
theorem d_Mod_instruction_439 : decode b_Mod_instruction 439 = .ok (.ifCond .ne 5, 3) := by decide +kernel
theorem d_Mod_instruction_442 : decode b_Mod_instruction 442 = .ok (.iconst 0, 1) := by decide +kernel
theorem d_Mod_instruction_443 : decode b_Mod_instruction 443 = .ok (.ireturn, 1) := by decide +kernel
theorem d_Mod_instruction_444 : decode b_Mod_instruction 444 = .ok (.aload_n 0, 1) := by decide +kernel
theorem d_Mod_instruction_445 : decode b_Mod_instruction 445 = .ok (.dup, 1) := by decide +kernel
theorem d_Mod_instruction_446 : decode b_Mod_instruction 446 = .ok (.getfield 259, 3) := by decide +kernel
theorem d_Mod_instruction_449 : decode b_Mod_instruction 449 = .ok (.aload_n 0, 1) := by decide +kernel
theorem d_Mod_instruction_450 : decode b_Mod_instruction 450 = .ok (.getfield 168, 3) := by decide +kernel
theorem d_Mod_instruction_453 : decode b_Mod_instruction 453 = .ok (.l2i, 1) := by decide +kernel
theorem d_Mod_instruction_454 : decode b_Mod_instruction 454 = .ok (.ior, 1) := by decide +kernel
theorem d_Mod_instruction_455 : decode b_Mod_instruction 455 = .ok (.putfield 259, 3) := by decide +kernel
theorem d_Mod_instruction_458 : decode b_Mod_instruction 458 = .ok (.iconst 1, 1) := by decide +kernel
theorem d_Mod_instruction_459 : decode b_Mod_instruction 459 = .ok (.ireturn, 1) := by decide +kernel
theorem d_Mod_instruction_460 : decode b_Mod_instruction 460 = .ok (.iload_n 1, 1) := by decide +kernel
theorem d_Mod_instruction_461 : decode b_Mod_instruction 461 = .ok (.iconst 3, 1) := by decide +kernel
theorem d_Mod_instruction_462 : decode b_Mod_instruction 462 = .ok (.if_icmp .le 5, 3) := by decide +kernel
theorem d_Mod_instruction_465 : decode b_Mod_instruction 465 = .ok (.iconst 0, 1) := by decide +kernel
theorem d_Mod_instruction_466 : decode b_Mod_instruction 466 = .ok (.ireturn, 1) := by decide +kernel
theorem d_Mod_instruction_467 : decode b_Mod_instruction 467 = .ok (.aload_n 0, 1) := by decide +kernel
theorem d_Mod_instruction_468 : decode b_Mod_instruction 468 = .ok (.iconst 0, 1) := by decide +kernel
theorem d_Mod_instruction_469 : decode b_Mod_instruction 469 = .ok (.putfield 259, 3) := by decide +kernel
theorem d_Mod_instruction_472 : decode b_Mod_instruction 472 = .ok (.iconst 0, 1) := by decide +kernel
theorem d_Mod_instruction_473 : decode b_Mod_instruction 473 = .ok (.istore_n 3, 1) := by decide +kernel
theorem d_Mod_instruction_474 : decode b_Mod_instruction 474 = .ok (.iload_n 3, 1) := by decide +kernel
theorem d_Mod_instruction_475 : decode b_Mod_instruction 475 = .ok (.iload_n 1, 1) := by decide +kernel
theorem d_Mod_instruction_476 : decode b_Mod_instruction 476 = .ok (.if_icmp .ge 45, 3) := by decide +kernel
theorem d_Mod_instruction_479 : decode b_Mod_instruction 479 = .ok (.aload_n 0, 1) := by decide +kernel
theorem d_Mod_instruction_480 : decode b_Mod_instruction 480 = .ok (.iload_n 3, 1) := by decide +kernel
theorem d_Mod_instruction_481 : decode b_Mod_instruction 481 = .ok (.iload_n 2, 1) := by decide +kernel
theorem d_Mod_instruction_482 : decode b_Mod_instruction 482 = .ok (.ldc2_w 153, 3) := by decide +kernel
theorem d_Mod_instruction_485 : decode b_Mod_instruction 485 = .ok (.invokevirtual 265, 3) := by decide +kernel
theorem d_Mod_instruction_488 : decode b_Mod_instruction 488 = .ok (.ifCond .ne 5, 3) := by decide +kernel
theorem d_Mod_instruction_491 : decode b_Mod_instruction 491 = .ok (.iconst 0, 1) := by decide +kernel
theorem d_Mod_instruction_492 : decode b_Mod_instruction 492 = .ok (.ireturn, 1) := by decide +kernel
theorem d_Mod_instruction_493 : decode b_Mod_instruction 493 = .ok (.aload_n 0, 1) := by decide +kernel
theorem d_Mod_instruction_494 : decode b_Mod_instruction 494 = .ok (.dup, 1) := by decide +kernel
theorem d_Mod_instruction_495 : decode b_Mod_instruction 495 = .ok (.getfield 259, 3) := by decide +kernel
theorem d_Mod_instruction_498 : decode b_Mod_instruction 498 = .ok (.aload_n 0, 1) := by decide +kernel
theorem d_Mod_instruction_499 : decode b_Mod_instruction 499 = .ok (.getfield 168, 3) := by decide +kernel
theorem d_Mod_instruction_502 : decode b_Mod_instruction 502 = .ok (.l2i, 1) := by decide +kernel
theorem d_Mod_instruction_503 : decode b_Mod_instruction 503 = .ok (.bipush 16, 2) := by decide +kernel
theorem d_Mod_instruction_505 : decode b_Mod_instruction 505 = .ok (.bipush 8, 2) := by decide +kernel
theorem d_Mod_instruction_507 : decode b_Mod_instruction 507 = .ok (.iload_n 3, 1) := by decide +kernel
theorem d_Mod_instruction_508 : decode b_Mod_instruction 508 = .ok (.imul, 1) := by decide +kernel
theorem d_Mod_instruction_509 : decode b_Mod_instruction 509 = .ok (.isub, 1) := by decide +kernel
theorem d_Mod_instruction_510 : decode b_Mod_instruction 510 = .ok (.ishl, 1) := by decide +kernel
theorem d_Mod_instruction_511 : decode b_Mod_instruction 511 = .ok (.ior, 1) := by decide +kernel
theorem d_Mod_instruction_512 : decode b_Mod_instruction 512 = .ok (.putfield 259, 3) := by decide +kernel
theorem d_Mod_instruction_515 : decode b_Mod_instruction 515 = .ok (.iinc 3 1, 3) := by decide +kernel
