abbrev b_Mod_first : ByteArray := prog_14_method_27_code
abbrev y_Mod_first : MethodName := ⟨"LittleMixModel", "first", "()I"⟩
theorem p_Mod_after : y_Mod_after.cls ≠ "java/lang/invoke/MethodHandle" ∧ y_Mod_after.cls ≠ "java/lang/invoke/VarHandle" ∧ (parseMethodDescriptor y_Mod_after.desc).map (fun d => d.parameters.length) = some 1 := by decide +kernel
theorem p_Mod_count : y_Mod_count.cls ≠ "java/lang/invoke/MethodHandle" ∧ y_Mod_count.cls ≠ "java/lang/invoke/VarHandle" ∧ (parseMethodDescriptor y_Mod_count.desc).map (fun d => d.parameters.length) = some 0 := by decide +kernel
theorem p_Mod_line : y_Mod_line.cls ≠ "java/lang/invoke/MethodHandle" ∧ y_Mod_line.cls ≠ "java/lang/invoke/VarHandle" ∧ (parseMethodDescriptor y_Mod_line.desc).map (fun d => d.parameters.length) = some 1 := by decide +kernel
theorem p_Mod_operand : y_Mod_operand.cls ≠ "java/lang/invoke/MethodHandle" ∧ y_Mod_operand.cls ≠ "java/lang/invoke/VarHandle" ∧ (parseMethodDescriptor y_Mod_operand.desc).map (fun d => d.parameters.length) = some 2 := by decide +kernel
theorem p_Mod_up : y_Mod_up.cls ≠ "java/lang/invoke/MethodHandle" ∧ y_Mod_up.cls ≠ "java/lang/invoke/VarHandle" ∧ (parseMethodDescriptor y_Mod_up.desc).map (fun d => d.parameters.length) = some 2 := by decide +kernel
theorem k_1123 : (Jvm.Cond.methodLink "LittleMixModel" (234 : Nat) ({ cls := "LittleMixModel", name := "line", desc := "(I)I" } : Jvm.MethodName)) ∈ mx_T := List.mem_filter.mpr ⟨List.mem_append_right _ ((List.mem_append_right _ (List.mem_append_right _ (List.mem_append_right _ (List.mem_append_right _ (List.mem_append_left _ (List.mem_of_getElem? (l := tables_1_5) (i := 163) (by decide +kernel)))))))), rfl⟩
theorem k_1125 : (Jvm.Cond.instanceMethod ({ cls := "LittleMixModel", name := "line", desc := "(I)I" } : Jvm.MethodName)) ∈ mx_T := List.mem_filter.mpr ⟨List.mem_append_right _ ((List.mem_append_right _ (List.mem_append_right _ (List.mem_append_right _ (List.mem_append_right _ (List.mem_append_left _ (List.mem_of_getElem? (l := tables_1_5) (i := 165) (by decide +kernel)))))))), rfl⟩
theorem k_1126 : (Jvm.Cond.code ({ cls := "LittleMixModel", name := "line", desc := "(I)I" } : Jvm.MethodName) prog_14_method_22_code (5 : Nat) (Option.some Jvm.ClassFile.FieldType.int)) ∈ mx_T := List.mem_filter.mpr ⟨List.mem_append_right _ ((List.mem_append_right _ (List.mem_append_right _ (List.mem_append_right _ (List.mem_append_right _ (List.mem_append_left _ (List.mem_of_getElem? (l := tables_1_5) (i := 166) rfl))))))), rfl⟩
theorem k_1174 : (Jvm.Cond.methodLink "LittleMixModel" (237 : Nat) ({ cls := "LittleMixModel", name := "count", desc := "()I" } : Jvm.MethodName)) ∈ mx_T := List.mem_filter.mpr ⟨List.mem_append_right _ ((List.mem_append_right _ (List.mem_append_right _ (List.mem_append_right _ (List.mem_append_right _ (List.mem_append_left _ (List.mem_of_getElem? (l := tables_1_5) (i := 214) (by decide +kernel)))))))), rfl⟩
theorem k_1176 : (Jvm.Cond.instanceMethod ({ cls := "LittleMixModel", name := "count", desc := "()I" } : Jvm.MethodName)) ∈ mx_T := List.mem_filter.mpr ⟨List.mem_append_right _ ((List.mem_append_right _ (List.mem_append_right _ (List.mem_append_right _ (List.mem_append_right _ (List.mem_append_left _ (List.mem_of_getElem? (l := tables_1_5) (i := 216) (by decide +kernel)))))))), rfl⟩
theorem k_1177 : (Jvm.Cond.code ({ cls := "LittleMixModel", name := "count", desc := "()I" } : Jvm.MethodName) prog_14_method_23_code (3 : Nat) (Option.some Jvm.ClassFile.FieldType.int)) ∈ mx_T := List.mem_filter.mpr ⟨List.mem_append_right _ ((List.mem_append_right _ (List.mem_append_right _ (List.mem_append_right _ (List.mem_append_right _ (List.mem_append_left _ (List.mem_of_getElem? (l := tables_1_5) (i := 217) rfl))))))), rfl⟩
theorem k_1208 : (Jvm.Cond.methodLink "LittleMixModel" (240 : Nat) ({ cls := "LittleMixModel", name := "up", desc := "(II)I" } : Jvm.MethodName)) ∈ mx_T := List.mem_filter.mpr ⟨List.mem_append_right _ ((List.mem_append_right _ (List.mem_append_right _ (List.mem_append_right _ (List.mem_append_right _ (List.mem_append_right _ (List.mem_of_getElem? (l := tables_1_6) (i := 8) (by decide +kernel)))))))), rfl⟩
theorem k_1209 : (Jvm.Cond.static ({ cls := "LittleMixModel", name := "up", desc := "(II)I" } : Jvm.MethodName)) ∈ mx_T := List.mem_filter.mpr ⟨List.mem_append_right _ ((List.mem_append_right _ (List.mem_append_right _ (List.mem_append_right _ (List.mem_append_right _ (List.mem_append_right _ (List.mem_of_getElem? (l := tables_1_6) (i := 9) (by decide +kernel)))))))), rfl⟩
theorem k_1210 : (Jvm.Cond.code ({ cls := "LittleMixModel", name := "up", desc := "(II)I" } : Jvm.MethodName) prog_14_method_26_code (2 : Nat) (Option.some Jvm.ClassFile.FieldType.int)) ∈ mx_T := List.mem_filter.mpr ⟨List.mem_append_right _ ((List.mem_append_right _ (List.mem_append_right _ (List.mem_append_right _ (List.mem_append_right _ (List.mem_append_right _ (List.mem_of_getElem? (l := tables_1_6) (i := 10) rfl))))))), rfl⟩
theorem k_1211 : (Jvm.Cond.methodLink "LittleMixModel" (243 : Nat) ({ cls := "LittleMixModel", name := "operand", desc := "(IJ)V" } : Jvm.MethodName)) ∈ mx_T := List.mem_filter.mpr ⟨List.mem_append_right _ ((List.mem_append_right _ (List.mem_append_right _ (List.mem_append_right _ (List.mem_append_right _ (List.mem_append_right _ (List.mem_of_getElem? (l := tables_1_6) (i := 11) (by decide +kernel)))))))), rfl⟩
theorem k_1213 : (Jvm.Cond.instanceMethod ({ cls := "LittleMixModel", name := "operand", desc := "(IJ)V" } : Jvm.MethodName)) ∈ mx_T := List.mem_filter.mpr ⟨List.mem_append_right _ ((List.mem_append_right _ (List.mem_append_right _ (List.mem_append_right _ (List.mem_append_right _ (List.mem_append_right _ (List.mem_of_getElem? (l := tables_1_6) (i := 13) (by decide +kernel)))))))), rfl⟩
theorem k_1214 : (Jvm.Cond.code ({ cls := "LittleMixModel", name := "operand", desc := "(IJ)V" } : Jvm.MethodName) prog_14_method_24_code (6 : Nat) (Option.none : Option Jvm.ClassFile.FieldType)) ∈ mx_T := List.mem_filter.mpr ⟨List.mem_append_right _ ((List.mem_append_right _ (List.mem_append_right _ (List.mem_append_right _ (List.mem_append_right _ (List.mem_append_right _ (List.mem_of_getElem? (l := tables_1_6) (i := 14) rfl))))))), rfl⟩
theorem k_1215 : (Jvm.Cond.constantLong "LittleMixModel" (247 : Nat) (4096 : Int64)) ∈ mx_T := List.mem_filter.mpr ⟨List.mem_append_right _ ((List.mem_append_right _ (List.mem_append_right _ (List.mem_append_right _ (List.mem_append_right _ (List.mem_append_right _ (List.mem_of_getElem? (l := tables_1_6) (i := 15) (by decide +kernel)))))))), rfl⟩
theorem k_1216 : (Jvm.Cond.methodLink "LittleMixModel" (249 : Nat) ({ cls := "LittleMixModel", name := "after", desc := "(I)I" } : Jvm.MethodName)) ∈ mx_T := List.mem_filter.mpr ⟨List.mem_append_right _ ((List.mem_append_right _ (List.mem_append_right _ (List.mem_append_right _ (List.mem_append_right _ (List.mem_append_right _ (List.mem_of_getElem? (l := tables_1_6) (i := 16) (by decide +kernel)))))))), rfl⟩
theorem k_1218 : (Jvm.Cond.instanceMethod ({ cls := "LittleMixModel", name := "after", desc := "(I)I" } : Jvm.MethodName)) ∈ mx_T := List.mem_filter.mpr ⟨List.mem_append_right _ ((List.mem_append_right _ (List.mem_append_right _ (List.mem_append_right _ (List.mem_append_right _ (List.mem_append_right _ (List.mem_of_getElem? (l := tables_1_6) (i := 18) (by decide +kernel)))))))), rfl⟩
theorem k_1219 : (Jvm.Cond.code ({ cls := "LittleMixModel", name := "after", desc := "(I)I" } : Jvm.MethodName) prog_14_method_25_code (3 : Nat) (Option.some Jvm.ClassFile.FieldType.int)) ∈ mx_T := List.mem_filter.mpr ⟨List.mem_append_right _ ((List.mem_append_right _ (List.mem_append_right _ (List.mem_append_right _ (List.mem_append_right _ (List.mem_append_right _ (List.mem_of_getElem? (l := tables_1_6) (i := 19) rfl))))))), rfl⟩
theorem sl_Mod_line : Cond.selects y_Mod_line.cls y_Mod_line y_Mod_line ∈ mx_T := List.mem_filter.mpr ⟨List.mem_append_left _ (by decide +kernel), by decide +kernel⟩
theorem sl_Mod_after : Cond.selects y_Mod_after.cls y_Mod_after y_Mod_after ∈ mx_T := List.mem_filter.mpr ⟨List.mem_append_left _ (by decide +kernel), by decide +kernel⟩
theorem sl_Mod_count : Cond.selects y_Mod_count.cls y_Mod_count y_Mod_count ∈ mx_T := List.mem_filter.mpr ⟨List.mem_append_left _ (by decide +kernel), by decide +kernel⟩
theorem sl_Mod_operand : Cond.selects y_Mod_operand.cls y_Mod_operand y_Mod_operand ∈ mx_T := List.mem_filter.mpr ⟨List.mem_append_left _ (by decide +kernel), by decide +kernel⟩
theorem d_Mod_first_0 : decode b_Mod_first 0 = .ok (.aload_n 0, 1) := by decide +kernel
theorem d_Mod_first_1 : decode b_Mod_first 1 = .ok (.iconst 0, 1) := by decide +kernel
theorem d_Mod_first_2 : decode b_Mod_first 2 = .ok (.putfield 133, 3) := by decide +kernel
theorem d_Mod_first_5 : decode b_Mod_first 5 = .ok (.sipush 256, 3) := by decide +kernel
theorem d_Mod_first_8 : decode b_Mod_first 8 = .ok (.istore_n 1, 1) := by decide +kernel
theorem d_Mod_first_9 : decode b_Mod_first 9 = .ok (.iconst 0, 1) := by decide +kernel
theorem d_Mod_first_10 : decode b_Mod_first 10 = .ok (.istore_n 2, 1) := by decide +kernel
theorem d_Mod_first_11 : decode b_Mod_first 11 = .ok (.iconst 0, 1) := by decide +kernel
theorem d_Mod_first_12 : decode b_Mod_first 12 = .ok (.istore_n 3, 1) := by decide +kernel
theorem d_Mod_first_13 : decode b_Mod_first 13 = .ok (.iconst 0, 1) := by decide +kernel
theorem d_Mod_first_14 : decode b_Mod_first 14 = .ok (.istore 4, 2) := by decide +kernel
theorem d_Mod_first_16 : decode b_Mod_first 16 = .ok (.iload 4, 2) := by decide +kernel
theorem d_Mod_first_18 : decode b_Mod_first 18 = .ok (.aload_n 0, 1) := by decide +kernel
theorem d_Mod_first_19 : decode b_Mod_first 19 = .ok (.getfield 88, 3) := by decide +kernel
theorem d_Mod_first_22 : decode b_Mod_first 22 = .ok (.if_icmp .ge 355, 3) := by decide +kernel
theorem d_Mod_first_25 : decode b_Mod_first 25 = .ok (.aload_n 0, 1) := by decide +kernel
theorem d_Mod_first_26 : decode b_Mod_first 26 = .ok (.iload 4, 2) := by decide +kernel
theorem d_Mod_first_28 : decode b_Mod_first 28 = .ok (.invokevirtual 234, 3) := by decide +kernel
theorem d_Mod_first_31 : decode b_Mod_first 31 = .ok (.istore 5, 2) := by decide +kernel
theorem d_Mod_first_33 : decode b_Mod_first 33 = .ok (.iload 5, 2) := by decide +kernel
theorem d_Mod_first_35 : decode b_Mod_first 35 = .ok (.iconst (-1), 1) := by decide +kernel
theorem d_Mod_first_36 : decode b_Mod_first 36 = .ok (.if_icmp .ne 5, 3) := by decide +kernel
theorem d_Mod_first_39 : decode b_Mod_first 39 = .ok (.iload_n 3, 1) := by decide +kernel
theorem d_Mod_first_40 : decode b_Mod_first 40 = .ok (.ireturn, 1) := by decide +kernel
theorem d_Mod_first_41 : decode b_Mod_first 41 = .ok (.iinc 3 1, 3) := by decide +kernel
theorem d_Mod_first_44 : decode b_Mod_first 44 = .ok (.iload 5, 2) := by decide +kernel
theorem d_Mod_first_46 : decode b_Mod_first 46 = .ok (.ifCond .ne 6, 3) := by decide +kernel
theorem d_Mod_first_49 : decode b_Mod_first 49 = .ok (.goto 317, 3) := by decide +kernel
theorem d_Mod_first_52 : decode b_Mod_first 52 = .ok (.aload_n 0, 1) := by decide +kernel
theorem d_Mod_first_53 : decode b_Mod_first 53 = .ok (.invokevirtual 237, 3) := by decide +kernel
theorem d_Mod_first_56 : decode b_Mod_first 56 = .ok (.istore 6, 2) := by decide +kernel
theorem d_Mod_first_58 : decode b_Mod_first 58 = .ok (.iload 6, 2) := by decide +kernel
theorem d_Mod_first_60 : decode b_Mod_first 60 = .ok (.iconst (-1), 1) := by decide +kernel
theorem d_Mod_first_61 : decode b_Mod_first 61 = .ok (.if_icmp .ne 7, 3) := by decide +kernel
theorem d_Mod_first_64 : decode b_Mod_first 64 = .ok (.iload_n 3, 1) := by decide +kernel
theorem d_Mod_first_65 : decode b_Mod_first 65 = .ok (.iconst 1, 1) := by decide +kernel
theorem d_Mod_first_66 : decode b_Mod_first 66 = .ok (.isub, 1) := by decide +kernel
theorem d_Mod_first_67 : decode b_Mod_first 67 = .ok (.ireturn, 1) := by decide +kernel
theorem d_Mod_first_68 : decode b_Mod_first 68 = .ok (.iload_n 1, 1) := by decide +kernel
theorem d_Mod_first_69 : decode b_Mod_first 69 = .ok (.i2l, 1) := by decide +kernel
theorem d_Mod_first_70 : decode b_Mod_first 70 = .ok (.lstore 7, 2) := by decide +kernel
theorem d_Mod_first_72 : decode b_Mod_first 72 = .ok (.iconst 0, 1) := by decide +kernel
theorem d_Mod_first_73 : decode b_Mod_first 73 = .ok (.istore 9, 2) := by decide +kernel
theorem d_Mod_first_75 : decode b_Mod_first 75 = .ok (.aload_n 0, 1) := by decide +kernel
theorem d_Mod_first_76 : decode b_Mod_first 76 = .ok (.getfield 182, 3) := by decide +kernel
theorem d_Mod_first_79 : decode b_Mod_first 79 = .ok (.bipush 10, 2) := by decide +kernel
theorem d_Mod_first_81 : decode b_Mod_first 81 = .ok (.if_icmp .lt 12, 3) := by decide +kernel
theorem d_Mod_first_84 : decode b_Mod_first 84 = .ok (.aload_n 0, 1) := by decide +kernel
theorem d_Mod_first_85 : decode b_Mod_first 85 = .ok (.getfield 182, 3) := by decide +kernel
theorem d_Mod_first_88 : decode b_Mod_first 88 = .ok (.bipush 12, 2) := by decide +kernel
theorem d_Mod_first_90 : decode b_Mod_first 90 = .ok (.if_icmp .ne 60, 3) := by decide +kernel
theorem d_Mod_first_93 : decode b_Mod_first 93 = .ok (.iload_n 1, 1) := by decide +kernel
theorem d_Mod_first_94 : decode b_Mod_first 94 = .ok (.aload_n 0, 1) := by decide +kernel
theorem d_Mod_first_95 : decode b_Mod_first 95 = .ok (.getfield 177, 3) := by decide +kernel
theorem d_Mod_first_98 : decode b_Mod_first 98 = .ok (.invokestatic 240, 3) := by decide +kernel
theorem d_Mod_first_101 : decode b_Mod_first 101 = .ok (.istore_n 1, 1) := by decide +kernel
theorem d_Mod_first_102 : decode b_Mod_first 102 = .ok (.iload_n 1, 1) := by decide +kernel
theorem d_Mod_first_103 : decode b_Mod_first 103 = .ok (.i2l, 1) := by decide +kernel
theorem d_Mod_first_104 : decode b_Mod_first 104 = .ok (.lstore 7, 2) := by decide +kernel
theorem d_Mod_first_106 : decode b_Mod_first 106 = .ok (.iload_n 1, 1) := by decide +kernel
theorem d_Mod_first_107 : decode b_Mod_first 107 = .ok (.aload_n 0, 1) := by decide +kernel
theorem d_Mod_first_108 : decode b_Mod_first 108 = .ok (.getfield 182, 3) := by decide +kernel
theorem d_Mod_first_111 : decode b_Mod_first 111 = .ok (.bipush 12, 2) := by decide +kernel
theorem d_Mod_first_113 : decode b_Mod_first 113 = .ok (.if_icmp .ne 13, 3) := by decide +kernel
theorem d_Mod_first_116 : decode b_Mod_first 116 = .ok (.iload 6, 2) := by decide +kernel
theorem d_Mod_first_118 : decode b_Mod_first 118 = .ok (.aload_n 0, 1) := by decide +kernel
theorem d_Mod_first_119 : decode b_Mod_first 119 = .ok (.getfield 177, 3) := by decide +kernel
theorem d_Mod_first_122 : decode b_Mod_first 122 = .ok (.imul, 1) := by decide +kernel
theorem d_Mod_first_123 : decode b_Mod_first 123 = .ok (.goto 4, 3) := by decide +kernel
theorem d_Mod_first_126 : decode b_Mod_first 126 = .ok (.iconst 4, 1) := by decide +kernel
theorem d_Mod_first_127 : decode b_Mod_first 127 = .ok (.iadd, 1) := by decide +kernel
theorem d_Mod_first_128 : decode b_Mod_first 128 = .ok (.istore_n 1, 1) := by decide +kernel
theorem d_Mod_first_129 : decode b_Mod_first 129 = .ok (.iinc 2 1, 3) := by decide +kernel
theorem d_Mod_first_132 : decode b_Mod_first 132 = .ok (.iload_n 2, 1) := by decide +kernel
theorem d_Mod_first_133 : decode b_Mod_first 133 = .ok (.sipush 160, 3) := by decide +kernel
theorem d_Mod_first_136 : decode b_Mod_first 136 = .ok (.if_icmp .gt 10, 3) := by decide +kernel
theorem d_Mod_first_139 : decode b_Mod_first 139 = .ok (.iload_n 1, 1) := by decide +kernel
theorem d_Mod_first_140 : decode b_Mod_first 140 = .ok (.sipush 4096, 3) := by decide +kernel
theorem d_Mod_first_143 : decode b_Mod_first 143 = .ok (.if_icmp .le 101, 3) := by decide +kernel
theorem d_Mod_first_146 : decode b_Mod_first 146 = .ok (.iload_n 3, 1) := by decide +kernel
theorem d_Mod_first_147 : decode b_Mod_first 147 = .ok (.iconst 1, 1) := by decide +kernel
theorem d_Mod_first_148 : decode b_Mod_first 148 = .ok (.isub, 1) := by decide +kernel
theorem d_Mod_first_149 : decode b_Mod_first 149 = .ok (.ireturn, 1) := by decide +kernel
theorem d_Mod_first_150 : decode b_Mod_first 150 = .ok (.iload 6, 2) := by decide +kernel
theorem d_Mod_first_152 : decode b_Mod_first 152 = .ok (.iconst 1, 1) := by decide +kernel
theorem d_Mod_first_153 : decode b_Mod_first 153 = .ok (.if_icmp .eq 7, 3) := by decide +kernel
theorem d_Mod_first_156 : decode b_Mod_first 156 = .ok (.iload_n 3, 1) := by decide +kernel
theorem d_Mod_first_157 : decode b_Mod_first 157 = .ok (.iconst 1, 1) := by decide +kernel
theorem d_Mod_first_158 : decode b_Mod_first 158 = .ok (.isub, 1) := by decide +kernel
theorem d_Mod_first_159 : decode b_Mod_first 159 = .ok (.ireturn, 1) := by decide +kernel
theorem d_Mod_first_160 : decode b_Mod_first 160 = .ok (.aload_n 0, 1) := by decide +kernel
theorem d_Mod_first_161 : decode b_Mod_first 161 = .ok (.iconst 0, 1) := by decide +kernel
theorem d_Mod_first_162 : decode b_Mod_first 162 = .ok (.iload_n 1, 1) := by decide +kernel
theorem d_Mod_first_163 : decode b_Mod_first 163 = .ok (.i2l, 1) := by decide +kernel
theorem d_Mod_first_164 : decode b_Mod_first 164 = .ok (.invokevirtual 243, 3) := by decide +kernel
theorem d_Mod_first_167 : decode b_Mod_first 167 = .ok (.aload_n 0, 1) := by decide +kernel
theorem d_Mod_first_168 : decode b_Mod_first 168 = .ok (.getfield 162, 3) := by decide +kernel
theorem d_Mod_first_171 : decode b_Mod_first 171 = .ok (.ifCond .eq 39, 3) := by decide +kernel
theorem d_Mod_first_174 : decode b_Mod_first 174 = .ok (.aload_n 0, 1) := by decide +kernel
theorem d_Mod_first_175 : decode b_Mod_first 175 = .ok (.getfield 182, 3) := by decide +kernel
theorem d_Mod_first_178 : decode b_Mod_first 178 = .ok (.bipush 11, 2) := by decide +kernel
theorem d_Mod_first_180 : decode b_Mod_first 180 = .ok (.if_icmp .ne 34, 3) := by decide +kernel
theorem d_Mod_first_183 : decode b_Mod_first 183 = .ok (.aload_n 0, 1) := by decide +kernel
theorem d_Mod_first_184 : decode b_Mod_first 184 = .ok (.getfield 171, 3) := by decide +kernel
theorem d_Mod_first_187 : decode b_Mod_first 187 = .ok (.ifCond .ne 23, 3) := by decide +kernel
theorem d_Mod_first_190 : decode b_Mod_first 190 = .ok (.aload_n 0, 1) := by decide +kernel
theorem d_Mod_first_191 : decode b_Mod_first 191 = .ok (.getfield 168, 3) := by decide +kernel
theorem d_Mod_first_194 : decode b_Mod_first 194 = .ok (.lconst 0, 1) := by decide +kernel
theorem d_Mod_first_195 : decode b_Mod_first 195 = .ok (.lcmp, 1) := by decide +kernel
theorem d_Mod_first_196 : decode b_Mod_first 196 = .ok (.ifCond .lt 14, 3) := by decide +kernel
theorem d_Mod_first_199 : decode b_Mod_first 199 = .ok (.aload_n 0, 1) := by decide +kernel
theorem d_Mod_first_200 : decode b_Mod_first 200 = .ok (.getfield 168, 3) := by decide +kernel
theorem d_Mod_first_203 : decode b_Mod_first 203 = .ok (.ldc2_w 247, 3) := by decide +kernel
theorem d_Mod_first_206 : decode b_Mod_first 206 = .ok (.lcmp, 1) := by decide +kernel
theorem d_Mod_first_207 : decode b_Mod_first 207 = .ok (.ifCond .le 7, 3) := by decide +kernel
theorem d_Mod_first_210 : decode b_Mod_first 210 = .ok (.iload_n 3, 1) := by decide +kernel
theorem d_Mod_first_211 : decode b_Mod_first 211 = .ok (.iconst 1, 1) := by decide +kernel
theorem d_Mod_first_212 : decode b_Mod_first 212 = .ok (.isub, 1) := by decide +kernel
theorem d_Mod_first_213 : decode b_Mod_first 213 = .ok (.ireturn, 1) := by decide +kernel
theorem d_Mod_first_214 : decode b_Mod_first 214 = .ok (.aload_n 0, 1) := by decide +kernel
theorem d_Mod_first_215 : decode b_Mod_first 215 = .ok (.getfield 182, 3) := by decide +kernel
theorem d_Mod_first_218 : decode b_Mod_first 218 = .ok (.bipush 10, 2) := by decide +kernel
theorem d_Mod_first_220 : decode b_Mod_first 220 = .ok (.if_icmp .ne 18, 3) := by decide +kernel
theorem d_Mod_first_223 : decode b_Mod_first 223 = .ok (.aload_n 0, 1) := by decide +kernel
theorem d_Mod_first_224 : decode b_Mod_first 224 = .ok (.getfield 168, 3) := by decide +kernel
theorem d_Mod_first_227 : decode b_Mod_first 227 = .ok (.lstore 7, 2) := by decide +kernel
theorem d_Mod_first_229 : decode b_Mod_first 229 = .ok (.aload_n 0, 1) := by decide +kernel
theorem d_Mod_first_230 : decode b_Mod_first 230 = .ok (.getfield 171, 3) := by decide +kernel
theorem d_Mod_first_233 : decode b_Mod_first 233 = .ok (.istore 9, 2) := by decide +kernel
theorem d_Mod_first_235 : decode b_Mod_first 235 = .ok (.goto 9, 3) := by decide +kernel
theorem d_Mod_first_238 : decode b_Mod_first 238 = .ok (.aload_n 0, 1) := by decide +kernel
theorem d_Mod_first_239 : decode b_Mod_first 239 = .ok (.getfield 168, 3) := by decide +kernel
theorem d_Mod_first_242 : decode b_Mod_first 242 = .ok (.l2i, 1) := by decide +kernel
theorem d_Mod_first_243 : decode b_Mod_first 243 = .ok (.istore_n 1, 1) := by decide +kernel
theorem d_Mod_first_244 : decode b_Mod_first 244 = .ok (.aload_n 0, 1) := by decide +kernel
theorem d_Mod_first_245 : decode b_Mod_first 245 = .ok (.getfield 219, 3) := by decide +kernel
theorem d_Mod_first_248 : decode b_Mod_first 248 = .ok (.aload_n 0, 1) := by decide +kernel
theorem d_Mod_first_249 : decode b_Mod_first 249 = .ok (.getfield 216, 3) := by decide +kernel
theorem d_Mod_first_252 : decode b_Mod_first 252 = .ok (.if_icmp .ne 6, 3) := by decide +kernel
theorem d_Mod_first_255 : decode b_Mod_first 255 = .ok (.goto 111, 3) := by decide +kernel
theorem d_Mod_first_258 : decode b_Mod_first 258 = .ok (.aload_n 0, 1) := by decide +kernel
theorem d_Mod_first_259 : decode b_Mod_first 259 = .ok (.getfield 133, 3) := by decide +kernel
theorem d_Mod_first_262 : decode b_Mod_first 262 = .ok (.bipush 40, 2) := by decide +kernel
theorem d_Mod_first_264 : decode b_Mod_first 264 = .ok (.if_icmp .eq 35, 3) := by decide +kernel
theorem d_Mod_first_267 : decode b_Mod_first 267 = .ok (.aload_n 0, 1) := by decide +kernel
theorem d_Mod_first_268 : decode b_Mod_first 268 = .ok (.aload_n 0, 1) := by decide +kernel
theorem d_Mod_first_269 : decode b_Mod_first 269 = .ok (.getfield 216, 3) := by decide +kernel
theorem d_Mod_first_272 : decode b_Mod_first 272 = .ok (.aload_n 0, 1) := by decide +kernel
theorem d_Mod_first_273 : decode b_Mod_first 273 = .ok (.getfield 219, 3) := by decide +kernel
theorem d_Mod_first_276 : decode b_Mod_first 276 = .ok (.invokevirtual 165, 3) := by decide +kernel
theorem d_Mod_first_279 : decode b_Mod_first 279 = .ok (.iconst (-1), 1) := by decide +kernel
theorem d_Mod_first_280 : decode b_Mod_first 280 = .ok (.if_icmp .ne 19, 3) := by decide +kernel
theorem d_Mod_first_283 : decode b_Mod_first 283 = .ok (.aload_n 0, 1) := by decide +kernel
theorem d_Mod_first_284 : decode b_Mod_first 284 = .ok (.aload_n 0, 1) := by decide +kernel
theorem d_Mod_first_285 : decode b_Mod_first 285 = .ok (.getfield 216, 3) := by decide +kernel
theorem d_Mod_first_288 : decode b_Mod_first 288 = .ok (.aload_n 0, 1) := by decide +kernel
theorem d_Mod_first_289 : decode b_Mod_first 289 = .ok (.getfield 219, 3) := by decide +kernel
theorem d_Mod_first_292 : decode b_Mod_first 292 = .ok (.invokevirtual 158, 3) := by decide +kernel
theorem d_Mod_first_295 : decode b_Mod_first 295 = .ok (.iconst (-1), 1) := by decide +kernel
theorem d_Mod_first_296 : decode b_Mod_first 296 = .ok (.if_icmp .eq 7, 3) := by decide +kernel
theorem d_Mod_first_299 : decode b_Mod_first 299 = .ok (.iload_n 3, 1) := by decide +kernel
theorem d_Mod_first_300 : decode b_Mod_first 300 = .ok (.iconst 1, 1) := by decide +kernel
theorem d_Mod_first_301 : decode b_Mod_first 301 = .ok (.isub, 1) := by decide +kernel
theorem d_Mod_first_302 : decode b_Mod_first 302 = .ok (.ireturn, 1) := by decide +kernel
theorem d_Mod_first_303 : decode b_Mod_first 303 = .ok (.aload_n 0, 1) := by decide +kernel
theorem d_Mod_first_304 : decode b_Mod_first 304 = .ok (.getfield 20, 3) := by decide +kernel
theorem d_Mod_first_307 : decode b_Mod_first 307 = .ok (.aload_n 0, 1) := by decide +kernel
theorem d_Mod_first_308 : decode b_Mod_first 308 = .ok (.getfield 133, 3) := by decide +kernel
theorem d_Mod_first_311 : decode b_Mod_first 311 = .ok (.aload_n 0, 1) := by decide +kernel
theorem d_Mod_first_312 : decode b_Mod_first 312 = .ok (.getfield 216, 3) := by decide +kernel
theorem d_Mod_first_315 : decode b_Mod_first 315 = .ok (.iastore, 1) := by decide +kernel
theorem d_Mod_first_316 : decode b_Mod_first 316 = .ok (.aload_n 0, 1) := by decide +kernel
theorem d_Mod_first_317 : decode b_Mod_first 317 = .ok (.getfield 23, 3) := by decide +kernel
theorem d_Mod_first_320 : decode b_Mod_first 320 = .ok (.aload_n 0, 1) := by decide +kernel
theorem d_Mod_first_321 : decode b_Mod_first 321 = .ok (.getfield 133, 3) := by decide +kernel
theorem d_Mod_first_324 : decode b_Mod_first 324 = .ok (.aload_n 0, 1) := by decide +kernel
theorem d_Mod_first_325 : decode b_Mod_first 325 = .ok (.getfield 219, 3) := by decide +kernel
theorem d_Mod_first_328 : decode b_Mod_first 328 = .ok (.aload_n 0, 1) := by decide +kernel
theorem d_Mod_first_329 : decode b_Mod_first 329 = .ok (.getfield 216, 3) := by decide +kernel
theorem d_Mod_first_332 : decode b_Mod_first 332 = .ok (.isub, 1) := by decide +kernel
theorem d_Mod_first_333 : decode b_Mod_first 333 = .ok (.iastore, 1) := by decide +kernel
theorem d_Mod_first_334 : decode b_Mod_first 334 = .ok (.aload_n 0, 1) := by decide +kernel
theorem d_Mod_first_335 : decode b_Mod_first 335 = .ok (.getfield 26, 3) := by decide +kernel
theorem d_Mod_first_338 : decode b_Mod_first 338 = .ok (.aload_n 0, 1) := by decide +kernel
theorem d_Mod_first_339 : decode b_Mod_first 339 = .ok (.getfield 133, 3) := by decide +kernel
theorem d_Mod_first_342 : decode b_Mod_first 342 = .ok (.lload 7, 2) := by decide +kernel
theorem d_Mod_first_344 : decode b_Mod_first 344 = .ok (.lastore, 1) := by decide +kernel
theorem d_Mod_first_345 : decode b_Mod_first 345 = .ok (.aload_n 0, 1) := by decide +kernel
theorem d_Mod_first_346 : decode b_Mod_first 346 = .ok (.getfield 30, 3) := by decide +kernel
theorem d_Mod_first_349 : decode b_Mod_first 349 = .ok (.aload_n 0, 1) := by decide +kernel
theorem d_Mod_first_350 : decode b_Mod_first 350 = .ok (.getfield 133, 3) := by decide +kernel
theorem d_Mod_first_353 : decode b_Mod_first 353 = .ok (.iload 9, 2) := by decide +kernel
theorem d_Mod_first_355 : decode b_Mod_first 355 = .ok (.bastore, 1) := by decide +kernel
theorem d_Mod_first_356 : decode b_Mod_first 356 = .ok (.aload_n 0, 1) := by decide +kernel
theorem d_Mod_first_357 : decode b_Mod_first 357 = .ok (.dup, 1) := by decide +kernel
theorem d_Mod_first_358 : decode b_Mod_first 358 = .ok (.getfield 133, 3) := by decide +kernel
theorem d_Mod_first_361 : decode b_Mod_first 361 = .ok (.iconst 1, 1) := by decide +kernel
theorem d_Mod_first_362 : decode b_Mod_first 362 = .ok (.iadd, 1) := by decide +kernel
theorem d_Mod_first_363 : decode b_Mod_first 363 = .ok (.putfield 133, 3) := by decide +kernel
theorem d_Mod_first_366 : decode b_Mod_first 366 = .ok (.aload_n 0, 1) := by decide +kernel
theorem d_Mod_first_367 : decode b_Mod_first 367 = .ok (.iload 4, 2) := by decide +kernel
theorem d_Mod_first_369 : decode b_Mod_first 369 = .ok (.invokevirtual 249, 3) := by decide +kernel
theorem d_Mod_first_372 : decode b_Mod_first 372 = .ok (.istore 4, 2) := by decide +kernel
theorem d_Mod_first_374 : decode b_Mod_first 374 = .ok (.goto (-358), 3) := by decide +kernel
theorem d_Mod_first_377 : decode b_Mod_first 377 = .ok (.iconst (-1), 1) := by decide +kernel
theorem d_Mod_first_378 : decode b_Mod_first 378 = .ok (.ireturn, 1) := by decide +kernel
