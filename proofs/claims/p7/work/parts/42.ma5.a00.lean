abbrev b_Mod_line : ByteArray := prog_14_method_22_code
abbrev b_Mod_operation : ByteArray := prog_14_method_20_code
abbrev b_Mod_withCondition : ByteArray := prog_14_method_21_code
abbrev y_Mod_line : MethodName := ⟨"LittleMixModel", "line", "(I)I"⟩
abbrev y_Mod_operation : MethodName := ⟨"LittleMixModel", "operation", "(II)Z"⟩
abbrev y_Mod_withCondition : MethodName := ⟨"LittleMixModel", "withCondition", "(II)Z"⟩
theorem p_Mod_blanks : y_Mod_blanks.cls ≠ "java/lang/invoke/MethodHandle" ∧ y_Mod_blanks.cls ≠ "java/lang/invoke/VarHandle" ∧ (parseMethodDescriptor y_Mod_blanks.desc).map (fun d => d.parameters.length) = some 1 := by decide +kernel
theorem p_Mod_is : y_Mod_is.cls ≠ "java/lang/invoke/MethodHandle" ∧ y_Mod_is.cls ≠ "java/lang/invoke/VarHandle" ∧ (parseMethodDescriptor y_Mod_is.desc).map (fun d => d.parameters.length) = some 3 := by decide +kernel
theorem p_Mod_operation : y_Mod_operation.cls ≠ "java/lang/invoke/MethodHandle" ∧ y_Mod_operation.cls ≠ "java/lang/invoke/VarHandle" ∧ (parseMethodDescriptor y_Mod_operation.desc).map (fun d => d.parameters.length) = some 2 := by decide +kernel
theorem p_Mod_withCondition : y_Mod_withCondition.cls ≠ "java/lang/invoke/MethodHandle" ∧ y_Mod_withCondition.cls ≠ "java/lang/invoke/VarHandle" ∧ (parseMethodDescriptor y_Mod_withCondition.desc).map (fun d => d.parameters.length) = some 2 := by decide +kernel
theorem k_1009 : (Jvm.Cond.fieldLink "LittleMixModel" (216 : Nat) "LittleMixModel" "labelFrom" "I") ∈ mx_T := List.mem_filter.mpr ⟨List.mem_append_right _ ((List.mem_append_right _ (List.mem_append_right _ (List.mem_append_right _ (List.mem_append_right _ (List.mem_append_left _ (List.mem_of_getElem? (l := tables_1_5) (i := 49) (by decide +kernel)))))))), rfl⟩
theorem k_1010 : (Jvm.Cond.fieldLink "LittleMixModel" (219 : Nat) "LittleMixModel" "labelTo" "I") ∈ mx_T := List.mem_filter.mpr ⟨List.mem_append_right _ ((List.mem_append_right _ (List.mem_append_right _ (List.mem_append_right _ (List.mem_append_right _ (List.mem_append_left _ (List.mem_of_getElem? (l := tables_1_5) (i := 50) (by decide +kernel)))))))), rfl⟩
theorem k_1011 : (Jvm.Cond.fieldLink "LittleMixModel" (182 : Nat) "LittleMixModel" "form" "I") ∈ mx_T := List.mem_filter.mpr ⟨List.mem_append_right _ ((List.mem_append_right _ (List.mem_append_right _ (List.mem_append_right _ (List.mem_append_right _ (List.mem_append_left _ (List.mem_of_getElem? (l := tables_1_5) (i := 51) (by decide +kernel)))))))), rfl⟩
theorem k_1012 : (Jvm.Cond.fieldLink "LittleMixModel" (187 : Nat) "LittleMixModel" "base" "I") ∈ mx_T := List.mem_filter.mpr ⟨List.mem_append_right _ ((List.mem_append_right _ (List.mem_append_right _ (List.mem_append_right _ (List.mem_append_right _ (List.mem_append_left _ (List.mem_of_getElem? (l := tables_1_5) (i := 52) (by decide +kernel)))))))), rfl⟩
theorem k_1014 : (Jvm.Cond.fieldLink "LittleMixModel" (177 : Nat) "LittleMixModel" "each" "I") ∈ mx_T := List.mem_filter.mpr ⟨List.mem_append_right _ ((List.mem_append_right _ (List.mem_append_right _ (List.mem_append_right _ (List.mem_append_right _ (List.mem_append_left _ (List.mem_of_getElem? (l := tables_1_5) (i := 54) (by decide +kernel)))))))), rfl⟩
theorem k_1141 : (Jvm.Cond.methodLink "LittleMixModel" (222 : Nat) ({ cls := "LittleMixModel", name := "blanks", desc := "(I)I" } : Jvm.MethodName)) ∈ mx_T := List.mem_filter.mpr ⟨List.mem_append_right _ ((List.mem_append_right _ (List.mem_append_right _ (List.mem_append_right _ (List.mem_append_right _ (List.mem_append_left _ (List.mem_of_getElem? (l := tables_1_5) (i := 181) (by decide +kernel)))))))), rfl⟩
theorem k_1143 : (Jvm.Cond.instanceMethod ({ cls := "LittleMixModel", name := "blanks", desc := "(I)I" } : Jvm.MethodName)) ∈ mx_T := List.mem_filter.mpr ⟨List.mem_append_right _ ((List.mem_append_right _ (List.mem_append_right _ (List.mem_append_right _ (List.mem_append_right _ (List.mem_append_left _ (List.mem_of_getElem? (l := tables_1_5) (i := 183) (by decide +kernel)))))))), rfl⟩
theorem k_1144 : (Jvm.Cond.code ({ cls := "LittleMixModel", name := "blanks", desc := "(I)I" } : Jvm.MethodName) prog_14_method_9_code (3 : Nat) (Option.some Jvm.ClassFile.FieldType.int)) ∈ mx_T := List.mem_filter.mpr ⟨List.mem_append_right _ ((List.mem_append_right _ (List.mem_append_right _ (List.mem_append_right _ (List.mem_append_right _ (List.mem_append_left _ (List.mem_of_getElem? (l := tables_1_5) (i := 184) rfl))))))), rfl⟩
theorem k_1145 : (Jvm.Cond.methodLink "LittleMixModel" (225 : Nat) ({ cls := "LittleMixModel", name := "operation", desc := "(II)Z" } : Jvm.MethodName)) ∈ mx_T := List.mem_filter.mpr ⟨List.mem_append_right _ ((List.mem_append_right _ (List.mem_append_right _ (List.mem_append_right _ (List.mem_append_right _ (List.mem_append_left _ (List.mem_of_getElem? (l := tables_1_5) (i := 185) (by decide +kernel)))))))), rfl⟩
theorem k_1147 : (Jvm.Cond.instanceMethod ({ cls := "LittleMixModel", name := "operation", desc := "(II)Z" } : Jvm.MethodName)) ∈ mx_T := List.mem_filter.mpr ⟨List.mem_append_right _ ((List.mem_append_right _ (List.mem_append_right _ (List.mem_append_right _ (List.mem_append_right _ (List.mem_append_left _ (List.mem_of_getElem? (l := tables_1_5) (i := 187) (by decide +kernel)))))))), rfl⟩
theorem k_1148 : (Jvm.Cond.code ({ cls := "LittleMixModel", name := "operation", desc := "(II)Z" } : Jvm.MethodName) prog_14_method_20_code (4 : Nat) (Option.some Jvm.ClassFile.FieldType.boolean)) ∈ mx_T := List.mem_filter.mpr ⟨List.mem_append_right _ ((List.mem_append_right _ (List.mem_append_right _ (List.mem_append_right _ (List.mem_append_right _ (List.mem_append_left _ (List.mem_of_getElem? (l := tables_1_5) (i := 188) rfl))))))), rfl⟩
theorem k_1163 : (Jvm.Cond.methodLink "LittleMixModel" (202 : Nat) ({ cls := "LittleMixModel", name := "withCondition", desc := "(II)Z" } : Jvm.MethodName)) ∈ mx_T := List.mem_filter.mpr ⟨List.mem_append_right _ ((List.mem_append_right _ (List.mem_append_right _ (List.mem_append_right _ (List.mem_append_right _ (List.mem_append_left _ (List.mem_of_getElem? (l := tables_1_5) (i := 203) (by decide +kernel)))))))), rfl⟩
theorem k_1165 : (Jvm.Cond.instanceMethod ({ cls := "LittleMixModel", name := "withCondition", desc := "(II)Z" } : Jvm.MethodName)) ∈ mx_T := List.mem_filter.mpr ⟨List.mem_append_right _ ((List.mem_append_right _ (List.mem_append_right _ (List.mem_append_right _ (List.mem_append_right _ (List.mem_append_left _ (List.mem_of_getElem? (l := tables_1_5) (i := 205) (by decide +kernel)))))))), rfl⟩
theorem k_1166 : (Jvm.Cond.code ({ cls := "LittleMixModel", name := "withCondition", desc := "(II)Z" } : Jvm.MethodName) prog_14_method_21_code (6 : Nat) (Option.some Jvm.ClassFile.FieldType.boolean)) ∈ mx_T := List.mem_filter.mpr ⟨List.mem_append_right _ ((List.mem_append_right _ (List.mem_append_right _ (List.mem_append_right _ (List.mem_append_right _ (List.mem_append_left _ (List.mem_of_getElem? (l := tables_1_5) (i := 206) rfl))))))), rfl⟩
theorem k_1168 : (Jvm.Cond.methodLink "LittleMixModel" (208 : Nat) ({ cls := "LittleMixModel", name := "is", desc := "(IILjava/lang/String;)Z" } : Jvm.MethodName)) ∈ mx_T := List.mem_filter.mpr ⟨List.mem_append_right _ ((List.mem_append_right _ (List.mem_append_right _ (List.mem_append_right _ (List.mem_append_right _ (List.mem_append_left _ (List.mem_of_getElem? (l := tables_1_5) (i := 208) (by decide +kernel)))))))), rfl⟩
theorem k_1170 : (Jvm.Cond.instanceMethod ({ cls := "LittleMixModel", name := "is", desc := "(IILjava/lang/String;)Z" } : Jvm.MethodName)) ∈ mx_T := List.mem_filter.mpr ⟨List.mem_append_right _ ((List.mem_append_right _ (List.mem_append_right _ (List.mem_append_right _ (List.mem_append_right _ (List.mem_append_left _ (List.mem_of_getElem? (l := tables_1_5) (i := 210) (by decide +kernel)))))))), rfl⟩
theorem k_1171 : (Jvm.Cond.code ({ cls := "LittleMixModel", name := "is", desc := "(IILjava/lang/String;)Z" } : Jvm.MethodName) prog_14_method_10_code (6 : Nat) (Option.some Jvm.ClassFile.FieldType.boolean)) ∈ mx_T := List.mem_filter.mpr ⟨List.mem_append_right _ ((List.mem_append_right _ (List.mem_append_right _ (List.mem_append_right _ (List.mem_append_right _ (List.mem_append_left _ (List.mem_of_getElem? (l := tables_1_5) (i := 211) rfl))))))), rfl⟩
theorem sl_Mod_is : Cond.selects y_Mod_is.cls y_Mod_is y_Mod_is ∈ mx_T := List.mem_filter.mpr ⟨List.mem_append_left _ (by decide +kernel), by decide +kernel⟩
theorem sl_Mod_withCondition : Cond.selects y_Mod_withCondition.cls y_Mod_withCondition y_Mod_withCondition ∈ mx_T := List.mem_filter.mpr ⟨List.mem_append_left _ (by decide +kernel), by decide +kernel⟩
theorem sl_Mod_blanks : Cond.selects y_Mod_blanks.cls y_Mod_blanks y_Mod_blanks ∈ mx_T := List.mem_filter.mpr ⟨List.mem_append_left _ (by decide +kernel), by decide +kernel⟩
theorem sl_Mod_operation : Cond.selects y_Mod_operation.cls y_Mod_operation y_Mod_operation ∈ mx_T := List.mem_filter.mpr ⟨List.mem_append_left _ (by decide +kernel), by decide +kernel⟩
theorem d_Mod_line_0 : decode b_Mod_line 0 = .ok (.aload_n 0, 1) := by decide +kernel
theorem d_Mod_line_1 : decode b_Mod_line 1 = .ok (.iload_n 1, 1) := by decide +kernel
theorem d_Mod_line_2 : decode b_Mod_line 2 = .ok (.putfield 216, 3) := by decide +kernel
theorem d_Mod_line_5 : decode b_Mod_line 5 = .ok (.aload_n 0, 1) := by decide +kernel
theorem d_Mod_line_6 : decode b_Mod_line 6 = .ok (.iload_n 1, 1) := by decide +kernel
theorem d_Mod_line_7 : decode b_Mod_line 7 = .ok (.putfield 219, 3) := by decide +kernel
theorem d_Mod_line_10 : decode b_Mod_line 10 = .ok (.aload_n 0, 1) := by decide +kernel
theorem d_Mod_line_11 : decode b_Mod_line 11 = .ok (.iload_n 1, 1) := by decide +kernel
theorem d_Mod_line_12 : decode b_Mod_line 12 = .ok (.invokevirtual 91, 3) := by decide +kernel
theorem d_Mod_line_15 : decode b_Mod_line 15 = .ok (.istore_n 2, 1) := by decide +kernel
theorem d_Mod_line_16 : decode b_Mod_line 16 = .ok (.iload_n 2, 1) := by decide +kernel
theorem d_Mod_line_17 : decode b_Mod_line 17 = .ok (.iconst (-1), 1) := by decide +kernel
theorem d_Mod_line_18 : decode b_Mod_line 18 = .ok (.if_icmp .eq 16, 3) := by decide +kernel
theorem d_Mod_line_21 : decode b_Mod_line 21 = .ok (.iload_n 2, 1) := by decide +kernel
theorem d_Mod_line_22 : decode b_Mod_line 22 = .ok (.bipush 32, 2) := by decide +kernel
theorem d_Mod_line_24 : decode b_Mod_line 24 = .ok (.if_icmp .eq 12, 3) := by decide +kernel
theorem d_Mod_line_27 : decode b_Mod_line 27 = .ok (.iload_n 2, 1) := by decide +kernel
theorem d_Mod_line_28 : decode b_Mod_line 28 = .ok (.invokestatic 99, 3) := by decide +kernel
theorem d_Mod_line_31 : decode b_Mod_line 31 = .ok (.ifCond .ne 5, 3) := by decide +kernel
theorem d_Mod_line_34 : decode b_Mod_line 34 = .ok (.iconst 0, 1) := by decide +kernel
theorem d_Mod_line_35 : decode b_Mod_line 35 = .ok (.ireturn, 1) := by decide +kernel
theorem d_Mod_line_36 : decode b_Mod_line 36 = .ok (.iload_n 2, 1) := by decide +kernel
theorem d_Mod_line_37 : decode b_Mod_line 37 = .ok (.invokestatic 99, 3) := by decide +kernel
theorem d_Mod_line_40 : decode b_Mod_line 40 = .ok (.ifCond .eq 12, 3) := by decide +kernel
theorem d_Mod_line_43 : decode b_Mod_line 43 = .ok (.aload_n 0, 1) := by decide +kernel
theorem d_Mod_line_44 : decode b_Mod_line 44 = .ok (.aload_n 0, 1) := by decide +kernel
theorem d_Mod_line_45 : decode b_Mod_line 45 = .ok (.iload_n 1, 1) := by decide +kernel
theorem d_Mod_line_46 : decode b_Mod_line 46 = .ok (.invokevirtual 155, 3) := by decide +kernel
theorem d_Mod_line_49 : decode b_Mod_line 49 = .ok (.putfield 219, 3) := by decide +kernel
theorem d_Mod_line_52 : decode b_Mod_line 52 = .ok (.aload_n 0, 1) := by decide +kernel
theorem d_Mod_line_53 : decode b_Mod_line 53 = .ok (.getfield 219, 3) := by decide +kernel
theorem d_Mod_line_56 : decode b_Mod_line 56 = .ok (.iload_n 1, 1) := by decide +kernel
theorem d_Mod_line_57 : decode b_Mod_line 57 = .ok (.bipush 12, 2) := by decide +kernel
theorem d_Mod_line_59 : decode b_Mod_line 59 = .ok (.iadd, 1) := by decide +kernel
theorem d_Mod_line_60 : decode b_Mod_line 60 = .ok (.if_icmp .gt 24, 3) := by decide +kernel
theorem d_Mod_line_63 : decode b_Mod_line 63 = .ok (.aload_n 0, 1) := by decide +kernel
theorem d_Mod_line_64 : decode b_Mod_line 64 = .ok (.getfield 219, 3) := by decide +kernel
theorem d_Mod_line_67 : decode b_Mod_line 67 = .ok (.iload_n 1, 1) := by decide +kernel
theorem d_Mod_line_68 : decode b_Mod_line 68 = .ok (.if_icmp .le 18, 3) := by decide +kernel
theorem d_Mod_line_71 : decode b_Mod_line 71 = .ok (.aload_n 0, 1) := by decide +kernel
theorem d_Mod_line_72 : decode b_Mod_line 72 = .ok (.aload_n 0, 1) := by decide +kernel
theorem d_Mod_line_73 : decode b_Mod_line 73 = .ok (.getfield 219, 3) := by decide +kernel
theorem d_Mod_line_76 : decode b_Mod_line 76 = .ok (.invokevirtual 91, 3) := by decide +kernel
theorem d_Mod_line_79 : decode b_Mod_line 79 = .ok (.bipush 32, 2) := by decide +kernel
theorem d_Mod_line_81 : decode b_Mod_line 81 = .ok (.if_icmp .eq 5, 3) := by decide +kernel
theorem d_Mod_line_84 : decode b_Mod_line 84 = .ok (.iconst (-1), 1) := by decide +kernel
theorem d_Mod_line_85 : decode b_Mod_line 85 = .ok (.ireturn, 1) := by decide +kernel
theorem d_Mod_line_86 : decode b_Mod_line 86 = .ok (.aload_n 0, 1) := by decide +kernel
theorem d_Mod_line_87 : decode b_Mod_line 87 = .ok (.aload_n 0, 1) := by decide +kernel
theorem d_Mod_line_88 : decode b_Mod_line 88 = .ok (.getfield 219, 3) := by decide +kernel
theorem d_Mod_line_91 : decode b_Mod_line 91 = .ok (.invokevirtual 222, 3) := by decide +kernel
theorem d_Mod_line_94 : decode b_Mod_line 94 = .ok (.istore_n 3, 1) := by decide +kernel
theorem d_Mod_line_95 : decode b_Mod_line 95 = .ok (.aload_n 0, 1) := by decide +kernel
theorem d_Mod_line_96 : decode b_Mod_line 96 = .ok (.iload_n 3, 1) := by decide +kernel
theorem d_Mod_line_97 : decode b_Mod_line 97 = .ok (.invokevirtual 91, 3) := by decide +kernel
theorem d_Mod_line_100 : decode b_Mod_line 100 = .ok (.iconst (-1), 1) := by decide +kernel
theorem d_Mod_line_101 : decode b_Mod_line 101 = .ok (.if_icmp .ne 17, 3) := by decide +kernel
theorem d_Mod_line_104 : decode b_Mod_line 104 = .ok (.aload_n 0, 1) := by decide +kernel
theorem d_Mod_line_105 : decode b_Mod_line 105 = .ok (.getfield 219, 3) := by decide +kernel
theorem d_Mod_line_108 : decode b_Mod_line 108 = .ok (.iload_n 1, 1) := by decide +kernel
theorem d_Mod_line_109 : decode b_Mod_line 109 = .ok (.if_icmp .le 7, 3) := by decide +kernel
theorem d_Mod_line_112 : decode b_Mod_line 112 = .ok (.iconst (-1), 1) := by decide +kernel
theorem d_Mod_line_113 : decode b_Mod_line 113 = .ok (.goto 4, 3) := by decide +kernel
theorem d_Mod_line_116 : decode b_Mod_line 116 = .ok (.iconst 0, 1) := by decide +kernel
theorem d_Mod_line_117 : decode b_Mod_line 117 = .ok (.ireturn, 1) := by decide +kernel
theorem d_Mod_line_118 : decode b_Mod_line 118 = .ok (.iload_n 3, 1) := by decide +kernel
theorem d_Mod_line_119 : decode b_Mod_line 119 = .ok (.istore 4, 2) := by decide +kernel
theorem d_Mod_line_121 : decode b_Mod_line 121 = .ok (.aload_n 0, 1) := by decide +kernel
theorem d_Mod_line_122 : decode b_Mod_line 122 = .ok (.iload 4, 2) := by decide +kernel
theorem d_Mod_line_124 : decode b_Mod_line 124 = .ok (.invokevirtual 91, 3) := by decide +kernel
theorem d_Mod_line_127 : decode b_Mod_line 127 = .ok (.iconst (-1), 1) := by decide +kernel
theorem d_Mod_line_128 : decode b_Mod_line 128 = .ok (.if_icmp .eq 20, 3) := by decide +kernel
theorem d_Mod_line_131 : decode b_Mod_line 131 = .ok (.aload_n 0, 1) := by decide +kernel
theorem d_Mod_line_132 : decode b_Mod_line 132 = .ok (.iload 4, 2) := by decide +kernel
theorem d_Mod_line_134 : decode b_Mod_line 134 = .ok (.invokevirtual 91, 3) := by decide +kernel
theorem d_Mod_line_137 : decode b_Mod_line 137 = .ok (.bipush 32, 2) := by decide +kernel
theorem d_Mod_line_139 : decode b_Mod_line 139 = .ok (.if_icmp .eq 9, 3) := by decide +kernel
theorem d_Mod_line_142 : decode b_Mod_line 142 = .ok (.iinc 4 1, 3) := by decide +kernel
theorem d_Mod_line_145 : decode b_Mod_line 145 = .ok (.goto (-24), 3) := by decide +kernel
theorem d_Mod_line_148 : decode b_Mod_line 148 = .ok (.aload_n 0, 1) := by decide +kernel
theorem d_Mod_line_149 : decode b_Mod_line 149 = .ok (.iload_n 3, 1) := by decide +kernel
theorem d_Mod_line_150 : decode b_Mod_line 150 = .ok (.iload 4, 2) := by decide +kernel
theorem d_Mod_line_152 : decode b_Mod_line 152 = .ok (.invokevirtual 225, 3) := by decide +kernel
theorem d_Mod_line_155 : decode b_Mod_line 155 = .ok (.ifCond .ne 5, 3) := by decide +kernel
theorem d_Mod_line_158 : decode b_Mod_line 158 = .ok (.iconst (-1), 1) := by decide +kernel
theorem d_Mod_line_159 : decode b_Mod_line 159 = .ok (.ireturn, 1) := by decide +kernel
theorem d_Mod_line_160 : decode b_Mod_line 160 = .ok (.aload_n 0, 1) := by decide +kernel
theorem d_Mod_line_161 : decode b_Mod_line 161 = .ok (.aload_n 0, 1) := by decide +kernel
theorem d_Mod_line_162 : decode b_Mod_line 162 = .ok (.iload 4, 2) := by decide +kernel
theorem d_Mod_line_164 : decode b_Mod_line 164 = .ok (.invokevirtual 222, 3) := by decide +kernel
theorem d_Mod_line_167 : decode b_Mod_line 167 = .ok (.putfield 228, 3) := by decide +kernel
theorem d_Mod_line_170 : decode b_Mod_line 170 = .ok (.iconst 1, 1) := by decide +kernel
theorem d_Mod_line_171 : decode b_Mod_line 171 = .ok (.ireturn, 1) := by decide +kernel
theorem d_Mod_operation_0 : decode b_Mod_operation 0 = .ok (.aload_n 0, 1) := by decide +kernel
theorem d_Mod_operation_1 : decode b_Mod_operation 1 = .ok (.iconst 4, 1) := by decide +kernel
theorem d_Mod_operation_2 : decode b_Mod_operation 2 = .ok (.putfield 177, 3) := by decide +kernel
theorem d_Mod_operation_5 : decode b_Mod_operation 5 = .ok (.aload_n 0, 1) := by decide +kernel
theorem d_Mod_operation_6 : decode b_Mod_operation 6 = .ok (.iload_n 1, 1) := by decide +kernel
theorem d_Mod_operation_7 : decode b_Mod_operation 7 = .ok (.iload_n 2, 1) := by decide +kernel
theorem d_Mod_operation_8 : decode b_Mod_operation 8 = .ok (.ldc 180, 2) := by decide +kernel
theorem d_Mod_operation_10 : decode b_Mod_operation 10 = .ok (.invokevirtual 126, 3) := by decide +kernel
theorem d_Mod_operation_13 : decode b_Mod_operation 13 = .ok (.istore_n 3, 1) := by decide +kernel
theorem d_Mod_operation_14 : decode b_Mod_operation 14 = .ok (.iload_n 3, 1) := by decide +kernel
theorem d_Mod_operation_15 : decode b_Mod_operation 15 = .ok (.iconst (-1), 1) := by decide +kernel
theorem d_Mod_operation_16 : decode b_Mod_operation 16 = .ok (.if_icmp .eq 48, 3) := by decide +kernel
theorem d_Mod_operation_19 : decode b_Mod_operation 19 = .ok (.aload_n 0, 1) := by decide +kernel
theorem d_Mod_operation_20 : decode b_Mod_operation 20 = .ok (.iload_n 3, 1) := by decide +kernel
theorem d_Mod_operation_21 : decode b_Mod_operation 21 = .ok (.ifCond .ne 8, 3) := by decide +kernel
theorem d_Mod_operation_24 : decode b_Mod_operation 24 = .ok (.bipush 10, 2) := by decide +kernel
theorem d_Mod_operation_26 : decode b_Mod_operation 26 = .ok (.goto 15, 3) := by decide +kernel
theorem d_Mod_operation_29 : decode b_Mod_operation 29 = .ok (.iload_n 3, 1) := by decide +kernel
theorem d_Mod_operation_30 : decode b_Mod_operation 30 = .ok (.iconst 1, 1) := by decide +kernel
theorem d_Mod_operation_31 : decode b_Mod_operation 31 = .ok (.if_icmp .ne 8, 3) := by decide +kernel
theorem d_Mod_operation_34 : decode b_Mod_operation 34 = .ok (.bipush 11, 2) := by decide +kernel
theorem d_Mod_operation_36 : decode b_Mod_operation 36 = .ok (.goto 5, 3) := by decide +kernel
theorem d_Mod_operation_39 : decode b_Mod_operation 39 = .ok (.bipush 12, 2) := by decide +kernel
theorem d_Mod_operation_41 : decode b_Mod_operation 41 = .ok (.putfield 182, 3) := by decide +kernel
theorem d_Mod_operation_44 : decode b_Mod_operation 44 = .ok (.aload_n 0, 1) := by decide +kernel
theorem d_Mod_operation_45 : decode b_Mod_operation 45 = .ok (.iload_n 3, 1) := by decide +kernel
theorem d_Mod_operation_46 : decode b_Mod_operation 46 = .ok (.iconst 2, 1) := by decide +kernel
theorem d_Mod_operation_47 : decode b_Mod_operation 47 = .ok (.if_icmp .ge 7, 3) := by decide +kernel
theorem d_Mod_operation_50 : decode b_Mod_operation 50 = .ok (.iconst 0, 1) := by decide +kernel
theorem d_Mod_operation_51 : decode b_Mod_operation 51 = .ok (.goto 8, 3) := by decide +kernel
theorem d_Mod_operation_54 : decode b_Mod_operation 54 = .ok (.iconst 1, 1) := by decide +kernel
theorem d_Mod_operation_55 : decode b_Mod_operation 55 = .ok (.iload_n 3, 1) := by decide +kernel
theorem d_Mod_operation_56 : decode b_Mod_operation 56 = .ok (.iconst 2, 1) := by decide +kernel
theorem d_Mod_operation_57 : decode b_Mod_operation 57 = .ok (.isub, 1) := by decide +kernel
theorem d_Mod_operation_58 : decode b_Mod_operation 58 = .ok (.ishl, 1) := by decide +kernel
theorem d_Mod_operation_59 : decode b_Mod_operation 59 = .ok (.putfield 177, 3) := by decide +kernel
theorem d_Mod_operation_62 : decode b_Mod_operation 62 = .ok (.iconst 1, 1) := by decide +kernel
theorem d_Mod_operation_63 : decode b_Mod_operation 63 = .ok (.ireturn, 1) := by decide +kernel
theorem d_Mod_operation_64 : decode b_Mod_operation 64 = .ok (.aload_n 0, 1) := by decide +kernel
theorem d_Mod_operation_65 : decode b_Mod_operation 65 = .ok (.iconst 0, 1) := by decide +kernel
theorem d_Mod_operation_66 : decode b_Mod_operation 66 = .ok (.putfield 182, 3) := by decide +kernel
theorem d_Mod_operation_69 : decode b_Mod_operation 69 = .ok (.aload_n 0, 1) := by decide +kernel
theorem d_Mod_operation_70 : decode b_Mod_operation 70 = .ok (.iload_n 1, 1) := by decide +kernel
theorem d_Mod_operation_71 : decode b_Mod_operation 71 = .ok (.iload_n 2, 1) := by decide +kernel
theorem d_Mod_operation_72 : decode b_Mod_operation 72 = .ok (.ldc 185, 2) := by decide +kernel
theorem d_Mod_operation_74 : decode b_Mod_operation 74 = .ok (.invokevirtual 126, 3) := by decide +kernel
theorem d_Mod_operation_77 : decode b_Mod_operation 77 = .ok (.istore_n 3, 1) := by decide +kernel
theorem d_Mod_operation_78 : decode b_Mod_operation 78 = .ok (.iload_n 3, 1) := by decide +kernel
theorem d_Mod_operation_79 : decode b_Mod_operation 79 = .ok (.iconst (-1), 1) := by decide +kernel
theorem d_Mod_operation_80 : decode b_Mod_operation 80 = .ok (.if_icmp .eq 32, 3) := by decide +kernel
theorem d_Mod_operation_83 : decode b_Mod_operation 83 = .ok (.aload_n 0, 1) := by decide +kernel
theorem d_Mod_operation_84 : decode b_Mod_operation 84 = .ok (.bipush 24, 2) := by decide +kernel
theorem d_Mod_operation_86 : decode b_Mod_operation 86 = .ok (.iconst 2, 1) := by decide +kernel
theorem d_Mod_operation_87 : decode b_Mod_operation 87 = .ok (.iload_n 3, 1) := by decide +kernel
theorem d_Mod_operation_88 : decode b_Mod_operation 88 = .ok (.imul, 1) := by decide +kernel
theorem d_Mod_operation_89 : decode b_Mod_operation 89 = .ok (.iadd, 1) := by decide +kernel
theorem d_Mod_operation_90 : decode b_Mod_operation 90 = .ok (.putfield 187, 3) := by decide +kernel
theorem d_Mod_operation_93 : decode b_Mod_operation 93 = .ok (.iload_n 3, 1) := by decide +kernel
theorem d_Mod_operation_94 : decode b_Mod_operation 94 = .ok (.bipush 14, 2) := by decide +kernel
theorem d_Mod_operation_96 : decode b_Mod_operation 96 = .ok (.if_icmp .eq 9, 3) := by decide +kernel
theorem d_Mod_operation_99 : decode b_Mod_operation 99 = .ok (.iload_n 3, 1) := by decide +kernel
theorem d_Mod_operation_100 : decode b_Mod_operation 100 = .ok (.bipush 15, 2) := by decide +kernel
theorem d_Mod_operation_102 : decode b_Mod_operation 102 = .ok (.if_icmp .ne 8, 3) := by decide +kernel
theorem d_Mod_operation_105 : decode b_Mod_operation 105 = .ok (.aload_n 0, 1) := by decide +kernel
theorem d_Mod_operation_106 : decode b_Mod_operation 106 = .ok (.iconst 1, 1) := by decide +kernel
theorem d_Mod_operation_107 : decode b_Mod_operation 107 = .ok (.putfield 182, 3) := by decide +kernel
theorem d_Mod_operation_110 : decode b_Mod_operation 110 = .ok (.iconst 1, 1) := by decide +kernel
theorem d_Mod_operation_111 : decode b_Mod_operation 111 = .ok (.ireturn, 1) := by decide +kernel
theorem d_Mod_operation_112 : decode b_Mod_operation 112 = .ok (.aload_n 0, 1) := by decide +kernel
theorem d_Mod_operation_113 : decode b_Mod_operation 113 = .ok (.iload_n 1, 1) := by decide +kernel
theorem d_Mod_operation_114 : decode b_Mod_operation 114 = .ok (.iload_n 2, 1) := by decide +kernel
theorem d_Mod_operation_115 : decode b_Mod_operation 115 = .ok (.ldc 190, 2) := by decide +kernel
theorem d_Mod_operation_117 : decode b_Mod_operation 117 = .ok (.invokevirtual 126, 3) := by decide +kernel
theorem d_Mod_operation_120 : decode b_Mod_operation 120 = .ok (.istore_n 3, 1) := by decide +kernel
theorem d_Mod_operation_121 : decode b_Mod_operation 121 = .ok (.aload_n 0, 1) := by decide +kernel
theorem d_Mod_operation_122 : decode b_Mod_operation 122 = .ok (.sipush 128, 3) := by decide +kernel
theorem d_Mod_operation_125 : decode b_Mod_operation 125 = .ok (.iconst 2, 1) := by decide +kernel
theorem d_Mod_operation_126 : decode b_Mod_operation 126 = .ok (.iload_n 3, 1) := by decide +kernel
theorem d_Mod_operation_127 : decode b_Mod_operation 127 = .ok (.imul, 1) := by decide +kernel
theorem d_Mod_operation_128 : decode b_Mod_operation 128 = .ok (.iadd, 1) := by decide +kernel
theorem d_Mod_operation_129 : decode b_Mod_operation 129 = .ok (.putfield 187, 3) := by decide +kernel
theorem d_Mod_operation_132 : decode b_Mod_operation 132 = .ok (.iload_n 3, 1) := by decide +kernel
theorem d_Mod_operation_133 : decode b_Mod_operation 133 = .ok (.iconst (-1), 1) := by decide +kernel
theorem d_Mod_operation_134 : decode b_Mod_operation 134 = .ok (.if_icmp .eq 5, 3) := by decide +kernel
theorem d_Mod_operation_137 : decode b_Mod_operation 137 = .ok (.iconst 1, 1) := by decide +kernel
theorem d_Mod_operation_138 : decode b_Mod_operation 138 = .ok (.ireturn, 1) := by decide +kernel
theorem d_Mod_operation_139 : decode b_Mod_operation 139 = .ok (.aload_n 0, 1) := by decide +kernel
theorem d_Mod_operation_140 : decode b_Mod_operation 140 = .ok (.iload_n 1, 1) := by decide +kernel
theorem d_Mod_operation_141 : decode b_Mod_operation 141 = .ok (.iload_n 2, 1) := by decide +kernel
theorem d_Mod_operation_142 : decode b_Mod_operation 142 = .ok (.ldc 192, 2) := by decide +kernel
theorem d_Mod_operation_144 : decode b_Mod_operation 144 = .ok (.invokevirtual 126, 3) := by decide +kernel
theorem d_Mod_operation_147 : decode b_Mod_operation 147 = .ok (.istore_n 3, 1) := by decide +kernel
theorem d_Mod_operation_148 : decode b_Mod_operation 148 = .ok (.aload_n 0, 1) := by decide +kernel
theorem d_Mod_operation_149 : decode b_Mod_operation 149 = .ok (.sipush 160, 3) := by decide +kernel
theorem d_Mod_operation_152 : decode b_Mod_operation 152 = .ok (.iconst 2, 1) := by decide +kernel
theorem d_Mod_operation_153 : decode b_Mod_operation 153 = .ok (.iload_n 3, 1) := by decide +kernel
theorem d_Mod_operation_154 : decode b_Mod_operation 154 = .ok (.imul, 1) := by decide +kernel
theorem d_Mod_operation_155 : decode b_Mod_operation 155 = .ok (.iadd, 1) := by decide +kernel
theorem d_Mod_operation_156 : decode b_Mod_operation 156 = .ok (.putfield 187, 3) := by decide +kernel
theorem d_Mod_operation_159 : decode b_Mod_operation 159 = .ok (.iload_n 3, 1) := by decide +kernel
theorem d_Mod_operation_160 : decode b_Mod_operation 160 = .ok (.iconst (-1), 1) := by decide +kernel
theorem d_Mod_operation_161 : decode b_Mod_operation 161 = .ok (.if_icmp .eq 5, 3) := by decide +kernel
theorem d_Mod_operation_164 : decode b_Mod_operation 164 = .ok (.iconst 1, 1) := by decide +kernel
theorem d_Mod_operation_165 : decode b_Mod_operation 165 = .ok (.ireturn, 1) := by decide +kernel
theorem d_Mod_operation_166 : decode b_Mod_operation 166 = .ok (.aload_n 0, 1) := by decide +kernel
theorem d_Mod_operation_167 : decode b_Mod_operation 167 = .ok (.iload_n 1, 1) := by decide +kernel
theorem d_Mod_operation_168 : decode b_Mod_operation 168 = .ok (.iload_n 2, 1) := by decide +kernel
theorem d_Mod_operation_169 : decode b_Mod_operation 169 = .ok (.ldc 194, 2) := by decide +kernel
theorem d_Mod_operation_171 : decode b_Mod_operation 171 = .ok (.invokevirtual 126, 3) := by decide +kernel
theorem d_Mod_operation_174 : decode b_Mod_operation 174 = .ok (.istore_n 3, 1) := by decide +kernel
theorem d_Mod_operation_175 : decode b_Mod_operation 175 = .ok (.aload_n 0, 1) := by decide +kernel
theorem d_Mod_operation_176 : decode b_Mod_operation 176 = .ok (.sipush 192, 3) := by decide +kernel
theorem d_Mod_operation_179 : decode b_Mod_operation 179 = .ok (.iconst 2, 1) := by decide +kernel
theorem d_Mod_operation_180 : decode b_Mod_operation 180 = .ok (.iload_n 3, 1) := by decide +kernel
theorem d_Mod_operation_181 : decode b_Mod_operation 181 = .ok (.imul, 1) := by decide +kernel
theorem d_Mod_operation_182 : decode b_Mod_operation 182 = .ok (.iadd, 1) := by decide +kernel
theorem d_Mod_operation_183 : decode b_Mod_operation 183 = .ok (.putfield 187, 3) := by decide +kernel
theorem d_Mod_operation_186 : decode b_Mod_operation 186 = .ok (.iload_n 3, 1) := by decide +kernel
theorem d_Mod_operation_187 : decode b_Mod_operation 187 = .ok (.iconst (-1), 1) := by decide +kernel
theorem d_Mod_operation_188 : decode b_Mod_operation 188 = .ok (.if_icmp .eq 5, 3) := by decide +kernel
theorem d_Mod_operation_191 : decode b_Mod_operation 191 = .ok (.iconst 1, 1) := by decide +kernel
theorem d_Mod_operation_192 : decode b_Mod_operation 192 = .ok (.ireturn, 1) := by decide +kernel
theorem d_Mod_operation_193 : decode b_Mod_operation 193 = .ok (.aload_n 0, 1) := by decide +kernel
theorem d_Mod_operation_194 : decode b_Mod_operation 194 = .ok (.iconst 3, 1) := by decide +kernel
theorem d_Mod_operation_195 : decode b_Mod_operation 195 = .ok (.putfield 182, 3) := by decide +kernel
theorem d_Mod_operation_198 : decode b_Mod_operation 198 = .ok (.aload_n 0, 1) := by decide +kernel
theorem d_Mod_operation_199 : decode b_Mod_operation 199 = .ok (.iload_n 1, 1) := by decide +kernel
theorem d_Mod_operation_200 : decode b_Mod_operation 200 = .ok (.iload_n 2, 1) := by decide +kernel
theorem d_Mod_operation_201 : decode b_Mod_operation 201 = .ok (.ldc 196, 2) := by decide +kernel
theorem d_Mod_operation_203 : decode b_Mod_operation 203 = .ok (.invokevirtual 126, 3) := by decide +kernel
theorem d_Mod_operation_206 : decode b_Mod_operation 206 = .ok (.istore_n 3, 1) := by decide +kernel
theorem d_Mod_operation_207 : decode b_Mod_operation 207 = .ok (.aload_n 0, 1) := by decide +kernel
theorem d_Mod_operation_208 : decode b_Mod_operation 208 = .ok (.sipush 224, 3) := by decide +kernel
theorem d_Mod_operation_211 : decode b_Mod_operation 211 = .ok (.iload_n 3, 1) := by decide +kernel
theorem d_Mod_operation_212 : decode b_Mod_operation 212 = .ok (.iadd, 1) := by decide +kernel
theorem d_Mod_operation_213 : decode b_Mod_operation 213 = .ok (.putfield 187, 3) := by decide +kernel
theorem d_Mod_operation_216 : decode b_Mod_operation 216 = .ok (.iload_n 3, 1) := by decide +kernel
theorem d_Mod_operation_217 : decode b_Mod_operation 217 = .ok (.iconst (-1), 1) := by decide +kernel
theorem d_Mod_operation_218 : decode b_Mod_operation 218 = .ok (.if_icmp .eq 5, 3) := by decide +kernel
theorem d_Mod_operation_221 : decode b_Mod_operation 221 = .ok (.iconst 1, 1) := by decide +kernel
theorem d_Mod_operation_222 : decode b_Mod_operation 222 = .ok (.ireturn, 1) := by decide +kernel
theorem d_Mod_operation_223 : decode b_Mod_operation 223 = .ok (.aload_n 0, 1) := by decide +kernel
theorem d_Mod_operation_224 : decode b_Mod_operation 224 = .ok (.bipush 8, 2) := by decide +kernel
theorem d_Mod_operation_226 : decode b_Mod_operation 226 = .ok (.putfield 182, 3) := by decide +kernel
theorem d_Mod_operation_229 : decode b_Mod_operation 229 = .ok (.aload_n 0, 1) := by decide +kernel
theorem d_Mod_operation_230 : decode b_Mod_operation 230 = .ok (.iload_n 1, 1) := by decide +kernel
theorem d_Mod_operation_231 : decode b_Mod_operation 231 = .ok (.iload_n 2, 1) := by decide +kernel
theorem d_Mod_operation_232 : decode b_Mod_operation 232 = .ok (.ldc 198, 2) := by decide +kernel
theorem d_Mod_operation_234 : decode b_Mod_operation 234 = .ok (.invokevirtual 126, 3) := by decide +kernel
theorem d_Mod_operation_237 : decode b_Mod_operation 237 = .ok (.istore_n 3, 1) := by decide +kernel
theorem d_Mod_operation_238 : decode b_Mod_operation 238 = .ok (.aload_n 0, 1) := by decide +kernel
theorem d_Mod_operation_239 : decode b_Mod_operation 239 = .ok (.iload_n 3, 1) := by decide +kernel
theorem d_Mod_operation_240 : decode b_Mod_operation 240 = .ok (.ifCond .ne 7, 3) := by decide +kernel
theorem d_Mod_operation_243 : decode b_Mod_operation 243 = .ok (.iconst 0, 1) := by decide +kernel
theorem d_Mod_operation_244 : decode b_Mod_operation 244 = .ok (.goto 28, 3) := by decide +kernel
theorem d_Mod_operation_247 : decode b_Mod_operation 247 = .ok (.iload_n 3, 1) := by decide +kernel
theorem d_Mod_operation_248 : decode b_Mod_operation 248 = .ok (.iconst 1, 1) := by decide +kernel
theorem d_Mod_operation_249 : decode b_Mod_operation 249 = .ok (.if_icmp .ne 9, 3) := by decide +kernel
theorem d_Mod_operation_252 : decode b_Mod_operation 252 = .ok (.sipush 249, 3) := by decide +kernel
theorem d_Mod_operation_255 : decode b_Mod_operation 255 = .ok (.goto 17, 3) := by decide +kernel
theorem d_Mod_operation_258 : decode b_Mod_operation 258 = .ok (.iload_n 3, 1) := by decide +kernel
theorem d_Mod_operation_259 : decode b_Mod_operation 259 = .ok (.iconst 2, 1) := by decide +kernel
theorem d_Mod_operation_260 : decode b_Mod_operation 260 = .ok (.if_icmp .ne 9, 3) := by decide +kernel
theorem d_Mod_operation_263 : decode b_Mod_operation 263 = .ok (.sipush 253, 3) := by decide +kernel
theorem d_Mod_operation_266 : decode b_Mod_operation 266 = .ok (.goto 6, 3) := by decide +kernel
theorem d_Mod_operation_269 : decode b_Mod_operation 269 = .ok (.sipush 255, 3) := by decide +kernel
theorem d_Mod_operation_272 : decode b_Mod_operation 272 = .ok (.putfield 187, 3) := by decide +kernel
theorem d_Mod_operation_275 : decode b_Mod_operation 275 = .ok (.iload_n 3, 1) := by decide +kernel
theorem d_Mod_operation_276 : decode b_Mod_operation 276 = .ok (.iconst (-1), 1) := by decide +kernel
theorem d_Mod_operation_277 : decode b_Mod_operation 277 = .ok (.if_icmp .eq 5, 3) := by decide +kernel
theorem d_Mod_operation_280 : decode b_Mod_operation 280 = .ok (.iconst 1, 1) := by decide +kernel
theorem d_Mod_operation_281 : decode b_Mod_operation 281 = .ok (.ireturn, 1) := by decide +kernel
theorem d_Mod_operation_282 : decode b_Mod_operation 282 = .ok (.aload_n 0, 1) := by decide +kernel
theorem d_Mod_operation_283 : decode b_Mod_operation 283 = .ok (.iload_n 1, 1) := by decide +kernel
theorem d_Mod_operation_284 : decode b_Mod_operation 284 = .ok (.iload_n 2, 1) := by decide +kernel
theorem d_Mod_operation_285 : decode b_Mod_operation 285 = .ok (.ldc 200, 2) := by decide +kernel
