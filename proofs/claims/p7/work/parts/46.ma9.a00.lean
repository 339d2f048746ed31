abbrev b_Mod_assemble : ByteArray := prog_14_method_35_code
abbrev y_Mod_assemble : MethodName := ⟨"LittleMixModel", "assemble", "(I)I"⟩
theorem p_Mod_first : y_Mod_first.cls ≠ "java/lang/invoke/MethodHandle" ∧ y_Mod_first.cls ≠ "java/lang/invoke/VarHandle" ∧ (parseMethodDescriptor y_Mod_first.desc).map (fun d => d.parameters.length) = some 0 := by decide +kernel
theorem p_Mod_second : y_Mod_second.cls ≠ "java/lang/invoke/MethodHandle" ∧ y_Mod_second.cls ≠ "java/lang/invoke/VarHandle" ∧ (parseMethodDescriptor y_Mod_second.desc).map (fun d => d.parameters.length) = some 0 := by decide +kernel
theorem k_1119 : (Jvm.Cond.methodLink "LittleMixModel" (292 : Nat) ({ cls := "LittleMixModel", name := "first", desc := "()I" } : Jvm.MethodName)) ∈ mx_T := List.mem_filter.mpr ⟨List.mem_append_right _ ((List.mem_append_right _ (List.mem_append_right _ (List.mem_append_right _ (List.mem_append_right _ (List.mem_append_left _ (List.mem_of_getElem? (l := tables_1_5) (i := 159) (by decide +kernel)))))))), rfl⟩
theorem k_1121 : (Jvm.Cond.instanceMethod ({ cls := "LittleMixModel", name := "first", desc := "()I" } : Jvm.MethodName)) ∈ mx_T := List.mem_filter.mpr ⟨List.mem_append_right _ ((List.mem_append_right _ (List.mem_append_right _ (List.mem_append_right _ (List.mem_append_right _ (List.mem_append_left _ (List.mem_of_getElem? (l := tables_1_5) (i := 161) (by decide +kernel)))))))), rfl⟩
theorem k_1122 : (Jvm.Cond.code ({ cls := "LittleMixModel", name := "first", desc := "()I" } : Jvm.MethodName) prog_14_method_27_code (10 : Nat) (Option.some Jvm.ClassFile.FieldType.int)) ∈ mx_T := List.mem_filter.mpr ⟨List.mem_append_right _ ((List.mem_append_right _ (List.mem_append_right _ (List.mem_append_right _ (List.mem_append_right _ (List.mem_append_left _ (List.mem_of_getElem? (l := tables_1_5) (i := 162) rfl))))))), rfl⟩
theorem k_1220 : (Jvm.Cond.methodLink "LittleMixModel" (295 : Nat) ({ cls := "LittleMixModel", name := "second", desc := "()I" } : Jvm.MethodName)) ∈ mx_T := List.mem_filter.mpr ⟨List.mem_append_right _ ((List.mem_append_right _ (List.mem_append_right _ (List.mem_append_right _ (List.mem_append_right _ (List.mem_append_right _ (List.mem_of_getElem? (l := tables_1_6) (i := 20) (by decide +kernel)))))))), rfl⟩
theorem k_1222 : (Jvm.Cond.instanceMethod ({ cls := "LittleMixModel", name := "second", desc := "()I" } : Jvm.MethodName)) ∈ mx_T := List.mem_filter.mpr ⟨List.mem_append_right _ ((List.mem_append_right _ (List.mem_append_right _ (List.mem_append_right _ (List.mem_append_right _ (List.mem_append_right _ (List.mem_of_getElem? (l := tables_1_6) (i := 22) (by decide +kernel)))))))), rfl⟩
theorem k_1223 : (Jvm.Cond.code ({ cls := "LittleMixModel", name := "second", desc := "()I" } : Jvm.MethodName) prog_14_method_29_code (7 : Nat) (Option.some Jvm.ClassFile.FieldType.int)) ∈ mx_T := List.mem_filter.mpr ⟨List.mem_append_right _ ((List.mem_append_right _ (List.mem_append_right _ (List.mem_append_right _ (List.mem_append_right _ (List.mem_append_right _ (List.mem_of_getElem? (l := tables_1_6) (i := 23) rfl))))))), rfl⟩
theorem sl_Mod_first : Cond.selects y_Mod_first.cls y_Mod_first y_Mod_first ∈ mx_T := List.mem_filter.mpr ⟨List.mem_append_left _ (by decide +kernel), by decide +kernel⟩
theorem sl_Mod_second : Cond.selects y_Mod_second.cls y_Mod_second y_Mod_second ∈ mx_T := List.mem_filter.mpr ⟨List.mem_append_left _ (by decide +kernel), by decide +kernel⟩
theorem d_Mod_assemble_0 : decode b_Mod_assemble 0 = .ok (.aload_n 0, 1) := by decide +kernel
theorem d_Mod_assemble_1 : decode b_Mod_assemble 1 = .ok (.iconst 0, 1) := by decide +kernel
theorem d_Mod_assemble_2 : decode b_Mod_assemble 2 = .ok (.putfield 58, 3) := by decide +kernel
theorem d_Mod_assemble_5 : decode b_Mod_assemble 5 = .ok (.iload_n 1, 1) := by decide +kernel
theorem d_Mod_assemble_6 : decode b_Mod_assemble 6 = .ok (.ifCond .lt 11, 3) := by decide +kernel
theorem d_Mod_assemble_9 : decode b_Mod_assemble 9 = .ok (.iload_n 1, 1) := by decide +kernel
theorem d_Mod_assemble_10 : decode b_Mod_assemble 10 = .ok (.aload_n 0, 1) := by decide +kernel
theorem d_Mod_assemble_11 : decode b_Mod_assemble 11 = .ok (.getfield 85, 3) := by decide +kernel
theorem d_Mod_assemble_14 : decode b_Mod_assemble 14 = .ok (.if_icmp .le 5, 3) := by decide +kernel
theorem d_Mod_assemble_17 : decode b_Mod_assemble 17 = .ok (.iconst (-1), 1) := by decide +kernel
theorem d_Mod_assemble_18 : decode b_Mod_assemble 18 = .ok (.ireturn, 1) := by decide +kernel
theorem d_Mod_assemble_19 : decode b_Mod_assemble 19 = .ok (.iconst 0, 1) := by decide +kernel
theorem d_Mod_assemble_20 : decode b_Mod_assemble 20 = .ok (.istore_n 2, 1) := by decide +kernel
theorem d_Mod_assemble_21 : decode b_Mod_assemble 21 = .ok (.iload_n 2, 1) := by decide +kernel
theorem d_Mod_assemble_22 : decode b_Mod_assemble 22 = .ok (.iload_n 1, 1) := by decide +kernel
theorem d_Mod_assemble_23 : decode b_Mod_assemble 23 = .ok (.if_icmp .ge 21, 3) := by decide +kernel
theorem d_Mod_assemble_26 : decode b_Mod_assemble 26 = .ok (.aload_n 0, 1) := by decide +kernel
theorem d_Mod_assemble_27 : decode b_Mod_assemble 27 = .ok (.getfield 13, 3) := by decide +kernel
theorem d_Mod_assemble_30 : decode b_Mod_assemble 30 = .ok (.iload_n 2, 1) := by decide +kernel
theorem d_Mod_assemble_31 : decode b_Mod_assemble 31 = .ok (.aload_n 0, 1) := by decide +kernel
theorem d_Mod_assemble_32 : decode b_Mod_assemble 32 = .ok (.getfield 7, 3) := by decide +kernel
theorem d_Mod_assemble_35 : decode b_Mod_assemble 35 = .ok (.iload_n 2, 1) := by decide +kernel
theorem d_Mod_assemble_36 : decode b_Mod_assemble 36 = .ok (.iaload, 1) := by decide +kernel
theorem d_Mod_assemble_37 : decode b_Mod_assemble 37 = .ok (.iastore, 1) := by decide +kernel
theorem d_Mod_assemble_38 : decode b_Mod_assemble 38 = .ok (.iinc 2 1, 3) := by decide +kernel
theorem d_Mod_assemble_41 : decode b_Mod_assemble 41 = .ok (.goto (-20), 3) := by decide +kernel
theorem d_Mod_assemble_44 : decode b_Mod_assemble 44 = .ok (.aload_n 0, 1) := by decide +kernel
theorem d_Mod_assemble_45 : decode b_Mod_assemble 45 = .ok (.iload_n 1, 1) := by decide +kernel
theorem d_Mod_assemble_46 : decode b_Mod_assemble 46 = .ok (.putfield 88, 3) := by decide +kernel
theorem d_Mod_assemble_49 : decode b_Mod_assemble 49 = .ok (.aload_n 0, 1) := by decide +kernel
theorem d_Mod_assemble_50 : decode b_Mod_assemble 50 = .ok (.iconst 0, 1) := by decide +kernel
theorem d_Mod_assemble_51 : decode b_Mod_assemble 51 = .ok (.putfield 85, 3) := by decide +kernel
theorem d_Mod_assemble_54 : decode b_Mod_assemble 54 = .ok (.aload_n 0, 1) := by decide +kernel
theorem d_Mod_assemble_55 : decode b_Mod_assemble 55 = .ok (.aload_n 0, 1) := by decide +kernel
theorem d_Mod_assemble_56 : decode b_Mod_assemble 56 = .ok (.invokevirtual 292, 3) := by decide +kernel
theorem d_Mod_assemble_59 : decode b_Mod_assemble 59 = .ok (.putfield 16, 3) := by decide +kernel
theorem d_Mod_assemble_62 : decode b_Mod_assemble 62 = .ok (.aload_n 0, 1) := by decide +kernel
theorem d_Mod_assemble_63 : decode b_Mod_assemble 63 = .ok (.getfield 16, 3) := by decide +kernel
theorem d_Mod_assemble_66 : decode b_Mod_assemble 66 = .ok (.iconst (-1), 1) := by decide +kernel
theorem d_Mod_assemble_67 : decode b_Mod_assemble 67 = .ok (.if_icmp .ne 11, 3) := by decide +kernel
theorem d_Mod_assemble_70 : decode b_Mod_assemble 70 = .ok (.aload_n 0, 1) := by decide +kernel
theorem d_Mod_assemble_71 : decode b_Mod_assemble 71 = .ok (.aload_n 0, 1) := by decide +kernel
theorem d_Mod_assemble_72 : decode b_Mod_assemble 72 = .ok (.invokevirtual 295, 3) := by decide +kernel
theorem d_Mod_assemble_75 : decode b_Mod_assemble 75 = .ok (.putfield 16, 3) := by decide +kernel
theorem d_Mod_assemble_78 : decode b_Mod_assemble 78 = .ok (.aload_n 0, 1) := by decide +kernel
theorem d_Mod_assemble_79 : decode b_Mod_assemble 79 = .ok (.getfield 16, 3) := by decide +kernel
theorem d_Mod_assemble_82 : decode b_Mod_assemble 82 = .ok (.iconst (-1), 1) := by decide +kernel
theorem d_Mod_assemble_83 : decode b_Mod_assemble 83 = .ok (.if_icmp .eq 5, 3) := by decide +kernel
theorem d_Mod_assemble_86 : decode b_Mod_assemble 86 = .ok (.iconst 1, 1) := by decide +kernel
theorem d_Mod_assemble_87 : decode b_Mod_assemble 87 = .ok (.ireturn, 1) := by decide +kernel
theorem d_Mod_assemble_88 : decode b_Mod_assemble 88 = .ok (.aload_n 0, 1) := by decide +kernel
theorem d_Mod_assemble_89 : decode b_Mod_assemble 89 = .ok (.aload_n 0, 1) := by decide +kernel
theorem d_Mod_assemble_90 : decode b_Mod_assemble 90 = .ok (.getfield 133, 3) := by decide +kernel
theorem d_Mod_assemble_93 : decode b_Mod_assemble 93 = .ok (.putfield 298, 3) := by decide +kernel
theorem d_Mod_assemble_96 : decode b_Mod_assemble 96 = .ok (.iconst 0, 1) := by decide +kernel
theorem d_Mod_assemble_97 : decode b_Mod_assemble 97 = .ok (.istore_n 2, 1) := by decide +kernel
theorem d_Mod_assemble_98 : decode b_Mod_assemble 98 = .ok (.iload_n 2, 1) := by decide +kernel
theorem d_Mod_assemble_99 : decode b_Mod_assemble 99 = .ok (.aload_n 0, 1) := by decide +kernel
theorem d_Mod_assemble_100 : decode b_Mod_assemble 100 = .ok (.getfield 133, 3) := by decide +kernel
theorem d_Mod_assemble_103 : decode b_Mod_assemble 103 = .ok (.if_icmp .ge 43, 3) := by decide +kernel
theorem d_Mod_assemble_106 : decode b_Mod_assemble 106 = .ok (.aload_n 0, 1) := by decide +kernel
theorem d_Mod_assemble_107 : decode b_Mod_assemble 107 = .ok (.getfield 34, 3) := by decide +kernel
theorem d_Mod_assemble_110 : decode b_Mod_assemble 110 = .ok (.iload_n 2, 1) := by decide +kernel
theorem d_Mod_assemble_111 : decode b_Mod_assemble 111 = .ok (.aload_n 0, 1) := by decide +kernel
theorem d_Mod_assemble_112 : decode b_Mod_assemble 112 = .ok (.getfield 30, 3) := by decide +kernel
theorem d_Mod_assemble_115 : decode b_Mod_assemble 115 = .ok (.iload_n 2, 1) := by decide +kernel
theorem d_Mod_assemble_116 : decode b_Mod_assemble 116 = .ok (.baload, 1) := by decide +kernel
theorem d_Mod_assemble_117 : decode b_Mod_assemble 117 = .ok (.ifCond .eq 16, 3) := by decide +kernel
theorem d_Mod_assemble_120 : decode b_Mod_assemble 120 = .ok (.ldc2_w 273, 3) := by decide +kernel
theorem d_Mod_assemble_123 : decode b_Mod_assemble 123 = .ok (.aload_n 0, 1) := by decide +kernel
theorem d_Mod_assemble_124 : decode b_Mod_assemble 124 = .ok (.getfield 26, 3) := by decide +kernel
theorem d_Mod_assemble_127 : decode b_Mod_assemble 127 = .ok (.iload_n 2, 1) := by decide +kernel
theorem d_Mod_assemble_128 : decode b_Mod_assemble 128 = .ok (.laload, 1) := by decide +kernel
theorem d_Mod_assemble_129 : decode b_Mod_assemble 129 = .ok (.ladd, 1) := by decide +kernel
theorem d_Mod_assemble_130 : decode b_Mod_assemble 130 = .ok (.goto 9, 3) := by decide +kernel
theorem d_Mod_assemble_133 : decode b_Mod_assemble 133 = .ok (.aload_n 0, 1) := by decide +kernel
theorem d_Mod_assemble_134 : decode b_Mod_assemble 134 = .ok (.getfield 26, 3) := by decide +kernel
theorem d_Mod_assemble_137 : decode b_Mod_assemble 137 = .ok (.iload_n 2, 1) := by decide +kernel
theorem d_Mod_assemble_138 : decode b_Mod_assemble 138 = .ok (.laload, 1) := by decide +kernel
theorem d_Mod_assemble_139 : decode b_Mod_assemble 139 = .ok (.lastore, 1) := by decide +kernel
theorem d_Mod_assemble_140 : decode b_Mod_assemble 140 = .ok (.iinc 2 1, 3) := by decide +kernel
theorem d_Mod_assemble_143 : decode b_Mod_assemble 143 = .ok (.goto (-45), 3) := by decide +kernel
theorem d_Mod_assemble_146 : decode b_Mod_assemble 146 = .ok (.iconst 0, 1) := by decide +kernel
theorem d_Mod_assemble_147 : decode b_Mod_assemble 147 = .ok (.istore_n 2, 1) := by decide +kernel
theorem d_Mod_assemble_148 : decode b_Mod_assemble 148 = .ok (.iload_n 2, 1) := by decide +kernel
theorem d_Mod_assemble_149 : decode b_Mod_assemble 149 = .ok (.sipush 4096, 3) := by decide +kernel
theorem d_Mod_assemble_152 : decode b_Mod_assemble 152 = .ok (.if_icmp .ge 21, 3) := by decide +kernel
theorem d_Mod_assemble_155 : decode b_Mod_assemble 155 = .ok (.aload_n 0, 1) := by decide +kernel
theorem d_Mod_assemble_156 : decode b_Mod_assemble 156 = .ok (.getfield 37, 3) := by decide +kernel
theorem d_Mod_assemble_159 : decode b_Mod_assemble 159 = .ok (.iload_n 2, 1) := by decide +kernel
theorem d_Mod_assemble_160 : decode b_Mod_assemble 160 = .ok (.aload_n 0, 1) := by decide +kernel
theorem d_Mod_assemble_161 : decode b_Mod_assemble 161 = .ok (.getfield 40, 3) := by decide +kernel
theorem d_Mod_assemble_164 : decode b_Mod_assemble 164 = .ok (.iload_n 2, 1) := by decide +kernel
theorem d_Mod_assemble_165 : decode b_Mod_assemble 165 = .ok (.iaload, 1) := by decide +kernel
theorem d_Mod_assemble_166 : decode b_Mod_assemble 166 = .ok (.iastore, 1) := by decide +kernel
theorem d_Mod_assemble_167 : decode b_Mod_assemble 167 = .ok (.iinc 2 1, 3) := by decide +kernel
theorem d_Mod_assemble_170 : decode b_Mod_assemble 170 = .ok (.goto (-22), 3) := by decide +kernel
theorem d_Mod_assemble_173 : decode b_Mod_assemble 173 = .ok (.aload_n 0, 1) := by decide +kernel
theorem d_Mod_assemble_174 : decode b_Mod_assemble 174 = .ok (.invokevirtual 55, 3) := by decide +kernel
theorem d_Mod_assemble_177 : decode b_Mod_assemble 177 = .ok (.iconst 0, 1) := by decide +kernel
theorem d_Mod_assemble_178 : decode b_Mod_assemble 178 = .ok (.ireturn, 1) := by decide +kernel
