abbrev b_Mod_expression : ByteArray := prog_14_method_19_code
abbrev y_Mod_expression : MethodName := ⟨"LittleMixModel", "expression", "(IJ)I"⟩
theorem p_Mod_term : y_Mod_term.cls ≠ "java/lang/invoke/MethodHandle" ∧ y_Mod_term.cls ≠ "java/lang/invoke/VarHandle" ∧ (parseMethodDescriptor y_Mod_term.desc).map (fun d => d.parameters.length) = some 2 := by decide +kernel
theorem k_1004 : (Jvm.Cond.fieldLink "LittleMixModel" (168 : Nat) "LittleMixModel" "value" "J") ∈ mx_T := List.mem_filter.mpr ⟨List.mem_append_right _ ((List.mem_append_right _ (List.mem_append_right _ (List.mem_append_right _ (List.mem_append_right _ (List.mem_append_left _ (List.mem_of_getElem? (l := tables_1_5) (i := 44) (by decide +kernel)))))))), rfl⟩
theorem k_1005 : (Jvm.Cond.fieldLink "LittleMixModel" (171 : Nat) "LittleMixModel" "register" "Z") ∈ mx_T := List.mem_filter.mpr ⟨List.mem_append_right _ ((List.mem_append_right _ (List.mem_append_right _ (List.mem_append_right _ (List.mem_append_right _ (List.mem_append_left _ (List.mem_of_getElem? (l := tables_1_5) (i := 45) (by decide +kernel)))))))), rfl⟩
theorem k_1182 : (Jvm.Cond.methodLink "LittleMixModel" (174 : Nat) ({ cls := "LittleMixModel", name := "term", desc := "(IJ)I" } : Jvm.MethodName)) ∈ mx_T := List.mem_filter.mpr ⟨List.mem_append_right _ ((List.mem_append_right _ (List.mem_append_right _ (List.mem_append_right _ (List.mem_append_right _ (List.mem_append_left _ (List.mem_of_getElem? (l := tables_1_5) (i := 222) (by decide +kernel)))))))), rfl⟩
theorem k_1184 : (Jvm.Cond.instanceMethod ({ cls := "LittleMixModel", name := "term", desc := "(IJ)I" } : Jvm.MethodName)) ∈ mx_T := List.mem_filter.mpr ⟨List.mem_append_right _ ((List.mem_append_right _ (List.mem_append_right _ (List.mem_append_right _ (List.mem_append_right _ (List.mem_append_left _ (List.mem_of_getElem? (l := tables_1_5) (i := 224) (by decide +kernel)))))))), rfl⟩
theorem k_1185 : (Jvm.Cond.code ({ cls := "LittleMixModel", name := "term", desc := "(IJ)I" } : Jvm.MethodName) prog_14_method_18_code (8 : Nat) (Option.some Jvm.ClassFile.FieldType.int)) ∈ mx_T := List.mem_filter.mpr ⟨List.mem_append_right _ ((List.mem_append_right _ (List.mem_append_right _ (List.mem_append_right _ (List.mem_append_right _ (List.mem_append_left _ (List.mem_of_getElem? (l := tables_1_5) (i := 225) rfl))))))), rfl⟩
theorem sl_Mod_term : Cond.selects y_Mod_term.cls y_Mod_term y_Mod_term ∈ mx_T := List.mem_filter.mpr ⟨List.mem_append_left _ (by decide +kernel), by decide +kernel⟩
theorem d_Mod_expression_0 : decode b_Mod_expression 0 = .ok (.aload_n 0, 1) := by decide +kernel
theorem d_Mod_expression_1 : decode b_Mod_expression 1 = .ok (.lconst 0, 1) := by decide +kernel
theorem d_Mod_expression_2 : decode b_Mod_expression 2 = .ok (.putfield 168, 3) := by decide +kernel
theorem d_Mod_expression_5 : decode b_Mod_expression 5 = .ok (.aload_n 0, 1) := by decide +kernel
theorem d_Mod_expression_6 : decode b_Mod_expression 6 = .ok (.iconst 1, 1) := by decide +kernel
theorem d_Mod_expression_7 : decode b_Mod_expression 7 = .ok (.putfield 162, 3) := by decide +kernel
theorem d_Mod_expression_10 : decode b_Mod_expression 10 = .ok (.aload_n 0, 1) := by decide +kernel
theorem d_Mod_expression_11 : decode b_Mod_expression 11 = .ok (.iconst 0, 1) := by decide +kernel
theorem d_Mod_expression_12 : decode b_Mod_expression 12 = .ok (.putfield 171, 3) := by decide +kernel
theorem d_Mod_expression_15 : decode b_Mod_expression 15 = .ok (.aload_n 0, 1) := by decide +kernel
theorem d_Mod_expression_16 : decode b_Mod_expression 16 = .ok (.iload_n 1, 1) := by decide +kernel
theorem d_Mod_expression_17 : decode b_Mod_expression 17 = .ok (.invokevirtual 91, 3) := by decide +kernel
theorem d_Mod_expression_20 : decode b_Mod_expression 20 = .ok (.bipush 45, 2) := by decide +kernel
theorem d_Mod_expression_22 : decode b_Mod_expression 22 = .ok (.if_icmp .ne 7, 3) := by decide +kernel
theorem d_Mod_expression_25 : decode b_Mod_expression 25 = .ok (.iconst 1, 1) := by decide +kernel
theorem d_Mod_expression_26 : decode b_Mod_expression 26 = .ok (.goto 4, 3) := by decide +kernel
theorem d_Mod_expression_29 : decode b_Mod_expression 29 = .ok (.iconst 0, 1) := by decide +kernel
theorem d_Mod_expression_30 : decode b_Mod_expression 30 = .ok (.istore 4, 2) := by decide +kernel
theorem d_Mod_expression_32 : decode b_Mod_expression 32 = .ok (.iload 4, 2) := by decide +kernel
theorem d_Mod_expression_34 : decode b_Mod_expression 34 = .ok (.ifCond .eq 9, 3) := by decide +kernel
theorem d_Mod_expression_37 : decode b_Mod_expression 37 = .ok (.iload_n 1, 1) := by decide +kernel
theorem d_Mod_expression_38 : decode b_Mod_expression 38 = .ok (.iconst 1, 1) := by decide +kernel
theorem d_Mod_expression_39 : decode b_Mod_expression 39 = .ok (.iadd, 1) := by decide +kernel
theorem d_Mod_expression_40 : decode b_Mod_expression 40 = .ok (.goto 4, 3) := by decide +kernel
theorem d_Mod_expression_43 : decode b_Mod_expression 43 = .ok (.iload_n 1, 1) := by decide +kernel
theorem d_Mod_expression_44 : decode b_Mod_expression 44 = .ok (.istore 5, 2) := by decide +kernel
theorem d_Mod_expression_46 : decode b_Mod_expression 46 = .ok (.iconst 1, 1) := by decide +kernel
theorem d_Mod_expression_47 : decode b_Mod_expression 47 = .ok (.istore 6, 2) := by decide +kernel
theorem d_Mod_expression_49 : decode b_Mod_expression 49 = .ok (.aload_n 0, 1) := by decide +kernel
theorem d_Mod_expression_50 : decode b_Mod_expression 50 = .ok (.iload 5, 2) := by decide +kernel
theorem d_Mod_expression_52 : decode b_Mod_expression 52 = .ok (.lload_n 2, 1) := by decide +kernel
theorem d_Mod_expression_53 : decode b_Mod_expression 53 = .ok (.invokevirtual 174, 3) := by decide +kernel
theorem d_Mod_expression_56 : decode b_Mod_expression 56 = .ok (.istore 5, 2) := by decide +kernel
theorem d_Mod_expression_58 : decode b_Mod_expression 58 = .ok (.iload 5, 2) := by decide +kernel
theorem d_Mod_expression_60 : decode b_Mod_expression 60 = .ok (.iconst (-1), 1) := by decide +kernel
theorem d_Mod_expression_61 : decode b_Mod_expression 61 = .ok (.if_icmp .ne 5, 3) := by decide +kernel
theorem d_Mod_expression_64 : decode b_Mod_expression 64 = .ok (.iconst (-1), 1) := by decide +kernel
theorem d_Mod_expression_65 : decode b_Mod_expression 65 = .ok (.ireturn, 1) := by decide +kernel
theorem d_Mod_expression_66 : decode b_Mod_expression 66 = .ok (.iload 6, 2) := by decide +kernel
theorem d_Mod_expression_68 : decode b_Mod_expression 68 = .ok (.ifCond .eq 19, 3) := by decide +kernel
theorem d_Mod_expression_71 : decode b_Mod_expression 71 = .ok (.iload 4, 2) := by decide +kernel
theorem d_Mod_expression_73 : decode b_Mod_expression 73 = .ok (.ifCond .ne 14, 3) := by decide +kernel
theorem d_Mod_expression_76 : decode b_Mod_expression 76 = .ok (.aload_n 0, 1) := by decide +kernel
theorem d_Mod_expression_77 : decode b_Mod_expression 77 = .ok (.aload_n 0, 1) := by decide +kernel
theorem d_Mod_expression_78 : decode b_Mod_expression 78 = .ok (.getfield 143, 3) := by decide +kernel
theorem d_Mod_expression_81 : decode b_Mod_expression 81 = .ok (.putfield 171, 3) := by decide +kernel
theorem d_Mod_expression_84 : decode b_Mod_expression 84 = .ok (.goto 26, 3) := by decide +kernel
theorem d_Mod_expression_87 : decode b_Mod_expression 87 = .ok (.aload_n 0, 1) := by decide +kernel
theorem d_Mod_expression_88 : decode b_Mod_expression 88 = .ok (.aload_n 0, 1) := by decide +kernel
theorem d_Mod_expression_89 : decode b_Mod_expression 89 = .ok (.getfield 162, 3) := by decide +kernel
theorem d_Mod_expression_92 : decode b_Mod_expression 92 = .ok (.ifCond .eq 14, 3) := by decide +kernel
theorem d_Mod_expression_95 : decode b_Mod_expression 95 = .ok (.aload_n 0, 1) := by decide +kernel
theorem d_Mod_expression_96 : decode b_Mod_expression 96 = .ok (.getfield 143, 3) := by decide +kernel
theorem d_Mod_expression_99 : decode b_Mod_expression 99 = .ok (.ifCond .ne 7, 3) := by decide +kernel
theorem d_Mod_expression_102 : decode b_Mod_expression 102 = .ok (.iconst 1, 1) := by decide +kernel
theorem d_Mod_expression_103 : decode b_Mod_expression 103 = .ok (.goto 4, 3) := by decide +kernel
theorem d_Mod_expression_106 : decode b_Mod_expression 106 = .ok (.iconst 0, 1) := by decide +kernel
theorem d_Mod_expression_107 : decode b_Mod_expression 107 = .ok (.putfield 162, 3) := by decide +kernel
theorem d_Mod_expression_110 : decode b_Mod_expression 110 = .ok (.aload_n 0, 1) := by decide +kernel
theorem d_Mod_expression_111 : decode b_Mod_expression 111 = .ok (.iload 4, 2) := by decide +kernel
theorem d_Mod_expression_113 : decode b_Mod_expression 113 = .ok (.ifCond .eq 15, 3) := by decide +kernel
theorem d_Mod_expression_116 : decode b_Mod_expression 116 = .ok (.aload_n 0, 1) := by decide +kernel
theorem d_Mod_expression_117 : decode b_Mod_expression 117 = .ok (.getfield 168, 3) := by decide +kernel
theorem d_Mod_expression_120 : decode b_Mod_expression 120 = .ok (.aload_n 0, 1) := by decide +kernel
theorem d_Mod_expression_121 : decode b_Mod_expression 121 = .ok (.getfield 136, 3) := by decide +kernel
theorem d_Mod_expression_124 : decode b_Mod_expression 124 = .ok (.lsub, 1) := by decide +kernel
theorem d_Mod_expression_125 : decode b_Mod_expression 125 = .ok (.goto 12, 3) := by decide +kernel
theorem d_Mod_expression_128 : decode b_Mod_expression 128 = .ok (.aload_n 0, 1) := by decide +kernel
theorem d_Mod_expression_129 : decode b_Mod_expression 129 = .ok (.getfield 168, 3) := by decide +kernel
theorem d_Mod_expression_132 : decode b_Mod_expression 132 = .ok (.aload_n 0, 1) := by decide +kernel
theorem d_Mod_expression_133 : decode b_Mod_expression 133 = .ok (.getfield 136, 3) := by decide +kernel
theorem d_Mod_expression_136 : decode b_Mod_expression 136 = .ok (.ladd, 1) := by decide +kernel
theorem d_Mod_expression_137 : decode b_Mod_expression 137 = .ok (.putfield 168, 3) := by decide +kernel
theorem d_Mod_expression_140 : decode b_Mod_expression 140 = .ok (.iconst 0, 1) := by decide +kernel
theorem d_Mod_expression_141 : decode b_Mod_expression 141 = .ok (.istore 6, 2) := by decide +kernel
theorem d_Mod_expression_143 : decode b_Mod_expression 143 = .ok (.aload_n 0, 1) := by decide +kernel
theorem d_Mod_expression_144 : decode b_Mod_expression 144 = .ok (.iload 5, 2) := by decide +kernel
theorem d_Mod_expression_146 : decode b_Mod_expression 146 = .ok (.invokevirtual 91, 3) := by decide +kernel
theorem d_Mod_expression_149 : decode b_Mod_expression 149 = .ok (.bipush 43, 2) := by decide +kernel
theorem d_Mod_expression_151 : decode b_Mod_expression 151 = .ok (.if_icmp .eq 17, 3) := by decide +kernel
theorem d_Mod_expression_154 : decode b_Mod_expression 154 = .ok (.aload_n 0, 1) := by decide +kernel
theorem d_Mod_expression_155 : decode b_Mod_expression 155 = .ok (.iload 5, 2) := by decide +kernel
theorem d_Mod_expression_157 : decode b_Mod_expression 157 = .ok (.invokevirtual 91, 3) := by decide +kernel
theorem d_Mod_expression_160 : decode b_Mod_expression 160 = .ok (.bipush 45, 2) := by decide +kernel
theorem d_Mod_expression_162 : decode b_Mod_expression 162 = .ok (.if_icmp .eq 6, 3) := by decide +kernel
theorem d_Mod_expression_165 : decode b_Mod_expression 165 = .ok (.goto 27, 3) := by decide +kernel
theorem d_Mod_expression_168 : decode b_Mod_expression 168 = .ok (.aload_n 0, 1) := by decide +kernel
theorem d_Mod_expression_169 : decode b_Mod_expression 169 = .ok (.iload 5, 2) := by decide +kernel
theorem d_Mod_expression_171 : decode b_Mod_expression 171 = .ok (.invokevirtual 91, 3) := by decide +kernel
theorem d_Mod_expression_174 : decode b_Mod_expression 174 = .ok (.bipush 45, 2) := by decide +kernel
theorem d_Mod_expression_176 : decode b_Mod_expression 176 = .ok (.if_icmp .ne 7, 3) := by decide +kernel
theorem d_Mod_expression_179 : decode b_Mod_expression 179 = .ok (.iconst 1, 1) := by decide +kernel
theorem d_Mod_expression_180 : decode b_Mod_expression 180 = .ok (.goto 4, 3) := by decide +kernel
theorem d_Mod_expression_183 : decode b_Mod_expression 183 = .ok (.iconst 0, 1) := by decide +kernel
theorem d_Mod_expression_184 : decode b_Mod_expression 184 = .ok (.istore 4, 2) := by decide +kernel
theorem d_Mod_expression_186 : decode b_Mod_expression 186 = .ok (.iinc 5 1, 3) := by decide +kernel
theorem d_Mod_expression_189 : decode b_Mod_expression 189 = .ok (.goto (-140), 3) := by decide +kernel
theorem d_Mod_expression_192 : decode b_Mod_expression 192 = .ok (.aload_n 0, 1) := by decide +kernel
theorem d_Mod_expression_193 : decode b_Mod_expression 193 = .ok (.aload_n 0, 1) := by decide +kernel
theorem d_Mod_expression_194 : decode b_Mod_expression 194 = .ok (.getfield 162, 3) := by decide +kernel
theorem d_Mod_expression_197 : decode b_Mod_expression 197 = .ok (.ifCond .eq 34, 3) := by decide +kernel
theorem d_Mod_expression_200 : decode b_Mod_expression 200 = .ok (.aload_n 0, 1) := by decide +kernel
theorem d_Mod_expression_201 : decode b_Mod_expression 201 = .ok (.getfield 171, 3) := by decide +kernel
theorem d_Mod_expression_204 : decode b_Mod_expression 204 = .ok (.ifCond .eq 23, 3) := by decide +kernel
theorem d_Mod_expression_207 : decode b_Mod_expression 207 = .ok (.aload_n 0, 1) := by decide +kernel
theorem d_Mod_expression_208 : decode b_Mod_expression 208 = .ok (.getfield 168, 3) := by decide +kernel
theorem d_Mod_expression_211 : decode b_Mod_expression 211 = .ok (.lconst 0, 1) := by decide +kernel
theorem d_Mod_expression_212 : decode b_Mod_expression 212 = .ok (.lcmp, 1) := by decide +kernel
theorem d_Mod_expression_213 : decode b_Mod_expression 213 = .ok (.ifCond .lt 18, 3) := by decide +kernel
theorem d_Mod_expression_216 : decode b_Mod_expression 216 = .ok (.aload_n 0, 1) := by decide +kernel
theorem d_Mod_expression_217 : decode b_Mod_expression 217 = .ok (.getfield 168, 3) := by decide +kernel
theorem d_Mod_expression_220 : decode b_Mod_expression 220 = .ok (.ldc2_w 153, 3) := by decide +kernel
theorem d_Mod_expression_223 : decode b_Mod_expression 223 = .ok (.lcmp, 1) := by decide +kernel
theorem d_Mod_expression_224 : decode b_Mod_expression 224 = .ok (.ifCond .gt 7, 3) := by decide +kernel
theorem d_Mod_expression_227 : decode b_Mod_expression 227 = .ok (.iconst 1, 1) := by decide +kernel
theorem d_Mod_expression_228 : decode b_Mod_expression 228 = .ok (.goto 4, 3) := by decide +kernel
theorem d_Mod_expression_231 : decode b_Mod_expression 231 = .ok (.iconst 0, 1) := by decide +kernel
theorem d_Mod_expression_232 : decode b_Mod_expression 232 = .ok (.putfield 162, 3) := by decide +kernel
theorem d_Mod_expression_235 : decode b_Mod_expression 235 = .ok (.iload 5, 2) := by decide +kernel
theorem d_Mod_expression_237 : decode b_Mod_expression 237 = .ok (.ireturn, 1) := by decide +kernel
