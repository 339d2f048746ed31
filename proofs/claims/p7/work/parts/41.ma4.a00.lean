abbrev b_Mod_count : ByteArray := prog_14_method_23_code
abbrev b_Mod_operand : ByteArray := prog_14_method_24_code
abbrev b_Mod_up : ByteArray := prog_14_method_26_code
abbrev y_Mod_count : MethodName := ⟨"LittleMixModel", "count", "()I"⟩
abbrev y_Mod_operand : MethodName := ⟨"LittleMixModel", "operand", "(IJ)V"⟩
abbrev y_Mod_up : MethodName := ⟨"LittleMixModel", "up", "(II)I"⟩
theorem p_Mod_expression : y_Mod_expression.cls ≠ "java/lang/invoke/MethodHandle" ∧ y_Mod_expression.cls ≠ "java/lang/invoke/VarHandle" ∧ (parseMethodDescriptor y_Mod_expression.desc).map (fun d => d.parameters.length) = some 2 := by decide +kernel
theorem k_1013 : (Jvm.Cond.fieldLink "LittleMixModel" (228 : Nat) "LittleMixModel" "operands" "I") ∈ mx_T := List.mem_filter.mpr ⟨List.mem_append_right _ ((List.mem_append_right _ (List.mem_append_right _ (List.mem_append_right _ (List.mem_append_right _ (List.mem_append_left _ (List.mem_of_getElem? (l := tables_1_5) (i := 53) (by decide +kernel)))))))), rfl⟩
theorem k_1178 : (Jvm.Cond.methodLink "LittleMixModel" (231 : Nat) ({ cls := "LittleMixModel", name := "expression", desc := "(IJ)I" } : Jvm.MethodName)) ∈ mx_T := List.mem_filter.mpr ⟨List.mem_append_right _ ((List.mem_append_right _ (List.mem_append_right _ (List.mem_append_right _ (List.mem_append_right _ (List.mem_append_left _ (List.mem_of_getElem? (l := tables_1_5) (i := 218) (by decide +kernel)))))))), rfl⟩
theorem k_1180 : (Jvm.Cond.instanceMethod ({ cls := "LittleMixModel", name := "expression", desc := "(IJ)I" } : Jvm.MethodName)) ∈ mx_T := List.mem_filter.mpr ⟨List.mem_append_right _ ((List.mem_append_right _ (List.mem_append_right _ (List.mem_append_right _ (List.mem_append_right _ (List.mem_append_left _ (List.mem_of_getElem? (l := tables_1_5) (i := 220) (by decide +kernel)))))))), rfl⟩
theorem k_1181 : (Jvm.Cond.code ({ cls := "LittleMixModel", name := "expression", desc := "(IJ)I" } : Jvm.MethodName) prog_14_method_19_code (7 : Nat) (Option.some Jvm.ClassFile.FieldType.int)) ∈ mx_T := List.mem_filter.mpr ⟨List.mem_append_right _ ((List.mem_append_right _ (List.mem_append_right _ (List.mem_append_right _ (List.mem_append_right _ (List.mem_append_left _ (List.mem_of_getElem? (l := tables_1_5) (i := 221) rfl))))))), rfl⟩
theorem sl_Mod_expression : Cond.selects y_Mod_expression.cls y_Mod_expression y_Mod_expression ∈ mx_T := List.mem_filter.mpr ⟨List.mem_append_left _ (by decide +kernel), by decide +kernel⟩
theorem d_Mod_count_0 : decode b_Mod_count 0 = .ok (.aload_n 0, 1) := by decide +kernel
theorem d_Mod_count_1 : decode b_Mod_count 1 = .ok (.aload_n 0, 1) := by decide +kernel
theorem d_Mod_count_2 : decode b_Mod_count 2 = .ok (.getfield 228, 3) := by decide +kernel
theorem d_Mod_count_5 : decode b_Mod_count 5 = .ok (.invokevirtual 91, 3) := by decide +kernel
theorem d_Mod_count_8 : decode b_Mod_count 8 = .ok (.iconst (-1), 1) := by decide +kernel
theorem d_Mod_count_9 : decode b_Mod_count 9 = .ok (.if_icmp .ne 5, 3) := by decide +kernel
theorem d_Mod_count_12 : decode b_Mod_count 12 = .ok (.iconst 0, 1) := by decide +kernel
theorem d_Mod_count_13 : decode b_Mod_count 13 = .ok (.ireturn, 1) := by decide +kernel
theorem d_Mod_count_14 : decode b_Mod_count 14 = .ok (.aload_n 0, 1) := by decide +kernel
theorem d_Mod_count_15 : decode b_Mod_count 15 = .ok (.getfield 228, 3) := by decide +kernel
theorem d_Mod_count_18 : decode b_Mod_count 18 = .ok (.istore_n 1, 1) := by decide +kernel
theorem d_Mod_count_19 : decode b_Mod_count 19 = .ok (.iconst 0, 1) := by decide +kernel
theorem d_Mod_count_20 : decode b_Mod_count 20 = .ok (.istore_n 2, 1) := by decide +kernel
theorem d_Mod_count_21 : decode b_Mod_count 21 = .ok (.aload_n 0, 1) := by decide +kernel
theorem d_Mod_count_22 : decode b_Mod_count 22 = .ok (.iload_n 1, 1) := by decide +kernel
theorem d_Mod_count_23 : decode b_Mod_count 23 = .ok (.lconst 0, 1) := by decide +kernel
theorem d_Mod_count_24 : decode b_Mod_count 24 = .ok (.invokevirtual 231, 3) := by decide +kernel
theorem d_Mod_count_27 : decode b_Mod_count 27 = .ok (.istore_n 1, 1) := by decide +kernel
theorem d_Mod_count_28 : decode b_Mod_count 28 = .ok (.iload_n 1, 1) := by decide +kernel
theorem d_Mod_count_29 : decode b_Mod_count 29 = .ok (.iconst (-1), 1) := by decide +kernel
theorem d_Mod_count_30 : decode b_Mod_count 30 = .ok (.if_icmp .ne 5, 3) := by decide +kernel
theorem d_Mod_count_33 : decode b_Mod_count 33 = .ok (.iconst (-1), 1) := by decide +kernel
theorem d_Mod_count_34 : decode b_Mod_count 34 = .ok (.ireturn, 1) := by decide +kernel
theorem d_Mod_count_35 : decode b_Mod_count 35 = .ok (.iinc 2 1, 3) := by decide +kernel
theorem d_Mod_count_38 : decode b_Mod_count 38 = .ok (.aload_n 0, 1) := by decide +kernel
theorem d_Mod_count_39 : decode b_Mod_count 39 = .ok (.iload_n 1, 1) := by decide +kernel
theorem d_Mod_count_40 : decode b_Mod_count 40 = .ok (.invokevirtual 91, 3) := by decide +kernel
theorem d_Mod_count_43 : decode b_Mod_count 43 = .ok (.iconst (-1), 1) := by decide +kernel
theorem d_Mod_count_44 : decode b_Mod_count 44 = .ok (.if_icmp .eq 13, 3) := by decide +kernel
theorem d_Mod_count_47 : decode b_Mod_count 47 = .ok (.aload_n 0, 1) := by decide +kernel
theorem d_Mod_count_48 : decode b_Mod_count 48 = .ok (.iload_n 1, 1) := by decide +kernel
theorem d_Mod_count_49 : decode b_Mod_count 49 = .ok (.invokevirtual 91, 3) := by decide +kernel
theorem d_Mod_count_52 : decode b_Mod_count 52 = .ok (.bipush 32, 2) := by decide +kernel
theorem d_Mod_count_54 : decode b_Mod_count 54 = .ok (.if_icmp .ne 5, 3) := by decide +kernel
theorem d_Mod_count_57 : decode b_Mod_count 57 = .ok (.iload_n 2, 1) := by decide +kernel
theorem d_Mod_count_58 : decode b_Mod_count 58 = .ok (.ireturn, 1) := by decide +kernel
theorem d_Mod_count_59 : decode b_Mod_count 59 = .ok (.aload_n 0, 1) := by decide +kernel
theorem d_Mod_count_60 : decode b_Mod_count 60 = .ok (.iload_n 1, 1) := by decide +kernel
theorem d_Mod_count_61 : decode b_Mod_count 61 = .ok (.invokevirtual 91, 3) := by decide +kernel
theorem d_Mod_count_64 : decode b_Mod_count 64 = .ok (.bipush 44, 2) := by decide +kernel
theorem d_Mod_count_66 : decode b_Mod_count 66 = .ok (.if_icmp .eq 5, 3) := by decide +kernel
theorem d_Mod_count_69 : decode b_Mod_count 69 = .ok (.iconst (-1), 1) := by decide +kernel
theorem d_Mod_count_70 : decode b_Mod_count 70 = .ok (.ireturn, 1) := by decide +kernel
theorem d_Mod_count_71 : decode b_Mod_count 71 = .ok (.iinc 1 1, 3) := by decide +kernel
theorem d_Mod_count_74 : decode b_Mod_count 74 = .ok (.goto (-53), 3) := by decide +kernel
theorem d_Mod_operand_0 : decode b_Mod_operand 0 = .ok (.aload_n 0, 1) := by decide +kernel
theorem d_Mod_operand_1 : decode b_Mod_operand 1 = .ok (.getfield 228, 3) := by decide +kernel
theorem d_Mod_operand_4 : decode b_Mod_operand 4 = .ok (.istore 4, 2) := by decide +kernel
theorem d_Mod_operand_6 : decode b_Mod_operand 6 = .ok (.iconst 0, 1) := by decide +kernel
theorem d_Mod_operand_7 : decode b_Mod_operand 7 = .ok (.istore 5, 2) := by decide +kernel
theorem d_Mod_operand_9 : decode b_Mod_operand 9 = .ok (.iload 5, 2) := by decide +kernel
theorem d_Mod_operand_11 : decode b_Mod_operand 11 = .ok (.iload_n 1, 1) := by decide +kernel
theorem d_Mod_operand_12 : decode b_Mod_operand 12 = .ok (.if_icmp .ge 20, 3) := by decide +kernel
theorem d_Mod_operand_15 : decode b_Mod_operand 15 = .ok (.aload_n 0, 1) := by decide +kernel
theorem d_Mod_operand_16 : decode b_Mod_operand 16 = .ok (.iload 4, 2) := by decide +kernel
theorem d_Mod_operand_18 : decode b_Mod_operand 18 = .ok (.lload_n 2, 1) := by decide +kernel
theorem d_Mod_operand_19 : decode b_Mod_operand 19 = .ok (.invokevirtual 231, 3) := by decide +kernel
theorem d_Mod_operand_22 : decode b_Mod_operand 22 = .ok (.iconst 1, 1) := by decide +kernel
theorem d_Mod_operand_23 : decode b_Mod_operand 23 = .ok (.iadd, 1) := by decide +kernel
theorem d_Mod_operand_24 : decode b_Mod_operand 24 = .ok (.istore 4, 2) := by decide +kernel
theorem d_Mod_operand_26 : decode b_Mod_operand 26 = .ok (.iinc 5 1, 3) := by decide +kernel
theorem d_Mod_operand_29 : decode b_Mod_operand 29 = .ok (.goto (-20), 3) := by decide +kernel
theorem d_Mod_operand_32 : decode b_Mod_operand 32 = .ok (.aload_n 0, 1) := by decide +kernel
theorem d_Mod_operand_33 : decode b_Mod_operand 33 = .ok (.iload 4, 2) := by decide +kernel
theorem d_Mod_operand_35 : decode b_Mod_operand 35 = .ok (.lload_n 2, 1) := by decide +kernel
theorem d_Mod_operand_36 : decode b_Mod_operand 36 = .ok (.invokevirtual 231, 3) := by decide +kernel
theorem d_Mod_operand_39 : decode b_Mod_operand 39 = .ok (.pop, 1) := by decide +kernel
theorem d_Mod_operand_40 : decode b_Mod_operand 40 = .ok (.return_, 1) := by decide +kernel
theorem d_Mod_up_0 : decode b_Mod_up 0 = .ok (.iload_n 1, 1) := by decide +kernel
theorem d_Mod_up_1 : decode b_Mod_up 1 = .ok (.iconst 2, 1) := by decide +kernel
theorem d_Mod_up_2 : decode b_Mod_up 2 = .ok (.if_icmp .ge 7, 3) := by decide +kernel
theorem d_Mod_up_5 : decode b_Mod_up 5 = .ok (.iload_n 0, 1) := by decide +kernel
theorem d_Mod_up_6 : decode b_Mod_up 6 = .ok (.goto 12, 3) := by decide +kernel
theorem d_Mod_up_9 : decode b_Mod_up 9 = .ok (.iload_n 0, 1) := by decide +kernel
theorem d_Mod_up_10 : decode b_Mod_up 10 = .ok (.iload_n 1, 1) := by decide +kernel
theorem d_Mod_up_11 : decode b_Mod_up 11 = .ok (.iadd, 1) := by decide +kernel
theorem d_Mod_up_12 : decode b_Mod_up 12 = .ok (.iconst 1, 1) := by decide +kernel
theorem d_Mod_up_13 : decode b_Mod_up 13 = .ok (.isub, 1) := by decide +kernel
theorem d_Mod_up_14 : decode b_Mod_up 14 = .ok (.iload_n 1, 1) := by decide +kernel
theorem d_Mod_up_15 : decode b_Mod_up 15 = .ok (.idiv, 1) := by decide +kernel
theorem d_Mod_up_16 : decode b_Mod_up 16 = .ok (.iload_n 1, 1) := by decide +kernel
theorem d_Mod_up_17 : decode b_Mod_up 17 = .ok (.imul, 1) := by decide +kernel
theorem d_Mod_up_18 : decode b_Mod_up 18 = .ok (.ireturn, 1) := by decide +kernel
