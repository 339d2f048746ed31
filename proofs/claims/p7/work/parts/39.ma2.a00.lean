abbrev b_Mod_decimal : ByteArray := prog_14_method_17_code
abbrev b_Mod_term : ByteArray := prog_14_method_18_code
abbrev y_Mod_decimal : MethodName := ⟨"LittleMixModel", "decimal", "(I)I"⟩
abbrev y_Mod_term : MethodName := ⟨"LittleMixModel", "term", "(IJ)I"⟩
theorem p_Mod_decimal : y_Mod_decimal.cls ≠ "java/lang/invoke/MethodHandle" ∧ y_Mod_decimal.cls ≠ "java/lang/invoke/VarHandle" ∧ (parseMethodDescriptor y_Mod_decimal.desc).map (fun d => d.parameters.length) = some 1 := by decide +kernel
theorem p_Mod_hex : y_Mod_hex.cls ≠ "java/lang/invoke/MethodHandle" ∧ y_Mod_hex.cls ≠ "java/lang/invoke/VarHandle" ∧ (parseMethodDescriptor y_Mod_hex.desc).map (fun d => d.parameters.length) = some 1 := by decide +kernel
theorem p_Mod_labelNamed : y_Mod_labelNamed.cls ≠ "java/lang/invoke/MethodHandle" ∧ y_Mod_labelNamed.cls ≠ "java/lang/invoke/VarHandle" ∧ (parseMethodDescriptor y_Mod_labelNamed.desc).map (fun d => d.parameters.length) = some 2 := by decide +kernel
theorem p_Mod_specialNamed : y_Mod_specialNamed.cls ≠ "java/lang/invoke/MethodHandle" ∧ y_Mod_specialNamed.cls ≠ "java/lang/invoke/VarHandle" ∧ (parseMethodDescriptor y_Mod_specialNamed.desc).map (fun d => d.parameters.length) = some 2 := by decide +kernel
theorem p_Mod_word : y_Mod_word.cls ≠ "java/lang/invoke/MethodHandle" ∧ y_Mod_word.cls ≠ "java/lang/invoke/VarHandle" ∧ (parseMethodDescriptor y_Mod_word.desc).map (fun d => d.parameters.length) = some 1 := by decide +kernel
theorem k_1006 : (Jvm.Cond.fieldLink "LittleMixModel" (162 : Nat) "LittleMixModel" "right" "Z") ∈ mx_T := List.mem_filter.mpr ⟨List.mem_append_right _ ((List.mem_append_right _ (List.mem_append_right _ (List.mem_append_right _ (List.mem_append_right _ (List.mem_append_left _ (List.mem_of_getElem? (l := tables_1_5) (i := 46) (by decide +kernel)))))))), rfl⟩
theorem k_1007 : (Jvm.Cond.fieldLink "LittleMixModel" (136 : Nat) "LittleMixModel" "term" "J") ∈ mx_T := List.mem_filter.mpr ⟨List.mem_append_right _ ((List.mem_append_right _ (List.mem_append_right _ (List.mem_append_right _ (List.mem_append_right _ (List.mem_append_left _ (List.mem_of_getElem? (l := tables_1_5) (i := 47) (by decide +kernel)))))))), rfl⟩
theorem k_1008 : (Jvm.Cond.fieldLink "LittleMixModel" (143 : Nat) "LittleMixModel" "termRegister" "Z") ∈ mx_T := List.mem_filter.mpr ⟨List.mem_append_right _ ((List.mem_append_right _ (List.mem_append_right _ (List.mem_append_right _ (List.mem_append_right _ (List.mem_append_left _ (List.mem_of_getElem? (l := tables_1_5) (i := 48) (by decide +kernel)))))))), rfl⟩
theorem k_1134 : (Jvm.Cond.methodLink "LittleMixModel" (155 : Nat) ({ cls := "LittleMixModel", name := "word", desc := "(I)I" } : Jvm.MethodName)) ∈ mx_T := List.mem_filter.mpr ⟨List.mem_append_right _ ((List.mem_append_right _ (List.mem_append_right _ (List.mem_append_right _ (List.mem_append_right _ (List.mem_append_left _ (List.mem_of_getElem? (l := tables_1_5) (i := 174) (by decide +kernel)))))))), rfl⟩
theorem k_1136 : (Jvm.Cond.instanceMethod ({ cls := "LittleMixModel", name := "word", desc := "(I)I" } : Jvm.MethodName)) ∈ mx_T := List.mem_filter.mpr ⟨List.mem_append_right _ ((List.mem_append_right _ (List.mem_append_right _ (List.mem_append_right _ (List.mem_append_right _ (List.mem_append_left _ (List.mem_of_getElem? (l := tables_1_5) (i := 176) (by decide +kernel)))))))), rfl⟩
theorem k_1137 : (Jvm.Cond.code ({ cls := "LittleMixModel", name := "word", desc := "(I)I" } : Jvm.MethodName) prog_14_method_8_code (3 : Nat) (Option.some Jvm.ClassFile.FieldType.int)) ∈ mx_T := List.mem_filter.mpr ⟨List.mem_append_right _ ((List.mem_append_right _ (List.mem_append_right _ (List.mem_append_right _ (List.mem_append_right _ (List.mem_append_left _ (List.mem_of_getElem? (l := tables_1_5) (i := 177) rfl))))))), rfl⟩
theorem k_1186 : (Jvm.Cond.methodLink "LittleMixModel" (147 : Nat) ({ cls := "LittleMixModel", name := "decimal", desc := "(I)I" } : Jvm.MethodName)) ∈ mx_T := List.mem_filter.mpr ⟨List.mem_append_right _ ((List.mem_append_right _ (List.mem_append_right _ (List.mem_append_right _ (List.mem_append_right _ (List.mem_append_left _ (List.mem_of_getElem? (l := tables_1_5) (i := 226) (by decide +kernel)))))))), rfl⟩
theorem k_1188 : (Jvm.Cond.instanceMethod ({ cls := "LittleMixModel", name := "decimal", desc := "(I)I" } : Jvm.MethodName)) ∈ mx_T := List.mem_filter.mpr ⟨List.mem_append_right _ ((List.mem_append_right _ (List.mem_append_right _ (List.mem_append_right _ (List.mem_append_right _ (List.mem_append_left _ (List.mem_of_getElem? (l := tables_1_5) (i := 228) (by decide +kernel)))))))), rfl⟩
theorem k_1189 : (Jvm.Cond.code ({ cls := "LittleMixModel", name := "decimal", desc := "(I)I" } : Jvm.MethodName) prog_14_method_17_code (3 : Nat) (Option.some Jvm.ClassFile.FieldType.int)) ∈ mx_T := List.mem_filter.mpr ⟨List.mem_append_right _ ((List.mem_append_right _ (List.mem_append_right _ (List.mem_append_right _ (List.mem_append_right _ (List.mem_append_left _ (List.mem_of_getElem? (l := tables_1_5) (i := 229) rfl))))))), rfl⟩
theorem k_1190 : (Jvm.Cond.constantLong "LittleMixModel" (139 : Nat) (10 : Int64)) ∈ mx_T := List.mem_filter.mpr ⟨List.mem_append_right _ ((List.mem_append_right _ (List.mem_append_right _ (List.mem_append_right _ (List.mem_append_right _ (List.mem_append_left _ (List.mem_of_getElem? (l := tables_1_5) (i := 230) (by decide +kernel)))))))), rfl⟩
theorem k_1191 : (Jvm.Cond.constantLong "LittleMixModel" (141 : Nat) (48 : Int64)) ∈ mx_T := List.mem_filter.mpr ⟨List.mem_append_right _ ((List.mem_append_right _ (List.mem_append_right _ (List.mem_append_right _ (List.mem_append_right _ (List.mem_append_left _ (List.mem_of_getElem? (l := tables_1_5) (i := 231) (by decide +kernel)))))))), rfl⟩
theorem k_1192 : (Jvm.Cond.methodLink "LittleMixModel" (150 : Nat) ({ cls := "LittleMixModel", name := "hex", desc := "(I)I" } : Jvm.MethodName)) ∈ mx_T := List.mem_filter.mpr ⟨List.mem_append_right _ ((List.mem_append_right _ (List.mem_append_right _ (List.mem_append_right _ (List.mem_append_right _ (List.mem_append_left _ (List.mem_of_getElem? (l := tables_1_5) (i := 232) (by decide +kernel)))))))), rfl⟩
theorem k_1193 : (Jvm.Cond.static ({ cls := "LittleMixModel", name := "hex", desc := "(I)I" } : Jvm.MethodName)) ∈ mx_T := List.mem_filter.mpr ⟨List.mem_append_right _ ((List.mem_append_right _ (List.mem_append_right _ (List.mem_append_right _ (List.mem_append_right _ (List.mem_append_left _ (List.mem_of_getElem? (l := tables_1_5) (i := 233) (by decide +kernel)))))))), rfl⟩
theorem k_1194 : (Jvm.Cond.code ({ cls := "LittleMixModel", name := "hex", desc := "(I)I" } : Jvm.MethodName) prog_14_method_16_code (1 : Nat) (Option.some Jvm.ClassFile.FieldType.int)) ∈ mx_T := List.mem_filter.mpr ⟨List.mem_append_right _ ((List.mem_append_right _ (List.mem_append_right _ (List.mem_append_right _ (List.mem_append_right _ (List.mem_append_left _ (List.mem_of_getElem? (l := tables_1_5) (i := 234) rfl))))))), rfl⟩
theorem k_1196 : (Jvm.Cond.methodLink "LittleMixModel" (158 : Nat) ({ cls := "LittleMixModel", name := "labelNamed", desc := "(II)I" } : Jvm.MethodName)) ∈ mx_T := List.mem_filter.mpr ⟨List.mem_append_right _ ((List.mem_append_right _ (List.mem_append_right _ (List.mem_append_right _ (List.mem_append_right _ (List.mem_append_left _ (List.mem_of_getElem? (l := tables_1_5) (i := 236) (by decide +kernel)))))))), rfl⟩
theorem k_1198 : (Jvm.Cond.instanceMethod ({ cls := "LittleMixModel", name := "labelNamed", desc := "(II)I" } : Jvm.MethodName)) ∈ mx_T := List.mem_filter.mpr ⟨List.mem_append_right _ ((List.mem_append_right _ (List.mem_append_right _ (List.mem_append_right _ (List.mem_append_right _ (List.mem_append_left _ (List.mem_of_getElem? (l := tables_1_5) (i := 238) (by decide +kernel)))))))), rfl⟩
theorem k_1199 : (Jvm.Cond.code ({ cls := "LittleMixModel", name := "labelNamed", desc := "(II)I" } : Jvm.MethodName) prog_14_method_15_code (6 : Nat) (Option.some Jvm.ClassFile.FieldType.int)) ∈ mx_T := List.mem_filter.mpr ⟨List.mem_append_right _ ((List.mem_append_right _ (List.mem_append_right _ (List.mem_append_right _ (List.mem_append_right _ (List.mem_append_left _ (List.mem_of_getElem? (l := tables_1_5) (i := 239) rfl))))))), rfl⟩
theorem k_1200 : (Jvm.Cond.methodLink "LittleMixModel" (165 : Nat) ({ cls := "LittleMixModel", name := "specialNamed", desc := "(II)I" } : Jvm.MethodName)) ∈ mx_T := List.mem_filter.mpr ⟨List.mem_append_right _ ((List.mem_append_right _ (List.mem_append_right _ (List.mem_append_right _ (List.mem_append_right _ (List.mem_append_right _ (List.mem_of_getElem? (l := tables_1_6) (i := 0) (by decide +kernel)))))))), rfl⟩
theorem k_1202 : (Jvm.Cond.instanceMethod ({ cls := "LittleMixModel", name := "specialNamed", desc := "(II)I" } : Jvm.MethodName)) ∈ mx_T := List.mem_filter.mpr ⟨List.mem_append_right _ ((List.mem_append_right _ (List.mem_append_right _ (List.mem_append_right _ (List.mem_append_right _ (List.mem_append_right _ (List.mem_of_getElem? (l := tables_1_6) (i := 2) (by decide +kernel)))))))), rfl⟩
theorem k_1203 : (Jvm.Cond.code ({ cls := "LittleMixModel", name := "specialNamed", desc := "(II)I" } : Jvm.MethodName) prog_14_method_14_code (4 : Nat) (Option.some Jvm.ClassFile.FieldType.int)) ∈ mx_T := List.mem_filter.mpr ⟨List.mem_append_right _ ((List.mem_append_right _ (List.mem_append_right _ (List.mem_append_right _ (List.mem_append_right _ (List.mem_append_right _ (List.mem_of_getElem? (l := tables_1_6) (i := 3) rfl))))))), rfl⟩
theorem sl_Mod_decimal : Cond.selects y_Mod_decimal.cls y_Mod_decimal y_Mod_decimal ∈ mx_T := List.mem_filter.mpr ⟨List.mem_append_left _ (by decide +kernel), by decide +kernel⟩
theorem sl_Mod_word : Cond.selects y_Mod_word.cls y_Mod_word y_Mod_word ∈ mx_T := List.mem_filter.mpr ⟨List.mem_append_left _ (by decide +kernel), by decide +kernel⟩
theorem sl_Mod_specialNamed : Cond.selects y_Mod_specialNamed.cls y_Mod_specialNamed y_Mod_specialNamed ∈ mx_T := List.mem_filter.mpr ⟨List.mem_append_left _ (by decide +kernel), by decide +kernel⟩
theorem sl_Mod_labelNamed : Cond.selects y_Mod_labelNamed.cls y_Mod_labelNamed y_Mod_labelNamed ∈ mx_T := List.mem_filter.mpr ⟨List.mem_append_left _ (by decide +kernel), by decide +kernel⟩
theorem d_Mod_decimal_0 : decode b_Mod_decimal 0 = .ok (.aload_n 0, 1) := by decide +kernel
theorem d_Mod_decimal_1 : decode b_Mod_decimal 1 = .ok (.lconst 0, 1) := by decide +kernel
theorem d_Mod_decimal_2 : decode b_Mod_decimal 2 = .ok (.putfield 136, 3) := by decide +kernel
theorem d_Mod_decimal_5 : decode b_Mod_decimal 5 = .ok (.iload_n 1, 1) := by decide +kernel
theorem d_Mod_decimal_6 : decode b_Mod_decimal 6 = .ok (.istore_n 2, 1) := by decide +kernel
theorem d_Mod_decimal_7 : decode b_Mod_decimal 7 = .ok (.aload_n 0, 1) := by decide +kernel
theorem d_Mod_decimal_8 : decode b_Mod_decimal 8 = .ok (.iload_n 2, 1) := by decide +kernel
theorem d_Mod_decimal_9 : decode b_Mod_decimal 9 = .ok (.invokevirtual 91, 3) := by decide +kernel
theorem d_Mod_decimal_12 : decode b_Mod_decimal 12 = .ok (.invokestatic 95, 3) := by decide +kernel
theorem d_Mod_decimal_15 : decode b_Mod_decimal 15 = .ok (.ifCond .eq 47, 3) := by decide +kernel
theorem d_Mod_decimal_18 : decode b_Mod_decimal 18 = .ok (.aload_n 0, 1) := by decide +kernel
theorem d_Mod_decimal_19 : decode b_Mod_decimal 19 = .ok (.iload_n 2, 1) := by decide +kernel
theorem d_Mod_decimal_20 : decode b_Mod_decimal 20 = .ok (.iload_n 1, 1) := by decide +kernel
theorem d_Mod_decimal_21 : decode b_Mod_decimal 21 = .ok (.isub, 1) := by decide +kernel
theorem d_Mod_decimal_22 : decode b_Mod_decimal 22 = .ok (.bipush 18, 2) := by decide +kernel
theorem d_Mod_decimal_24 : decode b_Mod_decimal 24 = .ok (.if_icmp .ge 25, 3) := by decide +kernel
theorem d_Mod_decimal_27 : decode b_Mod_decimal 27 = .ok (.ldc2_w 139, 3) := by decide +kernel
theorem d_Mod_decimal_30 : decode b_Mod_decimal 30 = .ok (.aload_n 0, 1) := by decide +kernel
theorem d_Mod_decimal_31 : decode b_Mod_decimal 31 = .ok (.getfield 136, 3) := by decide +kernel
theorem d_Mod_decimal_34 : decode b_Mod_decimal 34 = .ok (.lmul, 1) := by decide +kernel
theorem d_Mod_decimal_35 : decode b_Mod_decimal 35 = .ok (.aload_n 0, 1) := by decide +kernel
theorem d_Mod_decimal_36 : decode b_Mod_decimal 36 = .ok (.iload_n 2, 1) := by decide +kernel
theorem d_Mod_decimal_37 : decode b_Mod_decimal 37 = .ok (.invokevirtual 91, 3) := by decide +kernel
theorem d_Mod_decimal_40 : decode b_Mod_decimal 40 = .ok (.i2l, 1) := by decide +kernel
theorem d_Mod_decimal_41 : decode b_Mod_decimal 41 = .ok (.ladd, 1) := by decide +kernel
theorem d_Mod_decimal_42 : decode b_Mod_decimal 42 = .ok (.ldc2_w 141, 3) := by decide +kernel
theorem d_Mod_decimal_45 : decode b_Mod_decimal 45 = .ok (.lsub, 1) := by decide +kernel
theorem d_Mod_decimal_46 : decode b_Mod_decimal 46 = .ok (.goto 7, 3) := by decide +kernel
theorem d_Mod_decimal_49 : decode b_Mod_decimal 49 = .ok (.aload_n 0, 1) := by decide +kernel
theorem d_Mod_decimal_50 : decode b_Mod_decimal 50 = .ok (.getfield 136, 3) := by decide +kernel
theorem d_Mod_decimal_53 : decode b_Mod_decimal 53 = .ok (.putfield 136, 3) := by decide +kernel
theorem d_Mod_decimal_56 : decode b_Mod_decimal 56 = .ok (.iinc 2 1, 3) := by decide +kernel
theorem d_Mod_decimal_59 : decode b_Mod_decimal 59 = .ok (.goto (-52), 3) := by decide +kernel
theorem d_Mod_decimal_62 : decode b_Mod_decimal 62 = .ok (.iload_n 2, 1) := by decide +kernel
theorem d_Mod_decimal_63 : decode b_Mod_decimal 63 = .ok (.iload_n 1, 1) := by decide +kernel
theorem d_Mod_decimal_64 : decode b_Mod_decimal 64 = .ok (.if_icmp .eq 11, 3) := by decide +kernel
theorem d_Mod_decimal_67 : decode b_Mod_decimal 67 = .ok (.iload_n 2, 1) := by decide +kernel
theorem d_Mod_decimal_68 : decode b_Mod_decimal 68 = .ok (.iload_n 1, 1) := by decide +kernel
theorem d_Mod_decimal_69 : decode b_Mod_decimal 69 = .ok (.isub, 1) := by decide +kernel
theorem d_Mod_decimal_70 : decode b_Mod_decimal 70 = .ok (.bipush 18, 2) := by decide +kernel
theorem d_Mod_decimal_72 : decode b_Mod_decimal 72 = .ok (.if_icmp .le 7, 3) := by decide +kernel
theorem d_Mod_decimal_75 : decode b_Mod_decimal 75 = .ok (.iconst (-1), 1) := by decide +kernel
theorem d_Mod_decimal_76 : decode b_Mod_decimal 76 = .ok (.goto 4, 3) := by decide +kernel
theorem d_Mod_decimal_79 : decode b_Mod_decimal 79 = .ok (.iload_n 2, 1) := by decide +kernel
theorem d_Mod_decimal_80 : decode b_Mod_decimal 80 = .ok (.ireturn, 1) := by decide +kernel
theorem d_Mod_term_0 : decode b_Mod_term 0 = .ok (.aload_n 0, 1) := by decide +kernel
theorem d_Mod_term_1 : decode b_Mod_term 1 = .ok (.lconst 0, 1) := by decide +kernel
theorem d_Mod_term_2 : decode b_Mod_term 2 = .ok (.putfield 136, 3) := by decide +kernel
theorem d_Mod_term_5 : decode b_Mod_term 5 = .ok (.aload_n 0, 1) := by decide +kernel
theorem d_Mod_term_6 : decode b_Mod_term 6 = .ok (.iconst 0, 1) := by decide +kernel
theorem d_Mod_term_7 : decode b_Mod_term 7 = .ok (.putfield 143, 3) := by decide +kernel
theorem d_Mod_term_10 : decode b_Mod_term 10 = .ok (.aload_n 0, 1) := by decide +kernel
theorem d_Mod_term_11 : decode b_Mod_term 11 = .ok (.iload_n 1, 1) := by decide +kernel
theorem d_Mod_term_12 : decode b_Mod_term 12 = .ok (.invokevirtual 91, 3) := by decide +kernel
theorem d_Mod_term_15 : decode b_Mod_term 15 = .ok (.istore 4, 2) := by decide +kernel
theorem d_Mod_term_17 : decode b_Mod_term 17 = .ok (.iload 4, 2) := by decide +kernel
theorem d_Mod_term_19 : decode b_Mod_term 19 = .ok (.invokestatic 95, 3) := by decide +kernel
theorem d_Mod_term_22 : decode b_Mod_term 22 = .ok (.ifCond .eq 9, 3) := by decide +kernel
theorem d_Mod_term_25 : decode b_Mod_term 25 = .ok (.aload_n 0, 1) := by decide +kernel
theorem d_Mod_term_26 : decode b_Mod_term 26 = .ok (.iload_n 1, 1) := by decide +kernel
theorem d_Mod_term_27 : decode b_Mod_term 27 = .ok (.invokevirtual 147, 3) := by decide +kernel
theorem d_Mod_term_30 : decode b_Mod_term 30 = .ok (.ireturn, 1) := by decide +kernel
theorem d_Mod_term_31 : decode b_Mod_term 31 = .ok (.iload 4, 2) := by decide +kernel
theorem d_Mod_term_33 : decode b_Mod_term 33 = .ok (.bipush 35, 2) := by decide +kernel
theorem d_Mod_term_35 : decode b_Mod_term 35 = .ok (.if_icmp .ne 72, 3) := by decide +kernel
theorem d_Mod_term_38 : decode b_Mod_term 38 = .ok (.iload_n 1, 1) := by decide +kernel
theorem d_Mod_term_39 : decode b_Mod_term 39 = .ok (.iconst 1, 1) := by decide +kernel
theorem d_Mod_term_40 : decode b_Mod_term 40 = .ok (.iadd, 1) := by decide +kernel
theorem d_Mod_term_41 : decode b_Mod_term 41 = .ok (.istore 5, 2) := by decide +kernel
theorem d_Mod_term_43 : decode b_Mod_term 43 = .ok (.aload_n 0, 1) := by decide +kernel
theorem d_Mod_term_44 : decode b_Mod_term 44 = .ok (.iload 5, 2) := by decide +kernel
theorem d_Mod_term_46 : decode b_Mod_term 46 = .ok (.invokevirtual 91, 3) := by decide +kernel
theorem d_Mod_term_49 : decode b_Mod_term 49 = .ok (.invokestatic 150, 3) := by decide +kernel
theorem d_Mod_term_52 : decode b_Mod_term 52 = .ok (.iconst (-1), 1) := by decide +kernel
theorem d_Mod_term_53 : decode b_Mod_term 53 = .ok (.if_icmp .eq 30, 3) := by decide +kernel
theorem d_Mod_term_56 : decode b_Mod_term 56 = .ok (.aload_n 0, 1) := by decide +kernel
theorem d_Mod_term_57 : decode b_Mod_term 57 = .ok (.aload_n 0, 1) := by decide +kernel
theorem d_Mod_term_58 : decode b_Mod_term 58 = .ok (.getfield 136, 3) := by decide +kernel
theorem d_Mod_term_61 : decode b_Mod_term 61 = .ok (.iconst 4, 1) := by decide +kernel
theorem d_Mod_term_62 : decode b_Mod_term 62 = .ok (.lshl, 1) := by decide +kernel
theorem d_Mod_term_63 : decode b_Mod_term 63 = .ok (.aload_n 0, 1) := by decide +kernel
theorem d_Mod_term_64 : decode b_Mod_term 64 = .ok (.iload 5, 2) := by decide +kernel
theorem d_Mod_term_66 : decode b_Mod_term 66 = .ok (.invokevirtual 91, 3) := by decide +kernel
theorem d_Mod_term_69 : decode b_Mod_term 69 = .ok (.invokestatic 150, 3) := by decide +kernel
theorem d_Mod_term_72 : decode b_Mod_term 72 = .ok (.i2l, 1) := by decide +kernel
theorem d_Mod_term_73 : decode b_Mod_term 73 = .ok (.lor, 1) := by decide +kernel
theorem d_Mod_term_74 : decode b_Mod_term 74 = .ok (.putfield 136, 3) := by decide +kernel
theorem d_Mod_term_77 : decode b_Mod_term 77 = .ok (.iinc 5 1, 3) := by decide +kernel
theorem d_Mod_term_80 : decode b_Mod_term 80 = .ok (.goto (-37), 3) := by decide +kernel
theorem d_Mod_term_83 : decode b_Mod_term 83 = .ok (.iload 5, 2) := by decide +kernel
theorem d_Mod_term_85 : decode b_Mod_term 85 = .ok (.iload_n 1, 1) := by decide +kernel
theorem d_Mod_term_86 : decode b_Mod_term 86 = .ok (.iconst 1, 1) := by decide +kernel
theorem d_Mod_term_87 : decode b_Mod_term 87 = .ok (.iadd, 1) := by decide +kernel
theorem d_Mod_term_88 : decode b_Mod_term 88 = .ok (.if_icmp .eq 12, 3) := by decide +kernel
theorem d_Mod_term_91 : decode b_Mod_term 91 = .ok (.iload 5, 2) := by decide +kernel
theorem d_Mod_term_93 : decode b_Mod_term 93 = .ok (.iload_n 1, 1) := by decide +kernel
theorem d_Mod_term_94 : decode b_Mod_term 94 = .ok (.bipush 17, 2) := by decide +kernel
theorem d_Mod_term_96 : decode b_Mod_term 96 = .ok (.iadd, 1) := by decide +kernel
theorem d_Mod_term_97 : decode b_Mod_term 97 = .ok (.if_icmp .le 7, 3) := by decide +kernel
theorem d_Mod_term_100 : decode b_Mod_term 100 = .ok (.iconst (-1), 1) := by decide +kernel
theorem d_Mod_term_101 : decode b_Mod_term 101 = .ok (.goto 5, 3) := by decide +kernel
theorem d_Mod_term_104 : decode b_Mod_term 104 = .ok (.iload 5, 2) := by decide +kernel
theorem d_Mod_term_106 : decode b_Mod_term 106 = .ok (.ireturn, 1) := by decide +kernel
theorem d_Mod_term_107 : decode b_Mod_term 107 = .ok (.iload 4, 2) := by decide +kernel
theorem d_Mod_term_109 : decode b_Mod_term 109 = .ok (.bipush 39, 2) := by decide +kernel
theorem d_Mod_term_111 : decode b_Mod_term 111 = .ok (.if_icmp .ne 46, 3) := by decide +kernel
theorem d_Mod_term_114 : decode b_Mod_term 114 = .ok (.aload_n 0, 1) := by decide +kernel
theorem d_Mod_term_115 : decode b_Mod_term 115 = .ok (.aload_n 0, 1) := by decide +kernel
theorem d_Mod_term_116 : decode b_Mod_term 116 = .ok (.iload_n 1, 1) := by decide +kernel
theorem d_Mod_term_117 : decode b_Mod_term 117 = .ok (.iconst 1, 1) := by decide +kernel
theorem d_Mod_term_118 : decode b_Mod_term 118 = .ok (.iadd, 1) := by decide +kernel
theorem d_Mod_term_119 : decode b_Mod_term 119 = .ok (.invokevirtual 91, 3) := by decide +kernel
theorem d_Mod_term_122 : decode b_Mod_term 122 = .ok (.i2l, 1) := by decide +kernel
theorem d_Mod_term_123 : decode b_Mod_term 123 = .ok (.putfield 136, 3) := by decide +kernel
theorem d_Mod_term_126 : decode b_Mod_term 126 = .ok (.aload_n 0, 1) := by decide +kernel
theorem d_Mod_term_127 : decode b_Mod_term 127 = .ok (.iload_n 1, 1) := by decide +kernel
theorem d_Mod_term_128 : decode b_Mod_term 128 = .ok (.iconst 1, 1) := by decide +kernel
theorem d_Mod_term_129 : decode b_Mod_term 129 = .ok (.iadd, 1) := by decide +kernel
theorem d_Mod_term_130 : decode b_Mod_term 130 = .ok (.invokevirtual 91, 3) := by decide +kernel
theorem d_Mod_term_133 : decode b_Mod_term 133 = .ok (.iconst (-1), 1) := by decide +kernel
theorem d_Mod_term_134 : decode b_Mod_term 134 = .ok (.if_icmp .eq 15, 3) := by decide +kernel
theorem d_Mod_term_137 : decode b_Mod_term 137 = .ok (.aload_n 0, 1) := by decide +kernel
theorem d_Mod_term_138 : decode b_Mod_term 138 = .ok (.iload_n 1, 1) := by decide +kernel
theorem d_Mod_term_139 : decode b_Mod_term 139 = .ok (.iconst 2, 1) := by decide +kernel
theorem d_Mod_term_140 : decode b_Mod_term 140 = .ok (.iadd, 1) := by decide +kernel
theorem d_Mod_term_141 : decode b_Mod_term 141 = .ok (.invokevirtual 91, 3) := by decide +kernel
theorem d_Mod_term_144 : decode b_Mod_term 144 = .ok (.bipush 39, 2) := by decide +kernel
theorem d_Mod_term_146 : decode b_Mod_term 146 = .ok (.if_icmp .eq 7, 3) := by decide +kernel
theorem d_Mod_term_149 : decode b_Mod_term 149 = .ok (.iconst (-1), 1) := by decide +kernel
theorem d_Mod_term_150 : decode b_Mod_term 150 = .ok (.goto 6, 3) := by decide +kernel
theorem d_Mod_term_153 : decode b_Mod_term 153 = .ok (.iload_n 1, 1) := by decide +kernel
theorem d_Mod_term_154 : decode b_Mod_term 154 = .ok (.iconst 3, 1) := by decide +kernel
theorem d_Mod_term_155 : decode b_Mod_term 155 = .ok (.iadd, 1) := by decide +kernel
theorem d_Mod_term_156 : decode b_Mod_term 156 = .ok (.ireturn, 1) := by decide +kernel
theorem d_Mod_term_157 : decode b_Mod_term 157 = .ok (.iload 4, 2) := by decide +kernel
theorem d_Mod_term_159 : decode b_Mod_term 159 = .ok (.bipush 64, 2) := by decide +kernel
theorem d_Mod_term_161 : decode b_Mod_term 161 = .ok (.if_icmp .ne 12, 3) := by decide +kernel
theorem d_Mod_term_164 : decode b_Mod_term 164 = .ok (.aload_n 0, 1) := by decide +kernel
theorem d_Mod_term_165 : decode b_Mod_term 165 = .ok (.lload_n 2, 1) := by decide +kernel
theorem d_Mod_term_166 : decode b_Mod_term 166 = .ok (.putfield 136, 3) := by decide +kernel
theorem d_Mod_term_169 : decode b_Mod_term 169 = .ok (.iload_n 1, 1) := by decide +kernel
theorem d_Mod_term_170 : decode b_Mod_term 170 = .ok (.iconst 1, 1) := by decide +kernel
theorem d_Mod_term_171 : decode b_Mod_term 171 = .ok (.iadd, 1) := by decide +kernel
theorem d_Mod_term_172 : decode b_Mod_term 172 = .ok (.ireturn, 1) := by decide +kernel
theorem d_Mod_term_173 : decode b_Mod_term 173 = .ok (.iload 4, 2) := by decide +kernel
theorem d_Mod_term_175 : decode b_Mod_term 175 = .ok (.bipush 36, 2) := by decide +kernel
theorem d_Mod_term_177 : decode b_Mod_term 177 = .ok (.if_icmp .ne 174, 3) := by decide +kernel
theorem d_Mod_term_180 : decode b_Mod_term 180 = .ok (.aload_n 0, 1) := by decide +kernel
theorem d_Mod_term_181 : decode b_Mod_term 181 = .ok (.iconst 1, 1) := by decide +kernel
theorem d_Mod_term_182 : decode b_Mod_term 182 = .ok (.putfield 143, 3) := by decide +kernel
theorem d_Mod_term_185 : decode b_Mod_term 185 = .ok (.aload_n 0, 1) := by decide +kernel
theorem d_Mod_term_186 : decode b_Mod_term 186 = .ok (.iload_n 1, 1) := by decide +kernel
theorem d_Mod_term_187 : decode b_Mod_term 187 = .ok (.iconst 1, 1) := by decide +kernel
theorem d_Mod_term_188 : decode b_Mod_term 188 = .ok (.iadd, 1) := by decide +kernel
theorem d_Mod_term_189 : decode b_Mod_term 189 = .ok (.invokevirtual 91, 3) := by decide +kernel
theorem d_Mod_term_192 : decode b_Mod_term 192 = .ok (.invokestatic 95, 3) := by decide +kernel
theorem d_Mod_term_195 : decode b_Mod_term 195 = .ok (.ifCond .eq 36, 3) := by decide +kernel
theorem d_Mod_term_198 : decode b_Mod_term 198 = .ok (.aload_n 0, 1) := by decide +kernel
theorem d_Mod_term_199 : decode b_Mod_term 199 = .ok (.iload_n 1, 1) := by decide +kernel
theorem d_Mod_term_200 : decode b_Mod_term 200 = .ok (.iconst 1, 1) := by decide +kernel
theorem d_Mod_term_201 : decode b_Mod_term 201 = .ok (.iadd, 1) := by decide +kernel
theorem d_Mod_term_202 : decode b_Mod_term 202 = .ok (.invokevirtual 147, 3) := by decide +kernel
theorem d_Mod_term_205 : decode b_Mod_term 205 = .ok (.istore 5, 2) := by decide +kernel
theorem d_Mod_term_207 : decode b_Mod_term 207 = .ok (.iload 5, 2) := by decide +kernel
theorem d_Mod_term_209 : decode b_Mod_term 209 = .ok (.iconst (-1), 1) := by decide +kernel
theorem d_Mod_term_210 : decode b_Mod_term 210 = .ok (.if_icmp .eq 14, 3) := by decide +kernel
theorem d_Mod_term_213 : decode b_Mod_term 213 = .ok (.aload_n 0, 1) := by decide +kernel
theorem d_Mod_term_214 : decode b_Mod_term 214 = .ok (.getfield 136, 3) := by decide +kernel
theorem d_Mod_term_217 : decode b_Mod_term 217 = .ok (.ldc2_w 153, 3) := by decide +kernel
theorem d_Mod_term_220 : decode b_Mod_term 220 = .ok (.lcmp, 1) := by decide +kernel
theorem d_Mod_term_221 : decode b_Mod_term 221 = .ok (.ifCond .le 7, 3) := by decide +kernel
theorem d_Mod_term_224 : decode b_Mod_term 224 = .ok (.iconst (-1), 1) := by decide +kernel
theorem d_Mod_term_225 : decode b_Mod_term 225 = .ok (.goto 5, 3) := by decide +kernel
theorem d_Mod_term_228 : decode b_Mod_term 228 = .ok (.iload 5, 2) := by decide +kernel
theorem d_Mod_term_230 : decode b_Mod_term 230 = .ok (.ireturn, 1) := by decide +kernel
theorem d_Mod_term_231 : decode b_Mod_term 231 = .ok (.aload_n 0, 1) := by decide +kernel
theorem d_Mod_term_232 : decode b_Mod_term 232 = .ok (.iload_n 1, 1) := by decide +kernel
theorem d_Mod_term_233 : decode b_Mod_term 233 = .ok (.iconst 1, 1) := by decide +kernel
theorem d_Mod_term_234 : decode b_Mod_term 234 = .ok (.iadd, 1) := by decide +kernel
theorem d_Mod_term_235 : decode b_Mod_term 235 = .ok (.invokevirtual 91, 3) := by decide +kernel
theorem d_Mod_term_238 : decode b_Mod_term 238 = .ok (.invokestatic 99, 3) := by decide +kernel
theorem d_Mod_term_241 : decode b_Mod_term 241 = .ok (.ifCond .ne 5, 3) := by decide +kernel
theorem d_Mod_term_244 : decode b_Mod_term 244 = .ok (.iconst (-1), 1) := by decide +kernel
theorem d_Mod_term_245 : decode b_Mod_term 245 = .ok (.ireturn, 1) := by decide +kernel
theorem d_Mod_term_246 : decode b_Mod_term 246 = .ok (.aload_n 0, 1) := by decide +kernel
theorem d_Mod_term_247 : decode b_Mod_term 247 = .ok (.iload_n 1, 1) := by decide +kernel
theorem d_Mod_term_248 : decode b_Mod_term 248 = .ok (.iconst 1, 1) := by decide +kernel
theorem d_Mod_term_249 : decode b_Mod_term 249 = .ok (.iadd, 1) := by decide +kernel
theorem d_Mod_term_250 : decode b_Mod_term 250 = .ok (.invokevirtual 155, 3) := by decide +kernel
theorem d_Mod_term_253 : decode b_Mod_term 253 = .ok (.istore 5, 2) := by decide +kernel
theorem d_Mod_term_255 : decode b_Mod_term 255 = .ok (.aload_n 0, 1) := by decide +kernel
theorem d_Mod_term_256 : decode b_Mod_term 256 = .ok (.iload_n 1, 1) := by decide +kernel
theorem d_Mod_term_257 : decode b_Mod_term 257 = .ok (.iconst 1, 1) := by decide +kernel
theorem d_Mod_term_258 : decode b_Mod_term 258 = .ok (.iadd, 1) := by decide +kernel
theorem d_Mod_term_259 : decode b_Mod_term 259 = .ok (.iload 5, 2) := by decide +kernel
theorem d_Mod_term_261 : decode b_Mod_term 261 = .ok (.invokevirtual 158, 3) := by decide +kernel
theorem d_Mod_term_264 : decode b_Mod_term 264 = .ok (.istore 6, 2) := by decide +kernel
theorem d_Mod_term_266 : decode b_Mod_term 266 = .ok (.iload 6, 2) := by decide +kernel
theorem d_Mod_term_268 : decode b_Mod_term 268 = .ok (.iconst (-1), 1) := by decide +kernel
theorem d_Mod_term_269 : decode b_Mod_term 269 = .ok (.if_icmp .eq 14, 3) := by decide +kernel
theorem d_Mod_term_272 : decode b_Mod_term 272 = .ok (.aload_n 0, 1) := by decide +kernel
theorem d_Mod_term_273 : decode b_Mod_term 273 = .ok (.aload_n 0, 1) := by decide +kernel
theorem d_Mod_term_274 : decode b_Mod_term 274 = .ok (.getfield 26, 3) := by decide +kernel
theorem d_Mod_term_277 : decode b_Mod_term 277 = .ok (.iload 6, 2) := by decide +kernel
theorem d_Mod_term_279 : decode b_Mod_term 279 = .ok (.laload, 1) := by decide +kernel
theorem d_Mod_term_280 : decode b_Mod_term 280 = .ok (.putfield 136, 3) := by decide +kernel
theorem d_Mod_term_283 : decode b_Mod_term 283 = .ok (.aload_n 0, 1) := by decide +kernel
theorem d_Mod_term_284 : decode b_Mod_term 284 = .ok (.aload_n 0, 1) := by decide +kernel
theorem d_Mod_term_285 : decode b_Mod_term 285 = .ok (.getfield 162, 3) := by decide +kernel
theorem d_Mod_term_288 : decode b_Mod_term 288 = .ok (.ifCond .eq 43, 3) := by decide +kernel
theorem d_Mod_term_291 : decode b_Mod_term 291 = .ok (.iload 6, 2) := by decide +kernel
theorem d_Mod_term_293 : decode b_Mod_term 293 = .ok (.iconst (-1), 1) := by decide +kernel
theorem d_Mod_term_294 : decode b_Mod_term 294 = .ok (.if_icmp .eq 37, 3) := by decide +kernel
theorem d_Mod_term_297 : decode b_Mod_term 297 = .ok (.aload_n 0, 1) := by decide +kernel
theorem d_Mod_term_298 : decode b_Mod_term 298 = .ok (.getfield 30, 3) := by decide +kernel
theorem d_Mod_term_301 : decode b_Mod_term 301 = .ok (.iload 6, 2) := by decide +kernel
theorem d_Mod_term_303 : decode b_Mod_term 303 = .ok (.baload, 1) := by decide +kernel
theorem d_Mod_term_304 : decode b_Mod_term 304 = .ok (.ifCond .ne 27, 3) := by decide +kernel
theorem d_Mod_term_307 : decode b_Mod_term 307 = .ok (.aload_n 0, 1) := by decide +kernel
theorem d_Mod_term_308 : decode b_Mod_term 308 = .ok (.getfield 136, 3) := by decide +kernel
theorem d_Mod_term_311 : decode b_Mod_term 311 = .ok (.lconst 0, 1) := by decide +kernel
theorem d_Mod_term_312 : decode b_Mod_term 312 = .ok (.lcmp, 1) := by decide +kernel
theorem d_Mod_term_313 : decode b_Mod_term 313 = .ok (.ifCond .lt 18, 3) := by decide +kernel
theorem d_Mod_term_316 : decode b_Mod_term 316 = .ok (.aload_n 0, 1) := by decide +kernel
theorem d_Mod_term_317 : decode b_Mod_term 317 = .ok (.getfield 136, 3) := by decide +kernel
theorem d_Mod_term_320 : decode b_Mod_term 320 = .ok (.ldc2_w 153, 3) := by decide +kernel
theorem d_Mod_term_323 : decode b_Mod_term 323 = .ok (.lcmp, 1) := by decide +kernel
theorem d_Mod_term_324 : decode b_Mod_term 324 = .ok (.ifCond .gt 7, 3) := by decide +kernel
theorem d_Mod_term_327 : decode b_Mod_term 327 = .ok (.iconst 1, 1) := by decide +kernel
theorem d_Mod_term_328 : decode b_Mod_term 328 = .ok (.goto 4, 3) := by decide +kernel
theorem d_Mod_term_331 : decode b_Mod_term 331 = .ok (.iconst 0, 1) := by decide +kernel
theorem d_Mod_term_332 : decode b_Mod_term 332 = .ok (.putfield 162, 3) := by decide +kernel
theorem d_Mod_term_335 : decode b_Mod_term 335 = .ok (.iload 5, 2) := by decide +kernel
theorem d_Mod_term_337 : decode b_Mod_term 337 = .ok (.iload_n 1, 1) := by decide +kernel
theorem d_Mod_term_338 : decode b_Mod_term 338 = .ok (.bipush 13, 2) := by decide +kernel
theorem d_Mod_term_340 : decode b_Mod_term 340 = .ok (.iadd, 1) := by decide +kernel
theorem d_Mod_term_341 : decode b_Mod_term 341 = .ok (.if_icmp .le 7, 3) := by decide +kernel
theorem d_Mod_term_344 : decode b_Mod_term 344 = .ok (.iconst (-1), 1) := by decide +kernel
theorem d_Mod_term_345 : decode b_Mod_term 345 = .ok (.goto 5, 3) := by decide +kernel
theorem d_Mod_term_348 : decode b_Mod_term 348 = .ok (.iload 5, 2) := by decide +kernel
theorem d_Mod_term_350 : decode b_Mod_term 350 = .ok (.ireturn, 1) := by decide +kernel
theorem d_Mod_term_351 : decode b_Mod_term 351 = .ok (.iload 4, 2) := by decide +kernel
theorem d_Mod_term_353 : decode b_Mod_term 353 = .ok (.invokestatic 99, 3) := by decide +kernel
theorem d_Mod_term_356 : decode b_Mod_term 356 = .ok (.ifCond .ne 5, 3) := by decide +kernel
theorem d_Mod_term_359 : decode b_Mod_term 359 = .ok (.iconst (-1), 1) := by decide +kernel
theorem d_Mod_term_360 : decode b_Mod_term 360 = .ok (.ireturn, 1) := by decide +kernel
theorem d_Mod_term_361 : decode b_Mod_term 361 = .ok (.aload_n 0, 1) := by decide +kernel
theorem d_Mod_term_362 : decode b_Mod_term 362 = .ok (.iload_n 1, 1) := by decide +kernel
theorem d_Mod_term_363 : decode b_Mod_term 363 = .ok (.invokevirtual 155, 3) := by decide +kernel
theorem d_Mod_term_366 : decode b_Mod_term 366 = .ok (.istore 5, 2) := by decide +kernel
theorem d_Mod_term_368 : decode b_Mod_term 368 = .ok (.aload_n 0, 1) := by decide +kernel
theorem d_Mod_term_369 : decode b_Mod_term 369 = .ok (.iload_n 1, 1) := by decide +kernel
theorem d_Mod_term_370 : decode b_Mod_term 370 = .ok (.iload 5, 2) := by decide +kernel
theorem d_Mod_term_372 : decode b_Mod_term 372 = .ok (.invokevirtual 165, 3) := by decide +kernel
theorem d_Mod_term_375 : decode b_Mod_term 375 = .ok (.istore 6, 2) := by decide +kernel
theorem d_Mod_term_377 : decode b_Mod_term 377 = .ok (.aload_n 0, 1) := by decide +kernel
theorem d_Mod_term_378 : decode b_Mod_term 378 = .ok (.iload_n 1, 1) := by decide +kernel
theorem d_Mod_term_379 : decode b_Mod_term 379 = .ok (.iload 5, 2) := by decide +kernel
theorem d_Mod_term_381 : decode b_Mod_term 381 = .ok (.invokevirtual 158, 3) := by decide +kernel
theorem d_Mod_term_384 : decode b_Mod_term 384 = .ok (.istore 7, 2) := by decide +kernel
theorem d_Mod_term_386 : decode b_Mod_term 386 = .ok (.iload 6, 2) := by decide +kernel
theorem d_Mod_term_388 : decode b_Mod_term 388 = .ok (.iconst (-1), 1) := by decide +kernel
theorem d_Mod_term_389 : decode b_Mod_term 389 = .ok (.if_icmp .eq 13, 3) := by decide +kernel
theorem d_Mod_term_392 : decode b_Mod_term 392 = .ok (.aload_n 0, 1) := by decide +kernel
theorem d_Mod_term_393 : decode b_Mod_term 393 = .ok (.iload 6, 2) := by decide +kernel
theorem d_Mod_term_395 : decode b_Mod_term 395 = .ok (.i2l, 1) := by decide +kernel
theorem d_Mod_term_396 : decode b_Mod_term 396 = .ok (.putfield 136, 3) := by decide +kernel
