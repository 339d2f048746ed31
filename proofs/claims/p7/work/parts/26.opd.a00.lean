abbrev b_Opd_clear : ByteArray := prog_8_method_2_code
abbrev b_Opd_encode : ByteArray := prog_8_method_4_code
abbrev b_Opd_encodeBytes : ByteArray := prog_8_method_6_code
abbrev b_Opd_encodeNegation : ByteArray := prog_8_method_5_code
abbrev b_Opd_isNumber : ByteArray := prog_8_method_7_code
abbrev b_Opd_isSpecial : ByteArray := prog_8_method_8_code
abbrev b_Opd_make : ByteArray := prog_8_method_11_code
abbrev b_Opd_withLast : ByteArray := prog_8_method_9_code
abbrev b_Opd_withPlace : ByteArray := prog_8_method_10_code
abbrev y_Opd_clear : MethodName := ⟨"LittleMix$Operands", "clear", "()V"⟩
abbrev y_Opd_encode : MethodName := ⟨"LittleMix$Operands", "encode", "(IJ)Z"⟩
abbrev y_Opd_encodeBytes : MethodName := ⟨"LittleMix$Operands", "encodeBytes", "(I)Z"⟩
abbrev y_Opd_encodeNegation : MethodName := ⟨"LittleMix$Operands", "encodeNegation", "(I)Z"⟩
abbrev y_Opd_isNumber : MethodName := ⟨"LittleMix$Operands", "isNumber", "(II)Z"⟩
abbrev y_Opd_isSpecial : MethodName := ⟨"LittleMix$Operands", "isSpecial", "(I)Z"⟩
abbrev y_Opd_make : MethodName := ⟨"LittleMix$Operands", "make", "(IJJ)Z"⟩
abbrev y_Opd_withLast : MethodName := ⟨"LittleMix$Operands", "withLast", "(IIJJ)Z"⟩
abbrev y_Opd_withPlace : MethodName := ⟨"LittleMix$Operands", "withPlace", "(IIJI)Z"⟩
theorem p_Opd_encodeBytes : y_Opd_encodeBytes.cls ≠ "java/lang/invoke/MethodHandle" ∧ y_Opd_encodeBytes.cls ≠ "java/lang/invoke/VarHandle" ∧ (parseMethodDescriptor y_Opd_encodeBytes.desc).map (fun d => d.parameters.length) = some 1 := by decide +kernel
theorem p_Opd_encodeNegation : y_Opd_encodeNegation.cls ≠ "java/lang/invoke/MethodHandle" ∧ y_Opd_encodeNegation.cls ≠ "java/lang/invoke/VarHandle" ∧ (parseMethodDescriptor y_Opd_encodeNegation.desc).map (fun d => d.parameters.length) = some 1 := by decide +kernel
theorem p_Opd_isNumber : y_Opd_isNumber.cls ≠ "java/lang/invoke/MethodHandle" ∧ y_Opd_isNumber.cls ≠ "java/lang/invoke/VarHandle" ∧ (parseMethodDescriptor y_Opd_isNumber.desc).map (fun d => d.parameters.length) = some 2 := by decide +kernel
theorem p_Opd_isSpecial : y_Opd_isSpecial.cls ≠ "java/lang/invoke/MethodHandle" ∧ y_Opd_isSpecial.cls ≠ "java/lang/invoke/VarHandle" ∧ (parseMethodDescriptor y_Opd_isSpecial.desc).map (fun d => d.parameters.length) = some 1 := by decide +kernel
theorem p_Opd_make : y_Opd_make.cls ≠ "java/lang/invoke/MethodHandle" ∧ y_Opd_make.cls ≠ "java/lang/invoke/VarHandle" ∧ (parseMethodDescriptor y_Opd_make.desc).map (fun d => d.parameters.length) = some 3 := by decide +kernel
theorem p_Opd_withLast : y_Opd_withLast.cls ≠ "java/lang/invoke/MethodHandle" ∧ y_Opd_withLast.cls ≠ "java/lang/invoke/VarHandle" ∧ (parseMethodDescriptor y_Opd_withLast.desc).map (fun d => d.parameters.length) = some 4 := by decide +kernel
theorem p_Opd_withPlace : y_Opd_withPlace.cls ≠ "java/lang/invoke/MethodHandle" ∧ y_Opd_withPlace.cls ≠ "java/lang/invoke/VarHandle" ∧ (parseMethodDescriptor y_Opd_withPlace.desc).map (fun d => d.parameters.length) = some 4 := by decide +kernel
theorem p_Opn_kindOf : y_Opn_kindOf.cls ≠ "java/lang/invoke/MethodHandle" ∧ y_Opn_kindOf.cls ≠ "java/lang/invoke/VarHandle" ∧ (parseMethodDescriptor y_Opn_kindOf.desc).map (fun d => d.parameters.length) = some 1 := by decide +kernel
theorem k_84 : (Jvm.Cond.fieldLink "LittleMix$Operands" (21 : Nat) "LittleMix$Operands" "right" "Z") ∈ mx_T := List.mem_filter.mpr ⟨List.mem_append_right _ ((List.mem_append_left _ (List.mem_of_getElem? (l := tables_1_1) (i := 84) (by decide +kernel)))), rfl⟩
theorem k_86 : (Jvm.Cond.fieldLink "LittleMix$Operands" (25 : Nat) "LittleMix$Operands" "anyRegister" "Z") ∈ mx_T := List.mem_filter.mpr ⟨List.mem_append_right _ ((List.mem_append_left _ (List.mem_of_getElem? (l := tables_1_1) (i := 86) (by decide +kernel)))), rfl⟩
theorem k_88 : (Jvm.Cond.fieldLink "LittleMix$Operands" (17 : Nat) "LittleMix$Operands" "count" "I") ∈ mx_T := List.mem_filter.mpr ⟨List.mem_append_right _ ((List.mem_append_left _ (List.mem_of_getElem? (l := tables_1_1) (i := 88) (by decide +kernel)))), rfl⟩
theorem k_91 : (Jvm.Cond.fieldLink "LittleMix$Operands" (81 : Nat) "LittleMix$Operands" "word" "I") ∈ mx_T := List.mem_filter.mpr ⟨List.mem_append_right _ ((List.mem_append_left _ (List.mem_of_getElem? (l := tables_1_1) (i := 91) (by decide +kernel)))), rfl⟩
theorem k_643 : (Jvm.Cond.methodLink "LittleMix$Operands" (38 : Nat) ({ cls := "LittleMix$Operations", name := "kindOf", desc := "(I)I" } : Jvm.MethodName)) ∈ mx_T := List.mem_filter.mpr ⟨List.mem_append_right _ ((List.mem_append_right _ (List.mem_append_right _ (List.mem_append_left _ (List.mem_of_getElem? (l := tables_1_3) (i := 163) (by decide +kernel)))))), rfl⟩
theorem k_644 : (Jvm.Cond.static ({ cls := "LittleMix$Operations", name := "kindOf", desc := "(I)I" } : Jvm.MethodName)) ∈ mx_T := List.mem_filter.mpr ⟨List.mem_append_right _ ((List.mem_append_right _ (List.mem_append_right _ (List.mem_append_left _ (List.mem_of_getElem? (l := tables_1_3) (i := 164) (by decide +kernel)))))), rfl⟩
theorem k_645 : (Jvm.Cond.code ({ cls := "LittleMix$Operations", name := "kindOf", desc := "(I)I" } : Jvm.MethodName) prog_9_method_6_code (1 : Nat) (Option.some Jvm.ClassFile.FieldType.int)) ∈ mx_T := List.mem_filter.mpr ⟨List.mem_append_right _ ((List.mem_append_right _ (List.mem_append_right _ (List.mem_append_left _ (List.mem_of_getElem? (l := tables_1_3) (i := 165) rfl))))), rfl⟩
theorem k_646 : (Jvm.Cond.methodLink "LittleMix$Operands" (44 : Nat) ({ cls := "LittleMix$Operands", name := "withLast", desc := "(IIJJ)Z" } : Jvm.MethodName)) ∈ mx_T := List.mem_filter.mpr ⟨List.mem_append_right _ ((List.mem_append_right _ (List.mem_append_right _ (List.mem_append_left _ (List.mem_of_getElem? (l := tables_1_3) (i := 166) (by decide +kernel)))))), rfl⟩
theorem k_648 : (Jvm.Cond.instanceMethod ({ cls := "LittleMix$Operands", name := "withLast", desc := "(IIJJ)Z" } : Jvm.MethodName)) ∈ mx_T := List.mem_filter.mpr ⟨List.mem_append_right _ ((List.mem_append_right _ (List.mem_append_right _ (List.mem_append_left _ (List.mem_of_getElem? (l := tables_1_3) (i := 168) (by decide +kernel)))))), rfl⟩
theorem k_649 : (Jvm.Cond.code ({ cls := "LittleMix$Operands", name := "withLast", desc := "(IIJJ)Z" } : Jvm.MethodName) prog_8_method_9_code (7 : Nat) (Option.some Jvm.ClassFile.FieldType.boolean)) ∈ mx_T := List.mem_filter.mpr ⟨List.mem_append_right _ ((List.mem_append_right _ (List.mem_append_right _ (List.mem_append_left _ (List.mem_of_getElem? (l := tables_1_3) (i := 169) rfl))))), rfl⟩
theorem k_650 : (Jvm.Cond.methodLink "LittleMix$Operands" (63 : Nat) ({ cls := "LittleMix$Operands", name := "make", desc := "(IJJ)Z" } : Jvm.MethodName)) ∈ mx_T := List.mem_filter.mpr ⟨List.mem_append_right _ ((List.mem_append_right _ (List.mem_append_right _ (List.mem_append_left _ (List.mem_of_getElem? (l := tables_1_3) (i := 170) (by decide +kernel)))))), rfl⟩
theorem k_652 : (Jvm.Cond.instanceMethod ({ cls := "LittleMix$Operands", name := "make", desc := "(IJJ)Z" } : Jvm.MethodName)) ∈ mx_T := List.mem_filter.mpr ⟨List.mem_append_right _ ((List.mem_append_right _ (List.mem_append_right _ (List.mem_append_left _ (List.mem_of_getElem? (l := tables_1_3) (i := 172) (by decide +kernel)))))), rfl⟩
theorem k_653 : (Jvm.Cond.code ({ cls := "LittleMix$Operands", name := "make", desc := "(IJJ)Z" } : Jvm.MethodName) prog_8_method_11_code (6 : Nat) (Option.some Jvm.ClassFile.FieldType.boolean)) ∈ mx_T := List.mem_filter.mpr ⟨List.mem_append_right _ ((List.mem_append_right _ (List.mem_append_right _ (List.mem_append_left _ (List.mem_of_getElem? (l := tables_1_3) (i := 173) rfl))))), rfl⟩
theorem k_654 : (Jvm.Cond.methodLink "LittleMix$Operands" (52 : Nat) ({ cls := "LittleMix$Operands", name := "isNumber", desc := "(II)Z" } : Jvm.MethodName)) ∈ mx_T := List.mem_filter.mpr ⟨List.mem_append_right _ ((List.mem_append_right _ (List.mem_append_right _ (List.mem_append_left _ (List.mem_of_getElem? (l := tables_1_3) (i := 174) (by decide +kernel)))))), rfl⟩
theorem k_656 : (Jvm.Cond.instanceMethod ({ cls := "LittleMix$Operands", name := "isNumber", desc := "(II)Z" } : Jvm.MethodName)) ∈ mx_T := List.mem_filter.mpr ⟨List.mem_append_right _ ((List.mem_append_right _ (List.mem_append_right _ (List.mem_append_left _ (List.mem_of_getElem? (l := tables_1_3) (i := 176) (by decide +kernel)))))), rfl⟩
theorem k_657 : (Jvm.Cond.code ({ cls := "LittleMix$Operands", name := "isNumber", desc := "(II)Z" } : Jvm.MethodName) prog_8_method_7_code (3 : Nat) (Option.some Jvm.ClassFile.FieldType.boolean)) ∈ mx_T := List.mem_filter.mpr ⟨List.mem_append_right _ ((List.mem_append_right _ (List.mem_append_right _ (List.mem_append_left _ (List.mem_of_getElem? (l := tables_1_3) (i := 177) rfl))))), rfl⟩
theorem k_658 : (Jvm.Cond.methodLink "LittleMix$Operands" (48 : Nat) ({ cls := "LittleMix$Operands", name := "encodeNegation", desc := "(I)Z" } : Jvm.MethodName)) ∈ mx_T := List.mem_filter.mpr ⟨List.mem_append_right _ ((List.mem_append_right _ (List.mem_append_right _ (List.mem_append_left _ (List.mem_of_getElem? (l := tables_1_3) (i := 178) (by decide +kernel)))))), rfl⟩
theorem k_660 : (Jvm.Cond.instanceMethod ({ cls := "LittleMix$Operands", name := "encodeNegation", desc := "(I)Z" } : Jvm.MethodName)) ∈ mx_T := List.mem_filter.mpr ⟨List.mem_append_right _ ((List.mem_append_right _ (List.mem_append_right _ (List.mem_append_left _ (List.mem_of_getElem? (l := tables_1_3) (i := 180) (by decide +kernel)))))), rfl⟩
theorem k_661 : (Jvm.Cond.code ({ cls := "LittleMix$Operands", name := "encodeNegation", desc := "(I)Z" } : Jvm.MethodName) prog_8_method_5_code (2 : Nat) (Option.some Jvm.ClassFile.FieldType.boolean)) ∈ mx_T := List.mem_filter.mpr ⟨List.mem_append_right _ ((List.mem_append_right _ (List.mem_append_right _ (List.mem_append_left _ (List.mem_of_getElem? (l := tables_1_3) (i := 181) rfl))))), rfl⟩
theorem k_662 : (Jvm.Cond.constant "LittleMix$Operands" (56 : Nat) (65536 : Int32)) ∈ mx_T := List.mem_filter.mpr ⟨List.mem_append_right _ ((List.mem_append_right _ (List.mem_append_right _ (List.mem_append_left _ (List.mem_of_getElem? (l := tables_1_3) (i := 182) (by decide +kernel)))))), rfl⟩
theorem k_663 : (Jvm.Cond.methodLink "LittleMix$Operands" (57 : Nat) ({ cls := "LittleMix$Operands", name := "withPlace", desc := "(IIJI)Z" } : Jvm.MethodName)) ∈ mx_T := List.mem_filter.mpr ⟨List.mem_append_right _ ((List.mem_append_right _ (List.mem_append_right _ (List.mem_append_left _ (List.mem_of_getElem? (l := tables_1_3) (i := 183) (by decide +kernel)))))), rfl⟩
theorem k_665 : (Jvm.Cond.instanceMethod ({ cls := "LittleMix$Operands", name := "withPlace", desc := "(IIJI)Z" } : Jvm.MethodName)) ∈ mx_T := List.mem_filter.mpr ⟨List.mem_append_right _ ((List.mem_append_right _ (List.mem_append_right _ (List.mem_append_left _ (List.mem_of_getElem? (l := tables_1_3) (i := 185) (by decide +kernel)))))), rfl⟩
theorem k_666 : (Jvm.Cond.code ({ cls := "LittleMix$Operands", name := "withPlace", desc := "(IIJI)Z" } : Jvm.MethodName) prog_8_method_10_code (9 : Nat) (Option.some Jvm.ClassFile.FieldType.boolean)) ∈ mx_T := List.mem_filter.mpr ⟨List.mem_append_right _ ((List.mem_append_right _ (List.mem_append_right _ (List.mem_append_left _ (List.mem_of_getElem? (l := tables_1_3) (i := 186) rfl))))), rfl⟩
theorem k_667 : (Jvm.Cond.constantLong "LittleMix$Operands" (79 : Nat) (3 : Int64)) ∈ mx_T := List.mem_filter.mpr ⟨List.mem_append_right _ ((List.mem_append_right _ (List.mem_append_right _ (List.mem_append_left _ (List.mem_of_getElem? (l := tables_1_3) (i := 187) (by decide +kernel)))))), rfl⟩
theorem k_668 : (Jvm.Cond.constant "LittleMix$Operands" (61 : Nat) (16777216 : Int32)) ∈ mx_T := List.mem_filter.mpr ⟨List.mem_append_right _ ((List.mem_append_right _ (List.mem_append_right _ (List.mem_append_left _ (List.mem_of_getElem? (l := tables_1_3) (i := 188) (by decide +kernel)))))), rfl⟩
theorem k_669 : (Jvm.Cond.constant "LittleMix$Operands" (62 : Nat) (65535 : Int32)) ∈ mx_T := List.mem_filter.mpr ⟨List.mem_append_right _ ((List.mem_append_right _ (List.mem_append_right _ (List.mem_append_left _ (List.mem_of_getElem? (l := tables_1_3) (i := 189) (by decide +kernel)))))), rfl⟩
theorem k_670 : (Jvm.Cond.methodLink "LittleMix$Operands" (67 : Nat) ({ cls := "LittleMix$Operands", name := "isSpecial", desc := "(I)Z" } : Jvm.MethodName)) ∈ mx_T := List.mem_filter.mpr ⟨List.mem_append_right _ ((List.mem_append_right _ (List.mem_append_right _ (List.mem_append_left _ (List.mem_of_getElem? (l := tables_1_3) (i := 190) (by decide +kernel)))))), rfl⟩
theorem k_672 : (Jvm.Cond.instanceMethod ({ cls := "LittleMix$Operands", name := "isSpecial", desc := "(I)Z" } : Jvm.MethodName)) ∈ mx_T := List.mem_filter.mpr ⟨List.mem_append_right _ ((List.mem_append_right _ (List.mem_append_right _ (List.mem_append_left _ (List.mem_of_getElem? (l := tables_1_3) (i := 192) (by decide +kernel)))))), rfl⟩
theorem k_673 : (Jvm.Cond.code ({ cls := "LittleMix$Operands", name := "isSpecial", desc := "(I)Z" } : Jvm.MethodName) prog_8_method_8_code (2 : Nat) (Option.some Jvm.ClassFile.FieldType.boolean)) ∈ mx_T := List.mem_filter.mpr ⟨List.mem_append_right _ ((List.mem_append_right _ (List.mem_append_right _ (List.mem_append_left _ (List.mem_of_getElem? (l := tables_1_3) (i := 193) rfl))))), rfl⟩
theorem k_674 : (Jvm.Cond.methodLink "LittleMix$Operands" (73 : Nat) ({ cls := "LittleMix$Specials", name := "told", desc := "(J)Z" } : Jvm.MethodName)) ∈ mx_T := List.mem_filter.mpr ⟨List.mem_append_right _ ((List.mem_append_right _ (List.mem_append_right _ (List.mem_append_left _ (List.mem_of_getElem? (l := tables_1_3) (i := 194) (by decide +kernel)))))), rfl⟩
theorem k_677 : (Jvm.Cond.methodLink "LittleMix$Operands" (70 : Nat) ({ cls := "LittleMix$Operands", name := "encodeBytes", desc := "(I)Z" } : Jvm.MethodName)) ∈ mx_T := List.mem_filter.mpr ⟨List.mem_append_right _ ((List.mem_append_right _ (List.mem_append_right _ (List.mem_append_left _ (List.mem_of_getElem? (l := tables_1_3) (i := 197) (by decide +kernel)))))), rfl⟩
theorem k_679 : (Jvm.Cond.instanceMethod ({ cls := "LittleMix$Operands", name := "encodeBytes", desc := "(I)Z" } : Jvm.MethodName)) ∈ mx_T := List.mem_filter.mpr ⟨List.mem_append_right _ ((List.mem_append_right _ (List.mem_append_right _ (List.mem_append_left _ (List.mem_of_getElem? (l := tables_1_3) (i := 199) (by decide +kernel)))))), rfl⟩
theorem k_680 : (Jvm.Cond.code ({ cls := "LittleMix$Operands", name := "encodeBytes", desc := "(I)Z" } : Jvm.MethodName) prog_8_method_6_code (2 : Nat) (Option.some Jvm.ClassFile.FieldType.boolean)) ∈ mx_T := List.mem_filter.mpr ⟨List.mem_append_right _ ((List.mem_append_right _ (List.mem_append_right _ (List.mem_append_left _ (List.mem_of_getElem? (l := tables_1_3) (i := 200) rfl))))), rfl⟩
theorem sl_Opd_isNumber : Cond.selects y_Opd_isNumber.cls y_Opd_isNumber y_Opd_isNumber ∈ mx_T := List.mem_filter.mpr ⟨List.mem_append_left _ (by decide +kernel), by decide +kernel⟩
theorem sl_Opd_make : Cond.selects y_Opd_make.cls y_Opd_make y_Opd_make ∈ mx_T := List.mem_filter.mpr ⟨List.mem_append_left _ (by decide +kernel), by decide +kernel⟩
theorem sl_Opd_withLast : Cond.selects y_Opd_withLast.cls y_Opd_withLast y_Opd_withLast ∈ mx_T := List.mem_filter.mpr ⟨List.mem_append_left _ (by decide +kernel), by decide +kernel⟩
theorem sl_Opd_encodeNegation : Cond.selects y_Opd_encodeNegation.cls y_Opd_encodeNegation y_Opd_encodeNegation ∈ mx_T := List.mem_filter.mpr ⟨List.mem_append_left _ (by decide +kernel), by decide +kernel⟩
theorem sl_Opd_withPlace : Cond.selects y_Opd_withPlace.cls y_Opd_withPlace y_Opd_withPlace ∈ mx_T := List.mem_filter.mpr ⟨List.mem_append_left _ (by decide +kernel), by decide +kernel⟩
theorem sl_Opd_isSpecial : Cond.selects y_Opd_isSpecial.cls y_Opd_isSpecial y_Opd_isSpecial ∈ mx_T := List.mem_filter.mpr ⟨List.mem_append_left _ (by decide +kernel), by decide +kernel⟩
theorem sl_Opd_encodeBytes : Cond.selects y_Opd_encodeBytes.cls y_Opd_encodeBytes y_Opd_encodeBytes ∈ mx_T := List.mem_filter.mpr ⟨List.mem_append_left _ (by decide +kernel), by decide +kernel⟩
theorem d_Opd_clear_0 : decode b_Opd_clear 0 = .ok (.aload_n 0, 1) := by decide +kernel
theorem d_Opd_clear_1 : decode b_Opd_clear 1 = .ok (.iconst 0, 1) := by decide +kernel
theorem d_Opd_clear_2 : decode b_Opd_clear 2 = .ok (.putfield 17, 3) := by decide +kernel
theorem d_Opd_clear_5 : decode b_Opd_clear 5 = .ok (.aload_n 0, 1) := by decide +kernel
theorem d_Opd_clear_6 : decode b_Opd_clear 6 = .ok (.iconst 1, 1) := by decide +kernel
theorem d_Opd_clear_7 : decode b_Opd_clear 7 = .ok (.putfield 21, 3) := by decide +kernel
theorem d_Opd_clear_10 : decode b_Opd_clear 10 = .ok (.aload_n 0, 1) := by decide +kernel
theorem d_Opd_clear_11 : decode b_Opd_clear 11 = .ok (.iconst 0, 1) := by decide +kernel
theorem d_Opd_clear_12 : decode b_Opd_clear 12 = .ok (.putfield 25, 3) := by decide +kernel
theorem d_Opd_clear_15 : decode b_Opd_clear 15 = .ok (.iconst 0, 1) := by decide +kernel
theorem d_Opd_clear_16 : decode b_Opd_clear 16 = .ok (.istore_n 1, 1) := by decide +kernel
theorem d_Opd_clear_17 : decode b_Opd_clear 17 = .ok (.iload_n 1, 1) := by decide +kernel
theorem d_Opd_clear_18 : decode b_Opd_clear 18 = .ok (.iconst 3, 1) := by decide +kernel
theorem d_Opd_clear_19 : decode b_Opd_clear 19 = .ok (.if_icmp .ge 23, 3) := by decide +kernel
theorem d_Opd_clear_22 : decode b_Opd_clear 22 = .ok (.aload_n 0, 1) := by decide +kernel
theorem d_Opd_clear_23 : decode b_Opd_clear 23 = .ok (.getfield 9, 3) := by decide +kernel
theorem d_Opd_clear_26 : decode b_Opd_clear 26 = .ok (.iload_n 1, 1) := by decide +kernel
theorem d_Opd_clear_27 : decode b_Opd_clear 27 = .ok (.lconst 0, 1) := by decide +kernel
theorem d_Opd_clear_28 : decode b_Opd_clear 28 = .ok (.lastore, 1) := by decide +kernel
theorem d_Opd_clear_29 : decode b_Opd_clear 29 = .ok (.aload_n 0, 1) := by decide +kernel
theorem d_Opd_clear_30 : decode b_Opd_clear 30 = .ok (.getfield 13, 3) := by decide +kernel
theorem d_Opd_clear_33 : decode b_Opd_clear 33 = .ok (.iload_n 1, 1) := by decide +kernel
theorem d_Opd_clear_34 : decode b_Opd_clear 34 = .ok (.iconst 0, 1) := by decide +kernel
theorem d_Opd_clear_35 : decode b_Opd_clear 35 = .ok (.bastore, 1) := by decide +kernel
theorem d_Opd_clear_36 : decode b_Opd_clear 36 = .ok (.iinc 1 1, 3) := by decide +kernel
theorem d_Opd_clear_39 : decode b_Opd_clear 39 = .ok (.goto (-22), 3) := by decide +kernel
theorem d_Opd_clear_42 : decode b_Opd_clear 42 = .ok (.return_, 1) := by decide +kernel
theorem d_Opd_encode_0 : decode b_Opd_encode 0 = .ok (.iload_n 1, 1) := by decide +kernel
theorem d_Opd_encode_1 : decode b_Opd_encode 1 = .ok (.invokestatic 38, 3) := by decide +kernel
theorem d_Opd_encode_4 : decode b_Opd_encode 4 = .ok (.tableswitch 424 0 8 #[52, 105, 111, 166, 201, 227, 280, 318, 369], 52) := by decide +kernel
theorem d_Opd_encode_56 : decode b_Opd_encode 56 = .ok (.aload_n 0, 1) := by decide +kernel
theorem d_Opd_encode_57 : decode b_Opd_encode 57 = .ok (.getfield 17, 3) := by decide +kernel
theorem d_Opd_encode_60 : decode b_Opd_encode 60 = .ok (.iconst 3, 1) := by decide +kernel
theorem d_Opd_encode_61 : decode b_Opd_encode 61 = .ok (.if_icmp .ne 46, 3) := by decide +kernel
theorem d_Opd_encode_64 : decode b_Opd_encode 64 = .ok (.aload_n 0, 1) := by decide +kernel
theorem d_Opd_encode_65 : decode b_Opd_encode 65 = .ok (.getfield 13, 3) := by decide +kernel
theorem d_Opd_encode_68 : decode b_Opd_encode 68 = .ok (.iconst 0, 1) := by decide +kernel
theorem d_Opd_encode_69 : decode b_Opd_encode 69 = .ok (.baload, 1) := by decide +kernel
theorem d_Opd_encode_70 : decode b_Opd_encode 70 = .ok (.ifCond .eq 37, 3) := by decide +kernel
theorem d_Opd_encode_73 : decode b_Opd_encode 73 = .ok (.aload_n 0, 1) := by decide +kernel
theorem d_Opd_encode_74 : decode b_Opd_encode 74 = .ok (.getfield 13, 3) := by decide +kernel
theorem d_Opd_encode_77 : decode b_Opd_encode 77 = .ok (.iconst 1, 1) := by decide +kernel
theorem d_Opd_encode_78 : decode b_Opd_encode 78 = .ok (.baload, 1) := by decide +kernel
theorem d_Opd_encode_79 : decode b_Opd_encode 79 = .ok (.ifCond .eq 28, 3) := by decide +kernel
theorem d_Opd_encode_82 : decode b_Opd_encode 82 = .ok (.aload_n 0, 1) := by decide +kernel
theorem d_Opd_encode_83 : decode b_Opd_encode 83 = .ok (.iload_n 1, 1) := by decide +kernel
theorem d_Opd_encode_84 : decode b_Opd_encode 84 = .ok (.iconst 2, 1) := by decide +kernel
theorem d_Opd_encode_85 : decode b_Opd_encode 85 = .ok (.aload_n 0, 1) := by decide +kernel
theorem d_Opd_encode_86 : decode b_Opd_encode 86 = .ok (.getfield 9, 3) := by decide +kernel
theorem d_Opd_encode_89 : decode b_Opd_encode 89 = .ok (.iconst 0, 1) := by decide +kernel
theorem d_Opd_encode_90 : decode b_Opd_encode 90 = .ok (.laload, 1) := by decide +kernel
theorem d_Opd_encode_91 : decode b_Opd_encode 91 = .ok (.aload_n 0, 1) := by decide +kernel
theorem d_Opd_encode_92 : decode b_Opd_encode 92 = .ok (.getfield 9, 3) := by decide +kernel
theorem d_Opd_encode_95 : decode b_Opd_encode 95 = .ok (.iconst 1, 1) := by decide +kernel
theorem d_Opd_encode_96 : decode b_Opd_encode 96 = .ok (.laload, 1) := by decide +kernel
theorem d_Opd_encode_97 : decode b_Opd_encode 97 = .ok (.invokevirtual 44, 3) := by decide +kernel
theorem d_Opd_encode_100 : decode b_Opd_encode 100 = .ok (.ifCond .eq 7, 3) := by decide +kernel
theorem d_Opd_encode_103 : decode b_Opd_encode 103 = .ok (.iconst 1, 1) := by decide +kernel
theorem d_Opd_encode_104 : decode b_Opd_encode 104 = .ok (.goto 4, 3) := by decide +kernel
theorem d_Opd_encode_107 : decode b_Opd_encode 107 = .ok (.iconst 0, 1) := by decide +kernel
theorem d_Opd_encode_108 : decode b_Opd_encode 108 = .ok (.ireturn, 1) := by decide +kernel
theorem d_Opd_encode_109 : decode b_Opd_encode 109 = .ok (.aload_n 0, 1) := by decide +kernel
theorem d_Opd_encode_110 : decode b_Opd_encode 110 = .ok (.iload_n 1, 1) := by decide +kernel
theorem d_Opd_encode_111 : decode b_Opd_encode 111 = .ok (.invokevirtual 48, 3) := by decide +kernel
theorem d_Opd_encode_114 : decode b_Opd_encode 114 = .ok (.ireturn, 1) := by decide +kernel
theorem d_Opd_encode_115 : decode b_Opd_encode 115 = .ok (.aload_n 0, 1) := by decide +kernel
theorem d_Opd_encode_116 : decode b_Opd_encode 116 = .ok (.getfield 17, 3) := by decide +kernel
theorem d_Opd_encode_119 : decode b_Opd_encode 119 = .ok (.iconst 3, 1) := by decide +kernel
theorem d_Opd_encode_120 : decode b_Opd_encode 120 = .ok (.if_icmp .ne 48, 3) := by decide +kernel
theorem d_Opd_encode_123 : decode b_Opd_encode 123 = .ok (.aload_n 0, 1) := by decide +kernel
theorem d_Opd_encode_124 : decode b_Opd_encode 124 = .ok (.iconst 0, 1) := by decide +kernel
theorem d_Opd_encode_125 : decode b_Opd_encode 125 = .ok (.sipush 255, 3) := by decide +kernel
theorem d_Opd_encode_128 : decode b_Opd_encode 128 = .ok (.invokevirtual 52, 3) := by decide +kernel
theorem d_Opd_encode_131 : decode b_Opd_encode 131 = .ok (.ifCond .eq 37, 3) := by decide +kernel
theorem d_Opd_encode_134 : decode b_Opd_encode 134 = .ok (.aload_n 0, 1) := by decide +kernel
theorem d_Opd_encode_135 : decode b_Opd_encode 135 = .ok (.getfield 13, 3) := by decide +kernel
theorem d_Opd_encode_138 : decode b_Opd_encode 138 = .ok (.iconst 1, 1) := by decide +kernel
theorem d_Opd_encode_139 : decode b_Opd_encode 139 = .ok (.baload, 1) := by decide +kernel
theorem d_Opd_encode_140 : decode b_Opd_encode 140 = .ok (.ifCond .eq 28, 3) := by decide +kernel
theorem d_Opd_encode_143 : decode b_Opd_encode 143 = .ok (.aload_n 0, 1) := by decide +kernel
theorem d_Opd_encode_144 : decode b_Opd_encode 144 = .ok (.iload_n 1, 1) := by decide +kernel
theorem d_Opd_encode_145 : decode b_Opd_encode 145 = .ok (.iconst 2, 1) := by decide +kernel
theorem d_Opd_encode_146 : decode b_Opd_encode 146 = .ok (.aload_n 0, 1) := by decide +kernel
theorem d_Opd_encode_147 : decode b_Opd_encode 147 = .ok (.getfield 9, 3) := by decide +kernel
theorem d_Opd_encode_150 : decode b_Opd_encode 150 = .ok (.iconst 0, 1) := by decide +kernel
theorem d_Opd_encode_151 : decode b_Opd_encode 151 = .ok (.laload, 1) := by decide +kernel
theorem d_Opd_encode_152 : decode b_Opd_encode 152 = .ok (.aload_n 0, 1) := by decide +kernel
theorem d_Opd_encode_153 : decode b_Opd_encode 153 = .ok (.getfield 9, 3) := by decide +kernel
theorem d_Opd_encode_156 : decode b_Opd_encode 156 = .ok (.iconst 1, 1) := by decide +kernel
theorem d_Opd_encode_157 : decode b_Opd_encode 157 = .ok (.laload, 1) := by decide +kernel
theorem d_Opd_encode_158 : decode b_Opd_encode 158 = .ok (.invokevirtual 44, 3) := by decide +kernel
theorem d_Opd_encode_161 : decode b_Opd_encode 161 = .ok (.ifCond .eq 7, 3) := by decide +kernel
theorem d_Opd_encode_164 : decode b_Opd_encode 164 = .ok (.iconst 1, 1) := by decide +kernel
theorem d_Opd_encode_165 : decode b_Opd_encode 165 = .ok (.goto 4, 3) := by decide +kernel
theorem d_Opd_encode_168 : decode b_Opd_encode 168 = .ok (.iconst 0, 1) := by decide +kernel
theorem d_Opd_encode_169 : decode b_Opd_encode 169 = .ok (.ireturn, 1) := by decide +kernel
theorem d_Opd_encode_170 : decode b_Opd_encode 170 = .ok (.aload_n 0, 1) := by decide +kernel
theorem d_Opd_encode_171 : decode b_Opd_encode 171 = .ok (.getfield 17, 3) := by decide +kernel
theorem d_Opd_encode_174 : decode b_Opd_encode 174 = .ok (.iconst 2, 1) := by decide +kernel
theorem d_Opd_encode_175 : decode b_Opd_encode 175 = .ok (.if_icmp .ne 28, 3) := by decide +kernel
theorem d_Opd_encode_178 : decode b_Opd_encode 178 = .ok (.aload_n 0, 1) := by decide +kernel
theorem d_Opd_encode_179 : decode b_Opd_encode 179 = .ok (.getfield 13, 3) := by decide +kernel
theorem d_Opd_encode_182 : decode b_Opd_encode 182 = .ok (.iconst 0, 1) := by decide +kernel
theorem d_Opd_encode_183 : decode b_Opd_encode 183 = .ok (.baload, 1) := by decide +kernel
theorem d_Opd_encode_184 : decode b_Opd_encode 184 = .ok (.ifCond .eq 19, 3) := by decide +kernel
theorem d_Opd_encode_187 : decode b_Opd_encode 187 = .ok (.aload_n 0, 1) := by decide +kernel
theorem d_Opd_encode_188 : decode b_Opd_encode 188 = .ok (.iload_n 1, 1) := by decide +kernel
theorem d_Opd_encode_189 : decode b_Opd_encode 189 = .ok (.iconst 1, 1) := by decide +kernel
theorem d_Opd_encode_190 : decode b_Opd_encode 190 = .ok (.lload_n 2, 1) := by decide +kernel
theorem d_Opd_encode_191 : decode b_Opd_encode 191 = .ok (.ldc 56, 2) := by decide +kernel
theorem d_Opd_encode_193 : decode b_Opd_encode 193 = .ok (.invokevirtual 57, 3) := by decide +kernel
theorem d_Opd_encode_196 : decode b_Opd_encode 196 = .ok (.ifCond .eq 7, 3) := by decide +kernel
theorem d_Opd_encode_199 : decode b_Opd_encode 199 = .ok (.iconst 1, 1) := by decide +kernel
theorem d_Opd_encode_200 : decode b_Opd_encode 200 = .ok (.goto 4, 3) := by decide +kernel
theorem d_Opd_encode_203 : decode b_Opd_encode 203 = .ok (.iconst 0, 1) := by decide +kernel
theorem d_Opd_encode_204 : decode b_Opd_encode 204 = .ok (.ireturn, 1) := by decide +kernel
theorem d_Opd_encode_205 : decode b_Opd_encode 205 = .ok (.aload_n 0, 1) := by decide +kernel
theorem d_Opd_encode_206 : decode b_Opd_encode 206 = .ok (.getfield 17, 3) := by decide +kernel
theorem d_Opd_encode_209 : decode b_Opd_encode 209 = .ok (.iconst 1, 1) := by decide +kernel
theorem d_Opd_encode_210 : decode b_Opd_encode 210 = .ok (.if_icmp .ne 19, 3) := by decide +kernel
theorem d_Opd_encode_213 : decode b_Opd_encode 213 = .ok (.aload_n 0, 1) := by decide +kernel
theorem d_Opd_encode_214 : decode b_Opd_encode 214 = .ok (.iload_n 1, 1) := by decide +kernel
theorem d_Opd_encode_215 : decode b_Opd_encode 215 = .ok (.iconst 0, 1) := by decide +kernel
theorem d_Opd_encode_216 : decode b_Opd_encode 216 = .ok (.lload_n 2, 1) := by decide +kernel
theorem d_Opd_encode_217 : decode b_Opd_encode 217 = .ok (.ldc 61, 2) := by decide +kernel
theorem d_Opd_encode_219 : decode b_Opd_encode 219 = .ok (.invokevirtual 57, 3) := by decide +kernel
theorem d_Opd_encode_222 : decode b_Opd_encode 222 = .ok (.ifCond .eq 7, 3) := by decide +kernel
theorem d_Opd_encode_225 : decode b_Opd_encode 225 = .ok (.iconst 1, 1) := by decide +kernel
theorem d_Opd_encode_226 : decode b_Opd_encode 226 = .ok (.goto 4, 3) := by decide +kernel
theorem d_Opd_encode_229 : decode b_Opd_encode 229 = .ok (.iconst 0, 1) := by decide +kernel
theorem d_Opd_encode_230 : decode b_Opd_encode 230 = .ok (.ireturn, 1) := by decide +kernel
theorem d_Opd_encode_231 : decode b_Opd_encode 231 = .ok (.aload_n 0, 1) := by decide +kernel
theorem d_Opd_encode_232 : decode b_Opd_encode 232 = .ok (.getfield 17, 3) := by decide +kernel
theorem d_Opd_encode_235 : decode b_Opd_encode 235 = .ok (.iconst 2, 1) := by decide +kernel
theorem d_Opd_encode_236 : decode b_Opd_encode 236 = .ok (.if_icmp .ne 46, 3) := by decide +kernel
theorem d_Opd_encode_239 : decode b_Opd_encode 239 = .ok (.aload_n 0, 1) := by decide +kernel
theorem d_Opd_encode_240 : decode b_Opd_encode 240 = .ok (.getfield 13, 3) := by decide +kernel
theorem d_Opd_encode_243 : decode b_Opd_encode 243 = .ok (.iconst 0, 1) := by decide +kernel
theorem d_Opd_encode_244 : decode b_Opd_encode 244 = .ok (.baload, 1) := by decide +kernel
theorem d_Opd_encode_245 : decode b_Opd_encode 245 = .ok (.ifCond .eq 37, 3) := by decide +kernel
theorem d_Opd_encode_248 : decode b_Opd_encode 248 = .ok (.aload_n 0, 1) := by decide +kernel
theorem d_Opd_encode_249 : decode b_Opd_encode 249 = .ok (.iconst 1, 1) := by decide +kernel
theorem d_Opd_encode_250 : decode b_Opd_encode 250 = .ok (.ldc 62, 2) := by decide +kernel
theorem d_Opd_encode_252 : decode b_Opd_encode 252 = .ok (.invokevirtual 52, 3) := by decide +kernel
theorem d_Opd_encode_255 : decode b_Opd_encode 255 = .ok (.ifCond .eq 27, 3) := by decide +kernel
theorem d_Opd_encode_258 : decode b_Opd_encode 258 = .ok (.aload_n 0, 1) := by decide +kernel
theorem d_Opd_encode_259 : decode b_Opd_encode 259 = .ok (.iload_n 1, 1) := by decide +kernel
theorem d_Opd_encode_260 : decode b_Opd_encode 260 = .ok (.aload_n 0, 1) := by decide +kernel
theorem d_Opd_encode_261 : decode b_Opd_encode 261 = .ok (.getfield 9, 3) := by decide +kernel
theorem d_Opd_encode_264 : decode b_Opd_encode 264 = .ok (.iconst 0, 1) := by decide +kernel
theorem d_Opd_encode_265 : decode b_Opd_encode 265 = .ok (.laload, 1) := by decide +kernel
theorem d_Opd_encode_266 : decode b_Opd_encode 266 = .ok (.aload_n 0, 1) := by decide +kernel
theorem d_Opd_encode_267 : decode b_Opd_encode 267 = .ok (.getfield 9, 3) := by decide +kernel
theorem d_Opd_encode_270 : decode b_Opd_encode 270 = .ok (.iconst 1, 1) := by decide +kernel
theorem d_Opd_encode_271 : decode b_Opd_encode 271 = .ok (.laload, 1) := by decide +kernel
theorem d_Opd_encode_272 : decode b_Opd_encode 272 = .ok (.invokevirtual 63, 3) := by decide +kernel
theorem d_Opd_encode_275 : decode b_Opd_encode 275 = .ok (.ifCond .eq 7, 3) := by decide +kernel
theorem d_Opd_encode_278 : decode b_Opd_encode 278 = .ok (.iconst 1, 1) := by decide +kernel
theorem d_Opd_encode_279 : decode b_Opd_encode 279 = .ok (.goto 4, 3) := by decide +kernel
theorem d_Opd_encode_282 : decode b_Opd_encode 282 = .ok (.iconst 0, 1) := by decide +kernel
theorem d_Opd_encode_283 : decode b_Opd_encode 283 = .ok (.ireturn, 1) := by decide +kernel
theorem d_Opd_encode_284 : decode b_Opd_encode 284 = .ok (.aload_n 0, 1) := by decide +kernel
theorem d_Opd_encode_285 : decode b_Opd_encode 285 = .ok (.getfield 17, 3) := by decide +kernel
theorem d_Opd_encode_288 : decode b_Opd_encode 288 = .ok (.iconst 2, 1) := by decide +kernel
theorem d_Opd_encode_289 : decode b_Opd_encode 289 = .ok (.if_icmp .ne 31, 3) := by decide +kernel
theorem d_Opd_encode_292 : decode b_Opd_encode 292 = .ok (.aload_n 0, 1) := by decide +kernel
theorem d_Opd_encode_293 : decode b_Opd_encode 293 = .ok (.iconst 0, 1) := by decide +kernel
theorem d_Opd_encode_294 : decode b_Opd_encode 294 = .ok (.invokevirtual 67, 3) := by decide +kernel
theorem d_Opd_encode_297 : decode b_Opd_encode 297 = .ok (.ifCond .eq 23, 3) := by decide +kernel
theorem d_Opd_encode_300 : decode b_Opd_encode 300 = .ok (.aload_n 0, 1) := by decide +kernel
theorem d_Opd_encode_301 : decode b_Opd_encode 301 = .ok (.iload_n 1, 1) := by decide +kernel
theorem d_Opd_encode_302 : decode b_Opd_encode 302 = .ok (.iconst 1, 1) := by decide +kernel
theorem d_Opd_encode_303 : decode b_Opd_encode 303 = .ok (.aload_n 0, 1) := by decide +kernel
theorem d_Opd_encode_304 : decode b_Opd_encode 304 = .ok (.getfield 9, 3) := by decide +kernel
theorem d_Opd_encode_307 : decode b_Opd_encode 307 = .ok (.iconst 0, 1) := by decide +kernel
theorem d_Opd_encode_308 : decode b_Opd_encode 308 = .ok (.laload, 1) := by decide +kernel
theorem d_Opd_encode_309 : decode b_Opd_encode 309 = .ok (.lconst 0, 1) := by decide +kernel
theorem d_Opd_encode_310 : decode b_Opd_encode 310 = .ok (.invokevirtual 44, 3) := by decide +kernel
theorem d_Opd_encode_313 : decode b_Opd_encode 313 = .ok (.ifCond .eq 7, 3) := by decide +kernel
theorem d_Opd_encode_316 : decode b_Opd_encode 316 = .ok (.iconst 1, 1) := by decide +kernel
theorem d_Opd_encode_317 : decode b_Opd_encode 317 = .ok (.goto 4, 3) := by decide +kernel
theorem d_Opd_encode_320 : decode b_Opd_encode 320 = .ok (.iconst 0, 1) := by decide +kernel
theorem d_Opd_encode_321 : decode b_Opd_encode 321 = .ok (.ireturn, 1) := by decide +kernel
theorem d_Opd_encode_322 : decode b_Opd_encode 322 = .ok (.aload_n 0, 1) := by decide +kernel
theorem d_Opd_encode_323 : decode b_Opd_encode 323 = .ok (.getfield 17, 3) := by decide +kernel
theorem d_Opd_encode_326 : decode b_Opd_encode 326 = .ok (.iconst 2, 1) := by decide +kernel
theorem d_Opd_encode_327 : decode b_Opd_encode 327 = .ok (.if_icmp .ne 44, 3) := by decide +kernel
theorem d_Opd_encode_330 : decode b_Opd_encode 330 = .ok (.aload_n 0, 1) := by decide +kernel
theorem d_Opd_encode_331 : decode b_Opd_encode 331 = .ok (.getfield 13, 3) := by decide +kernel
theorem d_Opd_encode_334 : decode b_Opd_encode 334 = .ok (.iconst 0, 1) := by decide +kernel
theorem d_Opd_encode_335 : decode b_Opd_encode 335 = .ok (.baload, 1) := by decide +kernel
theorem d_Opd_encode_336 : decode b_Opd_encode 336 = .ok (.ifCond .eq 35, 3) := by decide +kernel
theorem d_Opd_encode_339 : decode b_Opd_encode 339 = .ok (.aload_n 0, 1) := by decide +kernel
theorem d_Opd_encode_340 : decode b_Opd_encode 340 = .ok (.iconst 1, 1) := by decide +kernel
theorem d_Opd_encode_341 : decode b_Opd_encode 341 = .ok (.invokevirtual 67, 3) := by decide +kernel
theorem d_Opd_encode_344 : decode b_Opd_encode 344 = .ok (.ifCond .eq 27, 3) := by decide +kernel
theorem d_Opd_encode_347 : decode b_Opd_encode 347 = .ok (.aload_n 0, 1) := by decide +kernel
theorem d_Opd_encode_348 : decode b_Opd_encode 348 = .ok (.iload_n 1, 1) := by decide +kernel
theorem d_Opd_encode_349 : decode b_Opd_encode 349 = .ok (.aload_n 0, 1) := by decide +kernel
theorem d_Opd_encode_350 : decode b_Opd_encode 350 = .ok (.getfield 9, 3) := by decide +kernel
theorem d_Opd_encode_353 : decode b_Opd_encode 353 = .ok (.iconst 0, 1) := by decide +kernel
theorem d_Opd_encode_354 : decode b_Opd_encode 354 = .ok (.laload, 1) := by decide +kernel
theorem d_Opd_encode_355 : decode b_Opd_encode 355 = .ok (.aload_n 0, 1) := by decide +kernel
theorem d_Opd_encode_356 : decode b_Opd_encode 356 = .ok (.getfield 9, 3) := by decide +kernel
theorem d_Opd_encode_359 : decode b_Opd_encode 359 = .ok (.iconst 1, 1) := by decide +kernel
theorem d_Opd_encode_360 : decode b_Opd_encode 360 = .ok (.laload, 1) := by decide +kernel
theorem d_Opd_encode_361 : decode b_Opd_encode 361 = .ok (.invokevirtual 63, 3) := by decide +kernel
theorem d_Opd_encode_364 : decode b_Opd_encode 364 = .ok (.ifCond .eq 7, 3) := by decide +kernel
theorem d_Opd_encode_367 : decode b_Opd_encode 367 = .ok (.iconst 1, 1) := by decide +kernel
theorem d_Opd_encode_368 : decode b_Opd_encode 368 = .ok (.goto 4, 3) := by decide +kernel
theorem d_Opd_encode_371 : decode b_Opd_encode 371 = .ok (.iconst 0, 1) := by decide +kernel
theorem d_Opd_encode_372 : decode b_Opd_encode 372 = .ok (.ireturn, 1) := by decide +kernel
theorem d_Opd_encode_373 : decode b_Opd_encode 373 = .ok (.aload_n 0, 1) := by decide +kernel
theorem d_Opd_encode_374 : decode b_Opd_encode 374 = .ok (.getfield 17, 3) := by decide +kernel
theorem d_Opd_encode_377 : decode b_Opd_encode 377 = .ok (.iconst 2, 1) := by decide +kernel
theorem d_Opd_encode_378 : decode b_Opd_encode 378 = .ok (.if_icmp .ne 48, 3) := by decide +kernel
theorem d_Opd_encode_381 : decode b_Opd_encode 381 = .ok (.aload_n 0, 1) := by decide +kernel
theorem d_Opd_encode_382 : decode b_Opd_encode 382 = .ok (.iconst 0, 1) := by decide +kernel
theorem d_Opd_encode_383 : decode b_Opd_encode 383 = .ok (.sipush 255, 3) := by decide +kernel
theorem d_Opd_encode_386 : decode b_Opd_encode 386 = .ok (.invokevirtual 52, 3) := by decide +kernel
theorem d_Opd_encode_389 : decode b_Opd_encode 389 = .ok (.ifCond .eq 37, 3) := by decide +kernel
theorem d_Opd_encode_392 : decode b_Opd_encode 392 = .ok (.aload_n 0, 1) := by decide +kernel
theorem d_Opd_encode_393 : decode b_Opd_encode 393 = .ok (.iconst 1, 1) := by decide +kernel
theorem d_Opd_encode_394 : decode b_Opd_encode 394 = .ok (.ldc 62, 2) := by decide +kernel
theorem d_Opd_encode_396 : decode b_Opd_encode 396 = .ok (.invokevirtual 52, 3) := by decide +kernel
theorem d_Opd_encode_399 : decode b_Opd_encode 399 = .ok (.ifCond .eq 27, 3) := by decide +kernel
theorem d_Opd_encode_402 : decode b_Opd_encode 402 = .ok (.aload_n 0, 1) := by decide +kernel
theorem d_Opd_encode_403 : decode b_Opd_encode 403 = .ok (.iload_n 1, 1) := by decide +kernel
theorem d_Opd_encode_404 : decode b_Opd_encode 404 = .ok (.aload_n 0, 1) := by decide +kernel
theorem d_Opd_encode_405 : decode b_Opd_encode 405 = .ok (.getfield 9, 3) := by decide +kernel
theorem d_Opd_encode_408 : decode b_Opd_encode 408 = .ok (.iconst 0, 1) := by decide +kernel
theorem d_Opd_encode_409 : decode b_Opd_encode 409 = .ok (.laload, 1) := by decide +kernel
theorem d_Opd_encode_410 : decode b_Opd_encode 410 = .ok (.aload_n 0, 1) := by decide +kernel
theorem d_Opd_encode_411 : decode b_Opd_encode 411 = .ok (.getfield 9, 3) := by decide +kernel
