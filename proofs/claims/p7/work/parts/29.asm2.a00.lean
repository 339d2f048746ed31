abbrev b_Asm_emit : ByteArray := prog_3_method_9_code
abbrev b_Asm_survey : ByteArray := prog_3_method_6_code
abbrev b_Asm_translate : ByteArray := prog_3_method_3_code
abbrev y_Asm_emit : MethodName := ⟨"LittleMix$Assembler", "emit", "()Z"⟩
abbrev y_Asm_survey : MethodName := ⟨"LittleMix$Assembler", "survey", "()Z"⟩
abbrev y_Asm_translate : MethodName := ⟨"LittleMix$Assembler", "translate", "(I)Z"⟩
theorem p_Asm_emit : y_Asm_emit.cls ≠ "java/lang/invoke/MethodHandle" ∧ y_Asm_emit.cls ≠ "java/lang/invoke/VarHandle" ∧ (parseMethodDescriptor y_Asm_emit.desc).map (fun d => d.parameters.length) = some 0 := by decide +kernel
theorem p_Asm_gather : y_Asm_gather.cls ≠ "java/lang/invoke/MethodHandle" ∧ y_Asm_gather.cls ≠ "java/lang/invoke/VarHandle" ∧ (parseMethodDescriptor y_Asm_gather.desc).map (fun d => d.parameters.length) = some 1 := by decide +kernel
theorem p_Asm_goOn : y_Asm_goOn.cls ≠ "java/lang/invoke/MethodHandle" ∧ y_Asm_goOn.cls ≠ "java/lang/invoke/VarHandle" ∧ (parseMethodDescriptor y_Asm_goOn.desc).map (fun d => d.parameters.length) = some 0 := by decide +kernel
theorem p_Asm_locates : y_Asm_locates.cls ≠ "java/lang/invoke/MethodHandle" ∧ y_Asm_locates.cls ≠ "java/lang/invoke/VarHandle" ∧ (parseMethodDescriptor y_Asm_locates.desc).map (fun d => d.parameters.length) = some 0 := by decide +kernel
theorem p_Asm_survey : y_Asm_survey.cls ≠ "java/lang/invoke/MethodHandle" ∧ y_Asm_survey.cls ≠ "java/lang/invoke/VarHandle" ∧ (parseMethodDescriptor y_Asm_survey.desc).map (fun d => d.parameters.length) = some 0 := by decide +kernel
theorem p_Lab_add : y_Lab_add.cls ≠ "java/lang/invoke/MethodHandle" ∧ y_Lab_add.cls ≠ "java/lang/invoke/VarHandle" ∧ (parseMethodDescriptor y_Lab_add.desc).map (fun d => d.parameters.length) = some 4 := by decide +kernel
theorem p_Lab_clear : y_Lab_clear.cls ≠ "java/lang/invoke/MethodHandle" ∧ y_Lab_clear.cls ≠ "java/lang/invoke/VarHandle" ∧ (parseMethodDescriptor y_Lab_clear.desc).map (fun d => d.parameters.length) = some 0 := by decide +kernel
theorem p_Lab_tell : y_Lab_tell.cls ≠ "java/lang/invoke/MethodHandle" ∧ y_Lab_tell.cls ≠ "java/lang/invoke/VarHandle" ∧ (parseMethodDescriptor y_Lab_tell.desc).map (fun d => d.parameters.length) = some 1 := by decide +kernel
theorem p_Lin_isNothing : y_Lin_isNothing.cls ≠ "java/lang/invoke/MethodHandle" ∧ y_Lin_isNothing.cls ≠ "java/lang/invoke/VarHandle" ∧ (parseMethodDescriptor y_Lin_isNothing.desc).map (fun d => d.parameters.length) = some 0 := by decide +kernel
theorem p_Lin_read : y_Lin_read.cls ≠ "java/lang/invoke/MethodHandle" ∧ y_Lin_read.cls ≠ "java/lang/invoke/VarHandle" ∧ (parseMethodDescriptor y_Lin_read.desc).map (fun d => d.parameters.length) = some 2 := by decide +kernel
theorem p_Mem_clear : y_Mem_clear.cls ≠ "java/lang/invoke/MethodHandle" ∧ y_Mem_clear.cls ≠ "java/lang/invoke/VarHandle" ∧ (parseMethodDescriptor y_Mem_clear.desc).map (fun d => d.parameters.length) = some 0 := by decide +kernel
theorem p_Opd_encode : y_Opd_encode.cls ≠ "java/lang/invoke/MethodHandle" ∧ y_Opd_encode.cls ≠ "java/lang/invoke/VarHandle" ∧ (parseMethodDescriptor y_Opd_encode.desc).map (fun d => d.parameters.length) = some 2 := by decide +kernel
theorem k_85 : (Jvm.Cond.fieldLinkNest "LittleMix$Assembler" (134 : Nat) "LittleMix$Operands" "right" "Z" "LittleMix") ∈ mx_Ns := List.mem_filter.mpr ⟨(List.mem_append_left _ (List.mem_of_getElem? (l := tables_1_1) (i := 85) (by decide +kernel))), rfl⟩
theorem k_87 : (Jvm.Cond.fieldLinkNest "LittleMix$Assembler" (165 : Nat) "LittleMix$Operands" "anyRegister" "Z" "LittleMix") ∈ mx_Ns := List.mem_filter.mpr ⟨(List.mem_append_left _ (List.mem_of_getElem? (l := tables_1_1) (i := 87) (by decide +kernel))), rfl⟩
theorem k_90 : (Jvm.Cond.fieldLinkNest "LittleMix$Assembler" (172 : Nat) "LittleMix$Operands" "word" "I" "LittleMix") ∈ mx_Ns := List.mem_filter.mpr ⟨(List.mem_append_left _ (List.mem_of_getElem? (l := tables_1_1) (i := 90) (by decide +kernel))), rfl⟩
theorem k_220 : (Jvm.Cond.fieldLink "LittleMix$Assembler" (147 : Nat) "LittleMix$Line" "labelAt" "I") ∈ mx_T := List.mem_filter.mpr ⟨List.mem_append_right _ ((List.mem_append_left _ (List.mem_of_getElem? (l := tables_1_1) (i := 220) (by decide +kernel)))), rfl⟩
theorem k_222 : (Jvm.Cond.fieldLink "LittleMix$Assembler" (141 : Nat) "LittleMix$Line" "labelSize" "I") ∈ mx_T := List.mem_filter.mpr ⟨List.mem_append_right _ ((List.mem_append_left _ (List.mem_of_getElem? (l := tables_1_1) (i := 222) (by decide +kernel)))), rfl⟩
theorem k_416 : (Jvm.Cond.methodLink "LittleMix$Assembler" (63 : Nat) ({ cls := "LittleMix$Labels", name := "clear", desc := "()V" } : Jvm.MethodName)) ∈ mx_T := List.mem_filter.mpr ⟨List.mem_append_right _ ((List.mem_append_right _ (List.mem_append_left _ (List.mem_of_getElem? (l := tables_1_2) (i := 176) (by decide +kernel))))), rfl⟩
theorem k_417 : (Jvm.Cond.instanceMethod ({ cls := "LittleMix$Labels", name := "clear", desc := "()V" } : Jvm.MethodName)) ∈ mx_T := List.mem_filter.mpr ⟨List.mem_append_right _ ((List.mem_append_right _ (List.mem_append_left _ (List.mem_of_getElem? (l := tables_1_2) (i := 177) (by decide +kernel))))), rfl⟩
theorem k_418 : (Jvm.Cond.selects "LittleMix$Labels" ({ cls := "LittleMix$Labels", name := "clear", desc := "()V" } : Jvm.MethodName) ({ cls := "LittleMix$Labels", name := "clear", desc := "()V" } : Jvm.MethodName)) ∈ mx_T := List.mem_filter.mpr ⟨List.mem_append_right _ ((List.mem_append_right _ (List.mem_append_left _ (List.mem_of_getElem? (l := tables_1_2) (i := 178) (by decide +kernel))))), rfl⟩
theorem k_419 : (Jvm.Cond.code ({ cls := "LittleMix$Labels", name := "clear", desc := "()V" } : Jvm.MethodName) prog_4_method_2_code (1 : Nat) (Option.none : Option Jvm.ClassFile.FieldType)) ∈ mx_T := List.mem_filter.mpr ⟨List.mem_append_right _ ((List.mem_append_right _ (List.mem_append_left _ (List.mem_of_getElem? (l := tables_1_2) (i := 179) rfl)))), rfl⟩
theorem k_420 : (Jvm.Cond.methodLink "LittleMix$Assembler" (66 : Nat) ({ cls := "LittleMix$Memory", name := "clear", desc := "()V" } : Jvm.MethodName)) ∈ mx_T := List.mem_filter.mpr ⟨List.mem_append_right _ ((List.mem_append_right _ (List.mem_append_left _ (List.mem_of_getElem? (l := tables_1_2) (i := 180) (by decide +kernel))))), rfl⟩
theorem k_421 : (Jvm.Cond.instanceMethod ({ cls := "LittleMix$Memory", name := "clear", desc := "()V" } : Jvm.MethodName)) ∈ mx_T := List.mem_filter.mpr ⟨List.mem_append_right _ ((List.mem_append_right _ (List.mem_append_left _ (List.mem_of_getElem? (l := tables_1_2) (i := 181) (by decide +kernel))))), rfl⟩
theorem k_422 : (Jvm.Cond.selects "LittleMix$Memory" ({ cls := "LittleMix$Memory", name := "clear", desc := "()V" } : Jvm.MethodName) ({ cls := "LittleMix$Memory", name := "clear", desc := "()V" } : Jvm.MethodName)) ∈ mx_T := List.mem_filter.mpr ⟨List.mem_append_right _ ((List.mem_append_right _ (List.mem_append_left _ (List.mem_of_getElem? (l := tables_1_2) (i := 182) (by decide +kernel))))), rfl⟩
theorem k_423 : (Jvm.Cond.code ({ cls := "LittleMix$Memory", name := "clear", desc := "()V" } : Jvm.MethodName) prog_7_method_6_code (2 : Nat) (Option.none : Option Jvm.ClassFile.FieldType)) ∈ mx_T := List.mem_filter.mpr ⟨List.mem_append_right _ ((List.mem_append_right _ (List.mem_append_left _ (List.mem_of_getElem? (l := tables_1_2) (i := 183) rfl)))), rfl⟩
theorem k_424 : (Jvm.Cond.methodLink "LittleMix$Assembler" (73 : Nat) ({ cls := "LittleMix$Line", name := "read", desc := "(II)Z" } : Jvm.MethodName)) ∈ mx_T := List.mem_filter.mpr ⟨List.mem_append_right _ ((List.mem_append_right _ (List.mem_append_left _ (List.mem_of_getElem? (l := tables_1_2) (i := 184) (by decide +kernel))))), rfl⟩
theorem k_425 : (Jvm.Cond.instanceMethod ({ cls := "LittleMix$Line", name := "read", desc := "(II)Z" } : Jvm.MethodName)) ∈ mx_T := List.mem_filter.mpr ⟨List.mem_append_right _ ((List.mem_append_right _ (List.mem_append_left _ (List.mem_of_getElem? (l := tables_1_2) (i := 185) (by decide +kernel))))), rfl⟩
theorem k_426 : (Jvm.Cond.selects "LittleMix$Line" ({ cls := "LittleMix$Line", name := "read", desc := "(II)Z" } : Jvm.MethodName) ({ cls := "LittleMix$Line", name := "read", desc := "(II)Z" } : Jvm.MethodName)) ∈ mx_T := List.mem_filter.mpr ⟨List.mem_append_right _ ((List.mem_append_right _ (List.mem_append_left _ (List.mem_of_getElem? (l := tables_1_2) (i := 186) (by decide +kernel))))), rfl⟩
theorem k_427 : (Jvm.Cond.code ({ cls := "LittleMix$Line", name := "read", desc := "(II)Z" } : Jvm.MethodName) prog_5_method_3_code (5 : Nat) (Option.some Jvm.ClassFile.FieldType.boolean)) ∈ mx_T := List.mem_filter.mpr ⟨List.mem_append_right _ ((List.mem_append_right _ (List.mem_append_left _ (List.mem_of_getElem? (l := tables_1_2) (i := 187) rfl)))), rfl⟩
theorem k_453 : (Jvm.Cond.methodLink "LittleMix$Assembler" (77 : Nat) ({ cls := "LittleMix$Line", name := "isNothing", desc := "()Z" } : Jvm.MethodName)) ∈ mx_T := List.mem_filter.mpr ⟨List.mem_append_right _ ((List.mem_append_right _ (List.mem_append_left _ (List.mem_of_getElem? (l := tables_1_2) (i := 213) (by decide +kernel))))), rfl⟩
theorem k_454 : (Jvm.Cond.instanceMethod ({ cls := "LittleMix$Line", name := "isNothing", desc := "()Z" } : Jvm.MethodName)) ∈ mx_T := List.mem_filter.mpr ⟨List.mem_append_right _ ((List.mem_append_right _ (List.mem_append_left _ (List.mem_of_getElem? (l := tables_1_2) (i := 214) (by decide +kernel))))), rfl⟩
theorem k_455 : (Jvm.Cond.selects "LittleMix$Line" ({ cls := "LittleMix$Line", name := "isNothing", desc := "()Z" } : Jvm.MethodName) ({ cls := "LittleMix$Line", name := "isNothing", desc := "()Z" } : Jvm.MethodName)) ∈ mx_T := List.mem_filter.mpr ⟨List.mem_append_right _ ((List.mem_append_right _ (List.mem_append_left _ (List.mem_of_getElem? (l := tables_1_2) (i := 215) (by decide +kernel))))), rfl⟩
theorem k_456 : (Jvm.Cond.code ({ cls := "LittleMix$Line", name := "isNothing", desc := "()Z" } : Jvm.MethodName) prog_5_method_2_code (1 : Nat) (Option.some Jvm.ClassFile.FieldType.boolean)) ∈ mx_T := List.mem_filter.mpr ⟨List.mem_append_right _ ((List.mem_append_right _ (List.mem_append_left _ (List.mem_of_getElem? (l := tables_1_2) (i := 216) rfl)))), rfl⟩
theorem k_457 : (Jvm.Cond.methodLink "LittleMix$Assembler" (81 : Nat) ({ cls := "LittleMix$Assembler", name := "gather", desc := "(Z)Z" } : Jvm.MethodName)) ∈ mx_T := List.mem_filter.mpr ⟨List.mem_append_right _ ((List.mem_append_right _ (List.mem_append_left _ (List.mem_of_getElem? (l := tables_1_2) (i := 217) (by decide +kernel))))), rfl⟩
theorem k_459 : (Jvm.Cond.instanceMethod ({ cls := "LittleMix$Assembler", name := "gather", desc := "(Z)Z" } : Jvm.MethodName)) ∈ mx_T := List.mem_filter.mpr ⟨List.mem_append_right _ ((List.mem_append_right _ (List.mem_append_left _ (List.mem_of_getElem? (l := tables_1_2) (i := 219) (by decide +kernel))))), rfl⟩
theorem k_460 : (Jvm.Cond.code ({ cls := "LittleMix$Assembler", name := "gather", desc := "(Z)Z" } : Jvm.MethodName) prog_3_method_5_code (6 : Nat) (Option.some Jvm.ClassFile.FieldType.boolean)) ∈ mx_T := List.mem_filter.mpr ⟨List.mem_append_right _ ((List.mem_append_right _ (List.mem_append_left _ (List.mem_of_getElem? (l := tables_1_2) (i := 220) rfl)))), rfl⟩
theorem k_616 : (Jvm.Cond.methodLink "LittleMix$Assembler" (85 : Nat) ({ cls := "LittleMix$Assembler", name := "survey", desc := "()Z" } : Jvm.MethodName)) ∈ mx_T := List.mem_filter.mpr ⟨List.mem_append_right _ ((List.mem_append_right _ (List.mem_append_right _ (List.mem_append_left _ (List.mem_of_getElem? (l := tables_1_3) (i := 136) (by decide +kernel)))))), rfl⟩
theorem k_618 : (Jvm.Cond.instanceMethod ({ cls := "LittleMix$Assembler", name := "survey", desc := "()Z" } : Jvm.MethodName)) ∈ mx_T := List.mem_filter.mpr ⟨List.mem_append_right _ ((List.mem_append_right _ (List.mem_append_right _ (List.mem_append_left _ (List.mem_of_getElem? (l := tables_1_3) (i := 138) (by decide +kernel)))))), rfl⟩
theorem k_619 : (Jvm.Cond.code ({ cls := "LittleMix$Assembler", name := "survey", desc := "()Z" } : Jvm.MethodName) prog_3_method_6_code (4 : Nat) (Option.some Jvm.ClassFile.FieldType.boolean)) ∈ mx_T := List.mem_filter.mpr ⟨List.mem_append_right _ ((List.mem_append_right _ (List.mem_append_right _ (List.mem_append_left _ (List.mem_of_getElem? (l := tables_1_3) (i := 139) rfl))))), rfl⟩
theorem k_620 : (Jvm.Cond.methodLink "LittleMix$Assembler" (138 : Nat) ({ cls := "LittleMix$Assembler", name := "locates", desc := "()Z" } : Jvm.MethodName)) ∈ mx_T := List.mem_filter.mpr ⟨List.mem_append_right _ ((List.mem_append_right _ (List.mem_append_right _ (List.mem_append_left _ (List.mem_of_getElem? (l := tables_1_3) (i := 140) (by decide +kernel)))))), rfl⟩
theorem k_622 : (Jvm.Cond.instanceMethod ({ cls := "LittleMix$Assembler", name := "locates", desc := "()Z" } : Jvm.MethodName)) ∈ mx_T := List.mem_filter.mpr ⟨List.mem_append_right _ ((List.mem_append_right _ (List.mem_append_right _ (List.mem_append_left _ (List.mem_of_getElem? (l := tables_1_3) (i := 142) (by decide +kernel)))))), rfl⟩
theorem k_623 : (Jvm.Cond.code ({ cls := "LittleMix$Assembler", name := "locates", desc := "()Z" } : Jvm.MethodName) prog_3_method_7_code (1 : Nat) (Option.some Jvm.ClassFile.FieldType.boolean)) ∈ mx_T := List.mem_filter.mpr ⟨List.mem_append_right _ ((List.mem_append_right _ (List.mem_append_right _ (List.mem_append_left _ (List.mem_of_getElem? (l := tables_1_3) (i := 143) rfl))))), rfl⟩
theorem k_625 : (Jvm.Cond.methodLink "LittleMix$Assembler" (154 : Nat) ({ cls := "LittleMix$Labels", name := "add", desc := "(IIZJ)Z" } : Jvm.MethodName)) ∈ mx_T := List.mem_filter.mpr ⟨List.mem_append_right _ ((List.mem_append_right _ (List.mem_append_right _ (List.mem_append_left _ (List.mem_of_getElem? (l := tables_1_3) (i := 145) (by decide +kernel)))))), rfl⟩
theorem k_626 : (Jvm.Cond.instanceMethod ({ cls := "LittleMix$Labels", name := "add", desc := "(IIZJ)Z" } : Jvm.MethodName)) ∈ mx_T := List.mem_filter.mpr ⟨List.mem_append_right _ ((List.mem_append_right _ (List.mem_append_right _ (List.mem_append_left _ (List.mem_of_getElem? (l := tables_1_3) (i := 146) (by decide +kernel)))))), rfl⟩
theorem k_627 : (Jvm.Cond.selects "LittleMix$Labels" ({ cls := "LittleMix$Labels", name := "add", desc := "(IIZJ)Z" } : Jvm.MethodName) ({ cls := "LittleMix$Labels", name := "add", desc := "(IIZJ)Z" } : Jvm.MethodName)) ∈ mx_T := List.mem_filter.mpr ⟨List.mem_append_right _ ((List.mem_append_right _ (List.mem_append_right _ (List.mem_append_left _ (List.mem_of_getElem? (l := tables_1_3) (i := 147) (by decide +kernel)))))), rfl⟩
theorem k_628 : (Jvm.Cond.code ({ cls := "LittleMix$Labels", name := "add", desc := "(IIZJ)Z" } : Jvm.MethodName) prog_4_method_6_code (6 : Nat) (Option.some Jvm.ClassFile.FieldType.boolean)) ∈ mx_T := List.mem_filter.mpr ⟨List.mem_append_right _ ((List.mem_append_right _ (List.mem_append_right _ (List.mem_append_left _ (List.mem_of_getElem? (l := tables_1_3) (i := 148) rfl))))), rfl⟩
theorem k_631 : (Jvm.Cond.methodLink "LittleMix$Assembler" (157 : Nat) ({ cls := "LittleMix$Assembler", name := "goOn", desc := "()V" } : Jvm.MethodName)) ∈ mx_T := List.mem_filter.mpr ⟨List.mem_append_right _ ((List.mem_append_right _ (List.mem_append_right _ (List.mem_append_left _ (List.mem_of_getElem? (l := tables_1_3) (i := 151) (by decide +kernel)))))), rfl⟩
theorem k_633 : (Jvm.Cond.instanceMethod ({ cls := "LittleMix$Assembler", name := "goOn", desc := "()V" } : Jvm.MethodName)) ∈ mx_T := List.mem_filter.mpr ⟨List.mem_append_right _ ((List.mem_append_right _ (List.mem_append_right _ (List.mem_append_left _ (List.mem_of_getElem? (l := tables_1_3) (i := 153) (by decide +kernel)))))), rfl⟩
theorem k_634 : (Jvm.Cond.code ({ cls := "LittleMix$Assembler", name := "goOn", desc := "()V" } : Jvm.MethodName) prog_3_method_8_code (2 : Nat) (Option.none : Option Jvm.ClassFile.FieldType)) ∈ mx_T := List.mem_filter.mpr ⟨List.mem_append_right _ ((List.mem_append_right _ (List.mem_append_right _ (List.mem_append_left _ (List.mem_of_getElem? (l := tables_1_3) (i := 154) rfl))))), rfl⟩
theorem k_635 : (Jvm.Cond.methodLink "LittleMix$Assembler" (88 : Nat) ({ cls := "LittleMix$Assembler", name := "emit", desc := "()Z" } : Jvm.MethodName)) ∈ mx_T := List.mem_filter.mpr ⟨List.mem_append_right _ ((List.mem_append_right _ (List.mem_append_right _ (List.mem_append_left _ (List.mem_of_getElem? (l := tables_1_3) (i := 155) (by decide +kernel)))))), rfl⟩
theorem k_637 : (Jvm.Cond.instanceMethod ({ cls := "LittleMix$Assembler", name := "emit", desc := "()Z" } : Jvm.MethodName)) ∈ mx_T := List.mem_filter.mpr ⟨List.mem_append_right _ ((List.mem_append_right _ (List.mem_append_right _ (List.mem_append_left _ (List.mem_of_getElem? (l := tables_1_3) (i := 157) (by decide +kernel)))))), rfl⟩
theorem k_638 : (Jvm.Cond.code ({ cls := "LittleMix$Assembler", name := "emit", desc := "()Z" } : Jvm.MethodName) prog_3_method_9_code (2 : Nat) (Option.some Jvm.ClassFile.FieldType.boolean)) ∈ mx_T := List.mem_filter.mpr ⟨List.mem_append_right _ ((List.mem_append_right _ (List.mem_append_right _ (List.mem_append_left _ (List.mem_of_getElem? (l := tables_1_3) (i := 158) rfl))))), rfl⟩
theorem k_639 : (Jvm.Cond.methodLink "LittleMix$Assembler" (168 : Nat) ({ cls := "LittleMix$Operands", name := "encode", desc := "(IJ)Z" } : Jvm.MethodName)) ∈ mx_T := List.mem_filter.mpr ⟨List.mem_append_right _ ((List.mem_append_right _ (List.mem_append_right _ (List.mem_append_left _ (List.mem_of_getElem? (l := tables_1_3) (i := 159) (by decide +kernel)))))), rfl⟩
theorem k_640 : (Jvm.Cond.instanceMethod ({ cls := "LittleMix$Operands", name := "encode", desc := "(IJ)Z" } : Jvm.MethodName)) ∈ mx_T := List.mem_filter.mpr ⟨List.mem_append_right _ ((List.mem_append_right _ (List.mem_append_right _ (List.mem_append_left _ (List.mem_of_getElem? (l := tables_1_3) (i := 160) (by decide +kernel)))))), rfl⟩
theorem k_641 : (Jvm.Cond.selects "LittleMix$Operands" ({ cls := "LittleMix$Operands", name := "encode", desc := "(IJ)Z" } : Jvm.MethodName) ({ cls := "LittleMix$Operands", name := "encode", desc := "(IJ)Z" } : Jvm.MethodName)) ∈ mx_T := List.mem_filter.mpr ⟨List.mem_append_right _ ((List.mem_append_right _ (List.mem_append_right _ (List.mem_append_left _ (List.mem_of_getElem? (l := tables_1_3) (i := 161) (by decide +kernel)))))), rfl⟩
theorem k_642 : (Jvm.Cond.code ({ cls := "LittleMix$Operands", name := "encode", desc := "(IJ)Z" } : Jvm.MethodName) prog_8_method_4_code (4 : Nat) (Option.some Jvm.ClassFile.FieldType.boolean)) ∈ mx_T := List.mem_filter.mpr ⟨List.mem_append_right _ ((List.mem_append_right _ (List.mem_append_right _ (List.mem_append_left _ (List.mem_of_getElem? (l := tables_1_3) (i := 162) rfl))))), rfl⟩
theorem k_681 : (Jvm.Cond.methodLink "LittleMix$Assembler" (94 : Nat) ({ cls := "LittleMix$Labels", name := "tell", desc := "([J)I" } : Jvm.MethodName)) ∈ mx_T := List.mem_filter.mpr ⟨List.mem_append_right _ ((List.mem_append_right _ (List.mem_append_right _ (List.mem_append_left _ (List.mem_of_getElem? (l := tables_1_3) (i := 201) (by decide +kernel)))))), rfl⟩
theorem k_682 : (Jvm.Cond.instanceMethod ({ cls := "LittleMix$Labels", name := "tell", desc := "([J)I" } : Jvm.MethodName)) ∈ mx_T := List.mem_filter.mpr ⟨List.mem_append_right _ ((List.mem_append_right _ (List.mem_append_right _ (List.mem_append_left _ (List.mem_of_getElem? (l := tables_1_3) (i := 202) (by decide +kernel)))))), rfl⟩
theorem k_683 : (Jvm.Cond.selects "LittleMix$Labels" ({ cls := "LittleMix$Labels", name := "tell", desc := "([J)I" } : Jvm.MethodName) ({ cls := "LittleMix$Labels", name := "tell", desc := "([J)I" } : Jvm.MethodName)) ∈ mx_T := List.mem_filter.mpr ⟨List.mem_append_right _ ((List.mem_append_right _ (List.mem_append_right _ (List.mem_append_left _ (List.mem_of_getElem? (l := tables_1_3) (i := 203) (by decide +kernel)))))), rfl⟩
theorem k_684 : (Jvm.Cond.code ({ cls := "LittleMix$Labels", name := "tell", desc := "([J)I" } : Jvm.MethodName) prog_4_method_7_code (3 : Nat) (Option.some Jvm.ClassFile.FieldType.int)) ∈ mx_T := List.mem_filter.mpr ⟨List.mem_append_right _ ((List.mem_append_right _ (List.mem_append_right _ (List.mem_append_left _ (List.mem_of_getElem? (l := tables_1_3) (i := 204) rfl))))), rfl⟩
theorem sl_Asm_locates : Cond.selects y_Asm_locates.cls y_Asm_locates y_Asm_locates ∈ mx_T := List.mem_filter.mpr ⟨List.mem_append_left _ (by decide +kernel), by decide +kernel⟩
theorem sl_Asm_goOn : Cond.selects y_Asm_goOn.cls y_Asm_goOn y_Asm_goOn ∈ mx_T := List.mem_filter.mpr ⟨List.mem_append_left _ (by decide +kernel), by decide +kernel⟩
theorem sl_Asm_gather : Cond.selects y_Asm_gather.cls y_Asm_gather y_Asm_gather ∈ mx_T := List.mem_filter.mpr ⟨List.mem_append_left _ (by decide +kernel), by decide +kernel⟩
theorem sl_Asm_survey : Cond.selects y_Asm_survey.cls y_Asm_survey y_Asm_survey ∈ mx_T := List.mem_filter.mpr ⟨List.mem_append_left _ (by decide +kernel), by decide +kernel⟩
theorem sl_Asm_emit : Cond.selects y_Asm_emit.cls y_Asm_emit y_Asm_emit ∈ mx_T := List.mem_filter.mpr ⟨List.mem_append_left _ (by decide +kernel), by decide +kernel⟩
theorem d_Asm_emit_0 : decode b_Asm_emit 0 = .ok (.aload_n 0, 1) := by decide +kernel
theorem d_Asm_emit_1 : decode b_Asm_emit 1 = .ok (.getfield 12, 3) := by decide +kernel
theorem d_Asm_emit_4 : decode b_Asm_emit 4 = .ok (.getfield 134, 3) := by decide +kernel
theorem d_Asm_emit_7 : decode b_Asm_emit 7 = .ok (.ifCond .ne 5, 3) := by decide +kernel
theorem d_Asm_emit_10 : decode b_Asm_emit 10 = .ok (.iconst 0, 1) := by decide +kernel
theorem d_Asm_emit_11 : decode b_Asm_emit 11 = .ok (.ireturn, 1) := by decide +kernel
theorem d_Asm_emit_12 : decode b_Asm_emit 12 = .ok (.aload_n 0, 1) := by decide +kernel
theorem d_Asm_emit_13 : decode b_Asm_emit 13 = .ok (.getfield 45, 3) := by decide +kernel
theorem d_Asm_emit_16 : decode b_Asm_emit 16 = .ok (.getfield 98, 3) := by decide +kernel
theorem d_Asm_emit_19 : decode b_Asm_emit 19 = .ok (.invokestatic 122, 3) := by decide +kernel
theorem d_Asm_emit_22 : decode b_Asm_emit 22 = .ok (.ifCond .eq 32, 3) := by decide +kernel
theorem d_Asm_emit_25 : decode b_Asm_emit 25 = .ok (.aload_n 0, 1) := by decide +kernel
theorem d_Asm_emit_26 : decode b_Asm_emit 26 = .ok (.getfield 12, 3) := by decide +kernel
theorem d_Asm_emit_29 : decode b_Asm_emit 29 = .ok (.getfield 162, 3) := by decide +kernel
theorem d_Asm_emit_32 : decode b_Asm_emit 32 = .ok (.ifCond .le 17, 3) := by decide +kernel
theorem d_Asm_emit_35 : decode b_Asm_emit 35 = .ok (.aload_n 0, 1) := by decide +kernel
theorem d_Asm_emit_36 : decode b_Asm_emit 36 = .ok (.getfield 12, 3) := by decide +kernel
theorem d_Asm_emit_39 : decode b_Asm_emit 39 = .ok (.getfield 165, 3) := by decide +kernel
theorem d_Asm_emit_42 : decode b_Asm_emit 42 = .ok (.ifCond .ne 7, 3) := by decide +kernel
theorem d_Asm_emit_45 : decode b_Asm_emit 45 = .ok (.iconst 1, 1) := by decide +kernel
theorem d_Asm_emit_46 : decode b_Asm_emit 46 = .ok (.goto 4, 3) := by decide +kernel
theorem d_Asm_emit_49 : decode b_Asm_emit 49 = .ok (.iconst 0, 1) := by decide +kernel
theorem d_Asm_emit_50 : decode b_Asm_emit 50 = .ok (.istore_n 1, 1) := by decide +kernel
theorem d_Asm_emit_51 : decode b_Asm_emit 51 = .ok (.goto 77, 3) := by decide +kernel
theorem d_Asm_emit_54 : decode b_Asm_emit 54 = .ok (.aload_n 0, 1) := by decide +kernel
theorem d_Asm_emit_55 : decode b_Asm_emit 55 = .ok (.getfield 45, 3) := by decide +kernel
theorem d_Asm_emit_58 : decode b_Asm_emit 58 = .ok (.getfield 98, 3) := by decide +kernel
theorem d_Asm_emit_61 : decode b_Asm_emit 61 = .ok (.sipush 256, 3) := by decide +kernel
theorem d_Asm_emit_64 : decode b_Asm_emit 64 = .ok (.if_icmp .lt 23, 3) := by decide +kernel
theorem d_Asm_emit_67 : decode b_Asm_emit 67 = .ok (.aload_n 0, 1) := by decide +kernel
theorem d_Asm_emit_68 : decode b_Asm_emit 68 = .ok (.getfield 12, 3) := by decide +kernel
theorem d_Asm_emit_71 : decode b_Asm_emit 71 = .ok (.getfield 162, 3) := by decide +kernel
theorem d_Asm_emit_74 : decode b_Asm_emit 74 = .ok (.iconst 1, 1) := by decide +kernel
theorem d_Asm_emit_75 : decode b_Asm_emit 75 = .ok (.if_icmp .ne 7, 3) := by decide +kernel
theorem d_Asm_emit_78 : decode b_Asm_emit 78 = .ok (.iconst 1, 1) := by decide +kernel
theorem d_Asm_emit_79 : decode b_Asm_emit 79 = .ok (.goto 4, 3) := by decide +kernel
theorem d_Asm_emit_82 : decode b_Asm_emit 82 = .ok (.iconst 0, 1) := by decide +kernel
theorem d_Asm_emit_83 : decode b_Asm_emit 83 = .ok (.istore_n 1, 1) := by decide +kernel
theorem d_Asm_emit_84 : decode b_Asm_emit 84 = .ok (.goto 44, 3) := by decide +kernel
theorem d_Asm_emit_87 : decode b_Asm_emit 87 = .ok (.aload_n 0, 1) := by decide +kernel
theorem d_Asm_emit_88 : decode b_Asm_emit 88 = .ok (.getfield 12, 3) := by decide +kernel
theorem d_Asm_emit_91 : decode b_Asm_emit 91 = .ok (.aload_n 0, 1) := by decide +kernel
theorem d_Asm_emit_92 : decode b_Asm_emit 92 = .ok (.getfield 45, 3) := by decide +kernel
theorem d_Asm_emit_95 : decode b_Asm_emit 95 = .ok (.getfield 98, 3) := by decide +kernel
theorem d_Asm_emit_98 : decode b_Asm_emit 98 = .ok (.aload_n 0, 1) := by decide +kernel
theorem d_Asm_emit_99 : decode b_Asm_emit 99 = .ok (.invokevirtual 107, 3) := by decide +kernel
theorem d_Asm_emit_102 : decode b_Asm_emit 102 = .ok (.i2l, 1) := by decide +kernel
theorem d_Asm_emit_103 : decode b_Asm_emit 103 = .ok (.invokevirtual 168, 3) := by decide +kernel
theorem d_Asm_emit_106 : decode b_Asm_emit 106 = .ok (.istore_n 1, 1) := by decide +kernel
theorem d_Asm_emit_107 : decode b_Asm_emit 107 = .ok (.aload_n 0, 1) := by decide +kernel
theorem d_Asm_emit_108 : decode b_Asm_emit 108 = .ok (.getfield 27, 3) := by decide +kernel
theorem d_Asm_emit_111 : decode b_Asm_emit 111 = .ok (.aload_n 0, 1) := by decide +kernel
theorem d_Asm_emit_112 : decode b_Asm_emit 112 = .ok (.invokevirtual 107, 3) := by decide +kernel
theorem d_Asm_emit_115 : decode b_Asm_emit 115 = .ok (.i2l, 1) := by decide +kernel
theorem d_Asm_emit_116 : decode b_Asm_emit 116 = .ok (.iconst 4, 1) := by decide +kernel
theorem d_Asm_emit_117 : decode b_Asm_emit 117 = .ok (.aload_n 0, 1) := by decide +kernel
theorem d_Asm_emit_118 : decode b_Asm_emit 118 = .ok (.getfield 12, 3) := by decide +kernel
theorem d_Asm_emit_121 : decode b_Asm_emit 121 = .ok (.getfield 172, 3) := by decide +kernel
theorem d_Asm_emit_124 : decode b_Asm_emit 124 = .ok (.i2l, 1) := by decide +kernel
theorem d_Asm_emit_125 : decode b_Asm_emit 125 = .ok (.invokevirtual 130, 3) := by decide +kernel
theorem d_Asm_emit_128 : decode b_Asm_emit 128 = .ok (.aload_n 0, 1) := by decide +kernel
theorem d_Asm_emit_129 : decode b_Asm_emit 129 = .ok (.invokevirtual 157, 3) := by decide +kernel
theorem d_Asm_emit_132 : decode b_Asm_emit 132 = .ok (.iload_n 1, 1) := by decide +kernel
theorem d_Asm_emit_133 : decode b_Asm_emit 133 = .ok (.ireturn, 1) := by decide +kernel
theorem d_Asm_survey_0 : decode b_Asm_survey 0 = .ok (.aload_n 0, 1) := by decide +kernel
theorem d_Asm_survey_1 : decode b_Asm_survey 1 = .ok (.getfield 45, 3) := by decide +kernel
theorem d_Asm_survey_4 : decode b_Asm_survey 4 = .ok (.getfield 98, 3) := by decide +kernel
theorem d_Asm_survey_7 : decode b_Asm_survey 7 = .ok (.sipush 256, 3) := by decide +kernel
theorem d_Asm_survey_10 : decode b_Asm_survey 10 = .ok (.if_icmp .ne 7, 3) := by decide +kernel
theorem d_Asm_survey_13 : decode b_Asm_survey 13 = .ok (.iconst 1, 1) := by decide +kernel
theorem d_Asm_survey_14 : decode b_Asm_survey 14 = .ok (.goto 4, 3) := by decide +kernel
theorem d_Asm_survey_17 : decode b_Asm_survey 17 = .ok (.iconst 0, 1) := by decide +kernel
theorem d_Asm_survey_18 : decode b_Asm_survey 18 = .ok (.istore_n 1, 1) := by decide +kernel
theorem d_Asm_survey_19 : decode b_Asm_survey 19 = .ok (.iload_n 1, 1) := by decide +kernel
theorem d_Asm_survey_20 : decode b_Asm_survey 20 = .ok (.ifCond .ne 16, 3) := by decide +kernel
theorem d_Asm_survey_23 : decode b_Asm_survey 23 = .ok (.aload_n 0, 1) := by decide +kernel
theorem d_Asm_survey_24 : decode b_Asm_survey 24 = .ok (.getfield 45, 3) := by decide +kernel
theorem d_Asm_survey_27 : decode b_Asm_survey 27 = .ok (.getfield 98, 3) := by decide +kernel
theorem d_Asm_survey_30 : decode b_Asm_survey 30 = .ok (.sipush 257, 3) := by decide +kernel
theorem d_Asm_survey_33 : decode b_Asm_survey 33 = .ok (.if_icmp .ne 15, 3) := by decide +kernel
theorem d_Asm_survey_36 : decode b_Asm_survey 36 = .ok (.aload_n 0, 1) := by decide +kernel
theorem d_Asm_survey_37 : decode b_Asm_survey 37 = .ok (.getfield 12, 3) := by decide +kernel
theorem d_Asm_survey_40 : decode b_Asm_survey 40 = .ok (.getfield 134, 3) := by decide +kernel
theorem d_Asm_survey_43 : decode b_Asm_survey 43 = .ok (.ifCond .ne 5, 3) := by decide +kernel
theorem d_Asm_survey_46 : decode b_Asm_survey 46 = .ok (.iconst 0, 1) := by decide +kernel
theorem d_Asm_survey_47 : decode b_Asm_survey 47 = .ok (.ireturn, 1) := by decide +kernel
theorem d_Asm_survey_48 : decode b_Asm_survey 48 = .ok (.aload_n 0, 1) := by decide +kernel
theorem d_Asm_survey_49 : decode b_Asm_survey 49 = .ok (.getfield 45, 3) := by decide +kernel
theorem d_Asm_survey_52 : decode b_Asm_survey 52 = .ok (.getfield 98, 3) := by decide +kernel
theorem d_Asm_survey_55 : decode b_Asm_survey 55 = .ok (.sipush 257, 3) := by decide +kernel
theorem d_Asm_survey_58 : decode b_Asm_survey 58 = .ok (.if_icmp .ne 12, 3) := by decide +kernel
theorem d_Asm_survey_61 : decode b_Asm_survey 61 = .ok (.aload_n 0, 1) := by decide +kernel
theorem d_Asm_survey_62 : decode b_Asm_survey 62 = .ok (.invokevirtual 138, 3) := by decide +kernel
theorem d_Asm_survey_65 : decode b_Asm_survey 65 = .ok (.ifCond .ne 5, 3) := by decide +kernel
theorem d_Asm_survey_68 : decode b_Asm_survey 68 = .ok (.iconst 0, 1) := by decide +kernel
theorem d_Asm_survey_69 : decode b_Asm_survey 69 = .ok (.ireturn, 1) := by decide +kernel
theorem d_Asm_survey_70 : decode b_Asm_survey 70 = .ok (.aload_n 0, 1) := by decide +kernel
theorem d_Asm_survey_71 : decode b_Asm_survey 71 = .ok (.getfield 45, 3) := by decide +kernel
theorem d_Asm_survey_74 : decode b_Asm_survey 74 = .ok (.getfield 141, 3) := by decide +kernel
theorem d_Asm_survey_77 : decode b_Asm_survey 77 = .ok (.ifCond .le 73, 3) := by decide +kernel
theorem d_Asm_survey_80 : decode b_Asm_survey 80 = .ok (.iload_n 1, 1) := by decide +kernel
theorem d_Asm_survey_81 : decode b_Asm_survey 81 = .ok (.ifCond .eq 15, 3) := by decide +kernel
theorem d_Asm_survey_84 : decode b_Asm_survey 84 = .ok (.aload_n 0, 1) := by decide +kernel
theorem d_Asm_survey_85 : decode b_Asm_survey 85 = .ok (.getfield 12, 3) := by decide +kernel
theorem d_Asm_survey_88 : decode b_Asm_survey 88 = .ok (.getfield 144, 3) := by decide +kernel
theorem d_Asm_survey_91 : decode b_Asm_survey 91 = .ok (.iconst 0, 1) := by decide +kernel
theorem d_Asm_survey_92 : decode b_Asm_survey 92 = .ok (.laload, 1) := by decide +kernel
theorem d_Asm_survey_93 : decode b_Asm_survey 93 = .ok (.goto 8, 3) := by decide +kernel
theorem d_Asm_survey_96 : decode b_Asm_survey 96 = .ok (.aload_n 0, 1) := by decide +kernel
theorem d_Asm_survey_97 : decode b_Asm_survey 97 = .ok (.invokevirtual 107, 3) := by decide +kernel
theorem d_Asm_survey_100 : decode b_Asm_survey 100 = .ok (.i2l, 1) := by decide +kernel
theorem d_Asm_survey_101 : decode b_Asm_survey 101 = .ok (.lstore_n 2, 1) := by decide +kernel
theorem d_Asm_survey_102 : decode b_Asm_survey 102 = .ok (.aload_n 0, 1) := by decide +kernel
theorem d_Asm_survey_103 : decode b_Asm_survey 103 = .ok (.getfield 38, 3) := by decide +kernel
theorem d_Asm_survey_106 : decode b_Asm_survey 106 = .ok (.aload_n 0, 1) := by decide +kernel
theorem d_Asm_survey_107 : decode b_Asm_survey 107 = .ok (.getfield 45, 3) := by decide +kernel
theorem d_Asm_survey_110 : decode b_Asm_survey 110 = .ok (.getfield 147, 3) := by decide +kernel
theorem d_Asm_survey_113 : decode b_Asm_survey 113 = .ok (.aload_n 0, 1) := by decide +kernel
theorem d_Asm_survey_114 : decode b_Asm_survey 114 = .ok (.getfield 45, 3) := by decide +kernel
theorem d_Asm_survey_117 : decode b_Asm_survey 117 = .ok (.getfield 141, 3) := by decide +kernel
theorem d_Asm_survey_120 : decode b_Asm_survey 120 = .ok (.iload_n 1, 1) := by decide +kernel
theorem d_Asm_survey_121 : decode b_Asm_survey 121 = .ok (.ifCond .eq 19, 3) := by decide +kernel
theorem d_Asm_survey_124 : decode b_Asm_survey 124 = .ok (.aload_n 0, 1) := by decide +kernel
theorem d_Asm_survey_125 : decode b_Asm_survey 125 = .ok (.getfield 12, 3) := by decide +kernel
theorem d_Asm_survey_128 : decode b_Asm_survey 128 = .ok (.getfield 150, 3) := by decide +kernel
theorem d_Asm_survey_131 : decode b_Asm_survey 131 = .ok (.iconst 0, 1) := by decide +kernel
theorem d_Asm_survey_132 : decode b_Asm_survey 132 = .ok (.baload, 1) := by decide +kernel
theorem d_Asm_survey_133 : decode b_Asm_survey 133 = .ok (.ifCond .eq 7, 3) := by decide +kernel
theorem d_Asm_survey_136 : decode b_Asm_survey 136 = .ok (.iconst 1, 1) := by decide +kernel
theorem d_Asm_survey_137 : decode b_Asm_survey 137 = .ok (.goto 4, 3) := by decide +kernel
theorem d_Asm_survey_140 : decode b_Asm_survey 140 = .ok (.iconst 0, 1) := by decide +kernel
theorem d_Asm_survey_141 : decode b_Asm_survey 141 = .ok (.lload_n 2, 1) := by decide +kernel
theorem d_Asm_survey_142 : decode b_Asm_survey 142 = .ok (.invokevirtual 154, 3) := by decide +kernel
theorem d_Asm_survey_145 : decode b_Asm_survey 145 = .ok (.ifCond .ne 5, 3) := by decide +kernel
theorem d_Asm_survey_148 : decode b_Asm_survey 148 = .ok (.iconst 0, 1) := by decide +kernel
theorem d_Asm_survey_149 : decode b_Asm_survey 149 = .ok (.ireturn, 1) := by decide +kernel
theorem d_Asm_survey_150 : decode b_Asm_survey 150 = .ok (.aload_n 0, 1) := by decide +kernel
theorem d_Asm_survey_151 : decode b_Asm_survey 151 = .ok (.invokevirtual 157, 3) := by decide +kernel
theorem d_Asm_survey_154 : decode b_Asm_survey 154 = .ok (.aload_n 0, 1) := by decide +kernel
theorem d_Asm_survey_155 : decode b_Asm_survey 155 = .ok (.getfield 67, 3) := by decide +kernel
theorem d_Asm_survey_158 : decode b_Asm_survey 158 = .ok (.sipush 4096, 3) := by decide +kernel
theorem d_Asm_survey_161 : decode b_Asm_survey 161 = .ok (.if_icmp .gt 17, 3) := by decide +kernel
theorem d_Asm_survey_164 : decode b_Asm_survey 164 = .ok (.aload_n 0, 1) := by decide +kernel
theorem d_Asm_survey_165 : decode b_Asm_survey 165 = .ok (.getfield 70, 3) := by decide +kernel
theorem d_Asm_survey_168 : decode b_Asm_survey 168 = .ok (.sipush 160, 3) := by decide +kernel
theorem d_Asm_survey_171 : decode b_Asm_survey 171 = .ok (.if_icmp .gt 7, 3) := by decide +kernel
theorem d_Asm_survey_174 : decode b_Asm_survey 174 = .ok (.iconst 1, 1) := by decide +kernel
theorem d_Asm_survey_175 : decode b_Asm_survey 175 = .ok (.goto 4, 3) := by decide +kernel
theorem d_Asm_survey_178 : decode b_Asm_survey 178 = .ok (.iconst 0, 1) := by decide +kernel
theorem d_Asm_survey_179 : decode b_Asm_survey 179 = .ok (.ireturn, 1) := by decide +kernel
theorem d_Asm_translate_0 : decode b_Asm_translate 0 = .ok (.aload_n 0, 1) := by decide +kernel
theorem d_Asm_translate_1 : decode b_Asm_translate 1 = .ok (.getfield 38, 3) := by decide +kernel
theorem d_Asm_translate_4 : decode b_Asm_translate 4 = .ok (.invokevirtual 63, 3) := by decide +kernel
theorem d_Asm_translate_7 : decode b_Asm_translate 7 = .ok (.aload_n 0, 1) := by decide +kernel
theorem d_Asm_translate_8 : decode b_Asm_translate 8 = .ok (.getfield 27, 3) := by decide +kernel
theorem d_Asm_translate_11 : decode b_Asm_translate 11 = .ok (.invokevirtual 66, 3) := by decide +kernel
theorem d_Asm_translate_14 : decode b_Asm_translate 14 = .ok (.aload_n 0, 1) := by decide +kernel
theorem d_Asm_translate_15 : decode b_Asm_translate 15 = .ok (.iconst (-1), 1) := by decide +kernel
theorem d_Asm_translate_16 : decode b_Asm_translate 16 = .ok (.putfield 31, 3) := by decide +kernel
theorem d_Asm_translate_19 : decode b_Asm_translate 19 = .ok (.iconst 0, 1) := by decide +kernel
theorem d_Asm_translate_20 : decode b_Asm_translate 20 = .ok (.istore_n 2, 1) := by decide +kernel
theorem d_Asm_translate_21 : decode b_Asm_translate 21 = .ok (.iload_n 2, 1) := by decide +kernel
theorem d_Asm_translate_22 : decode b_Asm_translate 22 = .ok (.iconst 2, 1) := by decide +kernel
theorem d_Asm_translate_23 : decode b_Asm_translate 23 = .ok (.if_icmp .ge 160, 3) := by decide +kernel
theorem d_Asm_translate_26 : decode b_Asm_translate 26 = .ok (.aload_n 0, 1) := by decide +kernel
theorem d_Asm_translate_27 : decode b_Asm_translate 27 = .ok (.getfield 31, 3) := by decide +kernel
theorem d_Asm_translate_30 : decode b_Asm_translate 30 = .ok (.iconst (-1), 1) := by decide +kernel
theorem d_Asm_translate_31 : decode b_Asm_translate 31 = .ok (.if_icmp .ne 152, 3) := by decide +kernel
theorem d_Asm_translate_34 : decode b_Asm_translate 34 = .ok (.iload_n 2, 1) := by decide +kernel
theorem d_Asm_translate_35 : decode b_Asm_translate 35 = .ok (.ifCond .ne 7, 3) := by decide +kernel
theorem d_Asm_translate_38 : decode b_Asm_translate 38 = .ok (.iconst 1, 1) := by decide +kernel
theorem d_Asm_translate_39 : decode b_Asm_translate 39 = .ok (.goto 4, 3) := by decide +kernel
theorem d_Asm_translate_42 : decode b_Asm_translate 42 = .ok (.iconst 0, 1) := by decide +kernel
theorem d_Asm_translate_43 : decode b_Asm_translate 43 = .ok (.istore_n 3, 1) := by decide +kernel
theorem d_Asm_translate_44 : decode b_Asm_translate 44 = .ok (.aload_n 0, 1) := by decide +kernel
theorem d_Asm_translate_45 : decode b_Asm_translate 45 = .ok (.sipush 256, 3) := by decide +kernel
theorem d_Asm_translate_48 : decode b_Asm_translate 48 = .ok (.putfield 67, 3) := by decide +kernel
theorem d_Asm_translate_51 : decode b_Asm_translate 51 = .ok (.aload_n 0, 1) := by decide +kernel
theorem d_Asm_translate_52 : decode b_Asm_translate 52 = .ok (.iconst 0, 1) := by decide +kernel
theorem d_Asm_translate_53 : decode b_Asm_translate 53 = .ok (.putfield 70, 3) := by decide +kernel
theorem d_Asm_translate_56 : decode b_Asm_translate 56 = .ok (.iconst 0, 1) := by decide +kernel
theorem d_Asm_translate_57 : decode b_Asm_translate 57 = .ok (.istore 4, 2) := by decide +kernel
theorem d_Asm_translate_59 : decode b_Asm_translate 59 = .ok (.iconst 0, 1) := by decide +kernel
theorem d_Asm_translate_60 : decode b_Asm_translate 60 = .ok (.istore 5, 2) := by decide +kernel
theorem d_Asm_translate_62 : decode b_Asm_translate 62 = .ok (.iload 5, 2) := by decide +kernel
theorem d_Asm_translate_64 : decode b_Asm_translate 64 = .ok (.iload_n 1, 1) := by decide +kernel
theorem d_Asm_translate_65 : decode b_Asm_translate 65 = .ok (.if_icmp .ge 112, 3) := by decide +kernel
theorem d_Asm_translate_68 : decode b_Asm_translate 68 = .ok (.iload 4, 2) := by decide +kernel
theorem d_Asm_translate_70 : decode b_Asm_translate 70 = .ok (.iload_n 1, 1) := by decide +kernel
theorem d_Asm_translate_71 : decode b_Asm_translate 71 = .ok (.if_icmp .ge 106, 3) := by decide +kernel
theorem d_Asm_translate_74 : decode b_Asm_translate 74 = .ok (.aload_n 0, 1) := by decide +kernel
theorem d_Asm_translate_75 : decode b_Asm_translate 75 = .ok (.getfield 31, 3) := by decide +kernel
theorem d_Asm_translate_78 : decode b_Asm_translate 78 = .ok (.iconst (-1), 1) := by decide +kernel
theorem d_Asm_translate_79 : decode b_Asm_translate 79 = .ok (.if_icmp .ne 98, 3) := by decide +kernel
theorem d_Asm_translate_82 : decode b_Asm_translate 82 = .ok (.aload_n 0, 1) := by decide +kernel
theorem d_Asm_translate_83 : decode b_Asm_translate 83 = .ok (.getfield 45, 3) := by decide +kernel
theorem d_Asm_translate_86 : decode b_Asm_translate 86 = .ok (.iload 4, 2) := by decide +kernel
theorem d_Asm_translate_88 : decode b_Asm_translate 88 = .ok (.iload_n 1, 1) := by decide +kernel
theorem d_Asm_translate_89 : decode b_Asm_translate 89 = .ok (.invokevirtual 73, 3) := by decide +kernel
theorem d_Asm_translate_92 : decode b_Asm_translate 92 = .ok (.istore 6, 2) := by decide +kernel
theorem d_Asm_translate_94 : decode b_Asm_translate 94 = .ok (.iload 6, 2) := by decide +kernel
theorem d_Asm_translate_96 : decode b_Asm_translate 96 = .ok (.ifCond .eq 49, 3) := by decide +kernel
theorem d_Asm_translate_99 : decode b_Asm_translate 99 = .ok (.aload_n 0, 1) := by decide +kernel
theorem d_Asm_translate_100 : decode b_Asm_translate 100 = .ok (.getfield 45, 3) := by decide +kernel
theorem d_Asm_translate_103 : decode b_Asm_translate 103 = .ok (.invokevirtual 77, 3) := by decide +kernel
theorem d_Asm_translate_106 : decode b_Asm_translate 106 = .ok (.ifCond .ne 39, 3) := by decide +kernel
theorem d_Asm_translate_109 : decode b_Asm_translate 109 = .ok (.aload_n 0, 1) := by decide +kernel
theorem d_Asm_translate_110 : decode b_Asm_translate 110 = .ok (.iload_n 3, 1) := by decide +kernel
theorem d_Asm_translate_111 : decode b_Asm_translate 111 = .ok (.invokevirtual 81, 3) := by decide +kernel
theorem d_Asm_translate_114 : decode b_Asm_translate 114 = .ok (.ifCond .eq 28, 3) := by decide +kernel
theorem d_Asm_translate_117 : decode b_Asm_translate 117 = .ok (.iload_n 3, 1) := by decide +kernel
theorem d_Asm_translate_118 : decode b_Asm_translate 118 = .ok (.ifCond .eq 13, 3) := by decide +kernel
theorem d_Asm_translate_121 : decode b_Asm_translate 121 = .ok (.aload_n 0, 1) := by decide +kernel
theorem d_Asm_translate_122 : decode b_Asm_translate 122 = .ok (.invokevirtual 85, 3) := by decide +kernel
theorem d_Asm_translate_125 : decode b_Asm_translate 125 = .ok (.ifCond .eq 17, 3) := by decide +kernel
theorem d_Asm_translate_128 : decode b_Asm_translate 128 = .ok (.goto 10, 3) := by decide +kernel
theorem d_Asm_translate_131 : decode b_Asm_translate 131 = .ok (.aload_n 0, 1) := by decide +kernel
theorem d_Asm_translate_132 : decode b_Asm_translate 132 = .ok (.invokevirtual 88, 3) := by decide +kernel
theorem d_Asm_translate_135 : decode b_Asm_translate 135 = .ok (.ifCond .eq 7, 3) := by decide +kernel
theorem d_Asm_translate_138 : decode b_Asm_translate 138 = .ok (.iconst 1, 1) := by decide +kernel
theorem d_Asm_translate_139 : decode b_Asm_translate 139 = .ok (.goto 4, 3) := by decide +kernel
theorem d_Asm_translate_142 : decode b_Asm_translate 142 = .ok (.iconst 0, 1) := by decide +kernel
theorem d_Asm_translate_143 : decode b_Asm_translate 143 = .ok (.istore 6, 2) := by decide +kernel
theorem d_Asm_translate_145 : decode b_Asm_translate 145 = .ok (.aload_n 0, 1) := by decide +kernel
theorem d_Asm_translate_146 : decode b_Asm_translate 146 = .ok (.iload 6, 2) := by decide +kernel
theorem d_Asm_translate_148 : decode b_Asm_translate 148 = .ok (.ifCond .eq 7, 3) := by decide +kernel
theorem d_Asm_translate_151 : decode b_Asm_translate 151 = .ok (.iconst (-1), 1) := by decide +kernel
theorem d_Asm_translate_152 : decode b_Asm_translate 152 = .ok (.goto 5, 3) := by decide +kernel
theorem d_Asm_translate_155 : decode b_Asm_translate 155 = .ok (.iload 5, 2) := by decide +kernel
