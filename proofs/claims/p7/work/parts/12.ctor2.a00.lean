abbrev b_Asm_init : ByteArray := prog_3_method_1_code
abbrev b_Lin_init : ByteArray := prog_5_method_1_code
abbrev b_Mix_init : ByteArray := prog_1_method_1_code
abbrev b_Opn_init : ByteArray := prog_9_method_1_code
abbrev y_Asm_init : MethodName := ⟨"LittleMix$Assembler", "<init>", "([C)V"⟩
abbrev y_Lin_init : MethodName := ⟨"LittleMix$Line", "<init>", "([C)V"⟩
abbrev y_Mix_init : MethodName := ⟨"LittleMix", "<init>", "()V"⟩
abbrev y_Opn_init : MethodName := ⟨"LittleMix$Operations", "<init>", "()V"⟩
theorem p_Asm_init : y_Asm_init.cls ≠ "java/lang/invoke/MethodHandle" ∧ y_Asm_init.cls ≠ "java/lang/invoke/VarHandle" ∧ (parseMethodDescriptor y_Asm_init.desc).map (fun d => d.parameters.length) = some 1 := by decide +kernel
theorem p_Lab_init : y_Lab_init.cls ≠ "java/lang/invoke/MethodHandle" ∧ y_Lab_init.cls ≠ "java/lang/invoke/VarHandle" ∧ (parseMethodDescriptor y_Lab_init.desc).map (fun d => d.parameters.length) = some 1 := by decide +kernel
theorem p_Lin_init : y_Lin_init.cls ≠ "java/lang/invoke/MethodHandle" ∧ y_Lin_init.cls ≠ "java/lang/invoke/VarHandle" ∧ (parseMethodDescriptor y_Lin_init.desc).map (fun d => d.parameters.length) = some 1 := by decide +kernel
theorem p_Mac_init : y_Mac_init.cls ≠ "java/lang/invoke/MethodHandle" ∧ y_Mac_init.cls ≠ "java/lang/invoke/VarHandle" ∧ (parseMethodDescriptor y_Mac_init.desc).map (fun d => d.parameters.length) = some 2 := by decide +kernel
theorem p_Mem_init : y_Mem_init.cls ≠ "java/lang/invoke/MethodHandle" ∧ y_Mem_init.cls ≠ "java/lang/invoke/VarHandle" ∧ (parseMethodDescriptor y_Mem_init.desc).map (fun d => d.parameters.length) = some 0 := by decide +kernel
theorem p_Opd_init : y_Opd_init.cls ≠ "java/lang/invoke/MethodHandle" ∧ y_Opd_init.cls ≠ "java/lang/invoke/VarHandle" ∧ (parseMethodDescriptor y_Opd_init.desc).map (fun d => d.parameters.length) = some 0 := by decide +kernel
theorem p_Opn_init : y_Opn_init.cls ≠ "java/lang/invoke/MethodHandle" ∧ y_Opn_init.cls ≠ "java/lang/invoke/VarHandle" ∧ (parseMethodDescriptor y_Opn_init.desc).map (fun d => d.parameters.length) = some 0 := by decide +kernel
theorem p_Opn_learn : y_Opn_learn.cls ≠ "java/lang/invoke/MethodHandle" ∧ y_Opn_learn.cls ≠ "java/lang/invoke/VarHandle" ∧ (parseMethodDescriptor y_Opn_learn.desc).map (fun d => d.parameters.length) = some 3 := by decide +kernel
theorem p_Reg_init : y_Reg_init.cls ≠ "java/lang/invoke/MethodHandle" ∧ y_Reg_init.cls ≠ "java/lang/invoke/VarHandle" ∧ (parseMethodDescriptor y_Reg_init.desc).map (fun d => d.parameters.length) = some 0 := by decide +kernel
theorem p_Sum_init : y_Sum_init.cls ≠ "java/lang/invoke/MethodHandle" ∧ y_Sum_init.cls ≠ "java/lang/invoke/VarHandle" ∧ (parseMethodDescriptor y_Sum_init.desc).map (fun d => d.parameters.length) = some 2 := by decide +kernel
theorem k_2 : (Jvm.Cond.initialized "LittleMix$Memory") ∈ mx_T := List.mem_filter.mpr ⟨List.mem_append_right _ ((List.mem_append_left _ (List.mem_of_getElem? (l := tables_1_1) (i := 2) (by decide +kernel)))), rfl⟩
theorem k_3 : (Jvm.Cond.initialized "LittleMix$Registers") ∈ mx_T := List.mem_filter.mpr ⟨List.mem_append_right _ ((List.mem_append_left _ (List.mem_of_getElem? (l := tables_1_1) (i := 3) (by decide +kernel)))), rfl⟩
theorem k_4 : (Jvm.Cond.initialized "LittleMix$Assembler") ∈ mx_T := List.mem_filter.mpr ⟨List.mem_append_right _ ((List.mem_append_left _ (List.mem_of_getElem? (l := tables_1_1) (i := 4) (by decide +kernel)))), rfl⟩
theorem k_5 : (Jvm.Cond.initialized "LittleMix$Operands") ∈ mx_T := List.mem_filter.mpr ⟨List.mem_append_right _ ((List.mem_append_left _ (List.mem_of_getElem? (l := tables_1_1) (i := 5) (by decide +kernel)))), rfl⟩
theorem k_6 : (Jvm.Cond.initialized "LittleMix$Labels") ∈ mx_T := List.mem_filter.mpr ⟨List.mem_append_right _ ((List.mem_append_left _ (List.mem_of_getElem? (l := tables_1_1) (i := 6) (by decide +kernel)))), rfl⟩
theorem k_7 : (Jvm.Cond.initialized "LittleMix$Line") ∈ mx_T := List.mem_filter.mpr ⟨List.mem_append_right _ ((List.mem_append_left _ (List.mem_of_getElem? (l := tables_1_1) (i := 7) (by decide +kernel)))), rfl⟩
theorem k_8 : (Jvm.Cond.initialized "LittleMix$Operations") ∈ mx_T := List.mem_filter.mpr ⟨List.mem_append_right _ ((List.mem_append_left _ (List.mem_of_getElem? (l := tables_1_1) (i := 8) (by decide +kernel)))), rfl⟩
theorem k_13 : (Jvm.Cond.initialized "LittleMix$Sum") ∈ mx_T := List.mem_filter.mpr ⟨List.mem_append_right _ ((List.mem_append_left _ (List.mem_of_getElem? (l := tables_1_1) (i := 13) (by decide +kernel)))), rfl⟩
theorem k_14 : (Jvm.Cond.initialized "LittleMix$Machine") ∈ mx_T := List.mem_filter.mpr ⟨List.mem_append_right _ ((List.mem_append_left _ (List.mem_of_getElem? (l := tables_1_1) (i := 14) (by decide +kernel)))), rfl⟩
theorem k_27 : (Jvm.Cond.methodLink "LittleMix" (1 : Nat) ({ cls := "java/lang/Object", name := "<init>", desc := "()V" } : Jvm.MethodName)) ∈ mx_T := List.mem_filter.mpr ⟨List.mem_append_right _ ((List.mem_append_left _ (List.mem_of_getElem? (l := tables_1_1) (i := 27) (by decide +kernel)))), rfl⟩
theorem k_30 : (Jvm.Cond.classLink "LittleMix" (13 : Nat) "LittleMix$Memory") ∈ mx_T := List.mem_filter.mpr ⟨List.mem_append_right _ ((List.mem_append_left _ (List.mem_of_getElem? (l := tables_1_1) (i := 30) (by decide +kernel)))), rfl⟩
theorem k_31 : (Jvm.Cond.instantiable "LittleMix$Memory" (1 : Nat)) ∈ mx_T := List.mem_filter.mpr ⟨List.mem_append_right _ ((List.mem_append_left _ (List.mem_of_getElem? (l := tables_1_1) (i := 31) (by decide +kernel)))), rfl⟩
theorem k_32 : (Jvm.Cond.methodLinkNest "LittleMix" (15 : Nat) ({ cls := "LittleMix$Memory", name := "<init>", desc := "()V" } : Jvm.MethodName) "LittleMix") ∈ mx_Ns := List.mem_filter.mpr ⟨(List.mem_append_left _ (List.mem_of_getElem? (l := tables_1_1) (i := 32) (by decide +kernel))), rfl⟩
theorem k_33 : (Jvm.Cond.instanceMethod ({ cls := "LittleMix$Memory", name := "<init>", desc := "()V" } : Jvm.MethodName)) ∈ mx_T := List.mem_filter.mpr ⟨List.mem_append_right _ ((List.mem_append_left _ (List.mem_of_getElem? (l := tables_1_1) (i := 33) (by decide +kernel)))), rfl⟩
theorem k_34 : (Jvm.Cond.code ({ cls := "LittleMix$Memory", name := "<init>", desc := "()V" } : Jvm.MethodName) prog_7_method_1_code (1 : Nat) (Option.none : Option Jvm.ClassFile.FieldType)) ∈ mx_T := List.mem_filter.mpr ⟨List.mem_append_right _ ((List.mem_append_left _ (List.mem_of_getElem? (l := tables_1_1) (i := 34) rfl))), rfl⟩
theorem k_40 : (Jvm.Cond.arrayClass Jvm.ClassFile.FieldType.char) ∈ mx_T := List.mem_filter.mpr ⟨List.mem_append_right _ ((List.mem_append_left _ (List.mem_of_getElem? (l := tables_1_1) (i := 40) (by decide +kernel)))), rfl⟩
theorem k_42 : (Jvm.Cond.classLink "LittleMix" (20 : Nat) "LittleMix$Registers") ∈ mx_T := List.mem_filter.mpr ⟨List.mem_append_right _ ((List.mem_append_left _ (List.mem_of_getElem? (l := tables_1_1) (i := 42) (by decide +kernel)))), rfl⟩
theorem k_43 : (Jvm.Cond.instantiable "LittleMix$Registers" (6 : Nat)) ∈ mx_T := List.mem_filter.mpr ⟨List.mem_append_right _ ((List.mem_append_left _ (List.mem_of_getElem? (l := tables_1_1) (i := 43) (by decide +kernel)))), rfl⟩
theorem k_44 : (Jvm.Cond.methodLinkNest "LittleMix" (22 : Nat) ({ cls := "LittleMix$Registers", name := "<init>", desc := "()V" } : Jvm.MethodName) "LittleMix") ∈ mx_Ns := List.mem_filter.mpr ⟨(List.mem_append_left _ (List.mem_of_getElem? (l := tables_1_1) (i := 44) (by decide +kernel))), rfl⟩
theorem k_45 : (Jvm.Cond.instanceMethod ({ cls := "LittleMix$Registers", name := "<init>", desc := "()V" } : Jvm.MethodName)) ∈ mx_T := List.mem_filter.mpr ⟨List.mem_append_right _ ((List.mem_append_left _ (List.mem_of_getElem? (l := tables_1_1) (i := 45) (by decide +kernel)))), rfl⟩
theorem k_46 : (Jvm.Cond.code ({ cls := "LittleMix$Registers", name := "<init>", desc := "()V" } : Jvm.MethodName) prog_10_method_1_code (1 : Nat) (Option.none : Option Jvm.ClassFile.FieldType)) ∈ mx_T := List.mem_filter.mpr ⟨List.mem_append_right _ ((List.mem_append_left _ (List.mem_of_getElem? (l := tables_1_1) (i := 46) rfl))), rfl⟩
theorem k_68 : (Jvm.Cond.classLink "LittleMix" (27 : Nat) "LittleMix$Assembler") ∈ mx_T := List.mem_filter.mpr ⟨List.mem_append_right _ ((List.mem_append_left _ (List.mem_of_getElem? (l := tables_1_1) (i := 68) (by decide +kernel)))), rfl⟩
theorem k_69 : (Jvm.Cond.instantiable "LittleMix$Assembler" (10 : Nat)) ∈ mx_T := List.mem_filter.mpr ⟨List.mem_append_right _ ((List.mem_append_left _ (List.mem_of_getElem? (l := tables_1_1) (i := 69) (by decide +kernel)))), rfl⟩
theorem k_70 : (Jvm.Cond.methodLink "LittleMix" (29 : Nat) ({ cls := "LittleMix$Assembler", name := "<init>", desc := "([C)V" } : Jvm.MethodName)) ∈ mx_T := List.mem_filter.mpr ⟨List.mem_append_right _ ((List.mem_append_left _ (List.mem_of_getElem? (l := tables_1_1) (i := 70) (by decide +kernel)))), rfl⟩
theorem k_71 : (Jvm.Cond.instanceMethod ({ cls := "LittleMix$Assembler", name := "<init>", desc := "([C)V" } : Jvm.MethodName)) ∈ mx_T := List.mem_filter.mpr ⟨List.mem_append_right _ ((List.mem_append_left _ (List.mem_of_getElem? (l := tables_1_1) (i := 71) (by decide +kernel)))), rfl⟩
theorem k_72 : (Jvm.Cond.code ({ cls := "LittleMix$Assembler", name := "<init>", desc := "([C)V" } : Jvm.MethodName) prog_3_method_1_code (2 : Nat) (Option.none : Option Jvm.ClassFile.FieldType)) ∈ mx_T := List.mem_filter.mpr ⟨List.mem_append_right _ ((List.mem_append_left _ (List.mem_of_getElem? (l := tables_1_1) (i := 72) rfl))), rfl⟩
theorem k_73 : (Jvm.Cond.methodLink "LittleMix$Assembler" (3 : Nat) ({ cls := "java/lang/Object", name := "<init>", desc := "()V" } : Jvm.MethodName)) ∈ mx_T := List.mem_filter.mpr ⟨List.mem_append_right _ ((List.mem_append_left _ (List.mem_of_getElem? (l := tables_1_1) (i := 73) (by decide +kernel)))), rfl⟩
theorem k_74 : (Jvm.Cond.classLink "LittleMix$Assembler" (9 : Nat) "LittleMix$Operands") ∈ mx_T := List.mem_filter.mpr ⟨List.mem_append_right _ ((List.mem_append_left _ (List.mem_of_getElem? (l := tables_1_1) (i := 74) (by decide +kernel)))), rfl⟩
theorem k_75 : (Jvm.Cond.instantiable "LittleMix$Operands" (6 : Nat)) ∈ mx_T := List.mem_filter.mpr ⟨List.mem_append_right _ ((List.mem_append_left _ (List.mem_of_getElem? (l := tables_1_1) (i := 75) (by decide +kernel)))), rfl⟩
theorem k_76 : (Jvm.Cond.methodLinkNest "LittleMix$Assembler" (11 : Nat) ({ cls := "LittleMix$Operands", name := "<init>", desc := "()V" } : Jvm.MethodName) "LittleMix") ∈ mx_Ns := List.mem_filter.mpr ⟨(List.mem_append_left _ (List.mem_of_getElem? (l := tables_1_1) (i := 76) (by decide +kernel))), rfl⟩
theorem k_77 : (Jvm.Cond.instanceMethod ({ cls := "LittleMix$Operands", name := "<init>", desc := "()V" } : Jvm.MethodName)) ∈ mx_T := List.mem_filter.mpr ⟨List.mem_append_right _ ((List.mem_append_left _ (List.mem_of_getElem? (l := tables_1_1) (i := 77) (by decide +kernel)))), rfl⟩
theorem k_78 : (Jvm.Cond.code ({ cls := "LittleMix$Operands", name := "<init>", desc := "()V" } : Jvm.MethodName) prog_8_method_1_code (1 : Nat) (Option.none : Option Jvm.ClassFile.FieldType)) ∈ mx_T := List.mem_filter.mpr ⟨List.mem_append_right _ ((List.mem_append_left _ (List.mem_of_getElem? (l := tables_1_1) (i := 78) rfl))), rfl⟩
theorem k_106 : (Jvm.Cond.classLink "LittleMix$Assembler" (24 : Nat) "LittleMix$Memory") ∈ mx_T := List.mem_filter.mpr ⟨List.mem_append_right _ ((List.mem_append_left _ (List.mem_of_getElem? (l := tables_1_1) (i := 106) (by decide +kernel)))), rfl⟩
theorem k_107 : (Jvm.Cond.methodLinkNest "LittleMix$Assembler" (26 : Nat) ({ cls := "LittleMix$Memory", name := "<init>", desc := "()V" } : Jvm.MethodName) "LittleMix") ∈ mx_Ns := List.mem_filter.mpr ⟨(List.mem_append_left _ (List.mem_of_getElem? (l := tables_1_1) (i := 107) (by decide +kernel))), rfl⟩
theorem k_108 : (Jvm.Cond.classLink "LittleMix$Assembler" (18 : Nat) "LittleMix$Labels") ∈ mx_T := List.mem_filter.mpr ⟨List.mem_append_right _ ((List.mem_append_left _ (List.mem_of_getElem? (l := tables_1_1) (i := 108) (by decide +kernel)))), rfl⟩
theorem k_109 : (Jvm.Cond.instantiable "LittleMix$Labels" (6 : Nat)) ∈ mx_T := List.mem_filter.mpr ⟨List.mem_append_right _ ((List.mem_append_left _ (List.mem_of_getElem? (l := tables_1_1) (i := 109) (by decide +kernel)))), rfl⟩
theorem k_110 : (Jvm.Cond.methodLink "LittleMix$Assembler" (35 : Nat) ({ cls := "LittleMix$Labels", name := "<init>", desc := "([C)V" } : Jvm.MethodName)) ∈ mx_T := List.mem_filter.mpr ⟨List.mem_append_right _ ((List.mem_append_left _ (List.mem_of_getElem? (l := tables_1_1) (i := 110) (by decide +kernel)))), rfl⟩
theorem k_111 : (Jvm.Cond.instanceMethod ({ cls := "LittleMix$Labels", name := "<init>", desc := "([C)V" } : Jvm.MethodName)) ∈ mx_T := List.mem_filter.mpr ⟨List.mem_append_right _ ((List.mem_append_left _ (List.mem_of_getElem? (l := tables_1_1) (i := 111) (by decide +kernel)))), rfl⟩
theorem k_112 : (Jvm.Cond.code ({ cls := "LittleMix$Labels", name := "<init>", desc := "([C)V" } : Jvm.MethodName) prog_4_method_1_code (2 : Nat) (Option.none : Option Jvm.ClassFile.FieldType)) ∈ mx_T := List.mem_filter.mpr ⟨List.mem_append_right _ ((List.mem_append_left _ (List.mem_of_getElem? (l := tables_1_1) (i := 112) rfl))), rfl⟩
theorem k_134 : (Jvm.Cond.classLink "LittleMix$Assembler" (42 : Nat) "LittleMix$Line") ∈ mx_T := List.mem_filter.mpr ⟨List.mem_append_right _ ((List.mem_append_left _ (List.mem_of_getElem? (l := tables_1_1) (i := 134) (by decide +kernel)))), rfl⟩
theorem k_135 : (Jvm.Cond.instantiable "LittleMix$Line" (7 : Nat)) ∈ mx_T := List.mem_filter.mpr ⟨List.mem_append_right _ ((List.mem_append_left _ (List.mem_of_getElem? (l := tables_1_1) (i := 135) (by decide +kernel)))), rfl⟩
theorem k_136 : (Jvm.Cond.methodLink "LittleMix$Assembler" (44 : Nat) ({ cls := "LittleMix$Line", name := "<init>", desc := "([C)V" } : Jvm.MethodName)) ∈ mx_T := List.mem_filter.mpr ⟨List.mem_append_right _ ((List.mem_append_left _ (List.mem_of_getElem? (l := tables_1_1) (i := 136) (by decide +kernel)))), rfl⟩
theorem k_137 : (Jvm.Cond.instanceMethod ({ cls := "LittleMix$Line", name := "<init>", desc := "([C)V" } : Jvm.MethodName)) ∈ mx_T := List.mem_filter.mpr ⟨List.mem_append_right _ ((List.mem_append_left _ (List.mem_of_getElem? (l := tables_1_1) (i := 137) (by decide +kernel)))), rfl⟩
theorem k_138 : (Jvm.Cond.code ({ cls := "LittleMix$Line", name := "<init>", desc := "([C)V" } : Jvm.MethodName) prog_5_method_1_code (2 : Nat) (Option.none : Option Jvm.ClassFile.FieldType)) ∈ mx_T := List.mem_filter.mpr ⟨List.mem_append_right _ ((List.mem_append_left _ (List.mem_of_getElem? (l := tables_1_1) (i := 138) rfl))), rfl⟩
theorem k_139 : (Jvm.Cond.methodLink "LittleMix$Line" (3 : Nat) ({ cls := "java/lang/Object", name := "<init>", desc := "()V" } : Jvm.MethodName)) ∈ mx_T := List.mem_filter.mpr ⟨List.mem_append_right _ ((List.mem_append_left _ (List.mem_of_getElem? (l := tables_1_1) (i := 139) (by decide +kernel)))), rfl⟩
theorem k_140 : (Jvm.Cond.classLink "LittleMix$Line" (9 : Nat) "LittleMix$Operations") ∈ mx_T := List.mem_filter.mpr ⟨List.mem_append_right _ ((List.mem_append_left _ (List.mem_of_getElem? (l := tables_1_1) (i := 140) (by decide +kernel)))), rfl⟩
theorem k_141 : (Jvm.Cond.instantiable "LittleMix$Operations" (1 : Nat)) ∈ mx_T := List.mem_filter.mpr ⟨List.mem_append_right _ ((List.mem_append_left _ (List.mem_of_getElem? (l := tables_1_1) (i := 141) (by decide +kernel)))), rfl⟩
theorem k_142 : (Jvm.Cond.methodLink "LittleMix$Line" (11 : Nat) ({ cls := "LittleMix$Operations", name := "<init>", desc := "()V" } : Jvm.MethodName)) ∈ mx_T := List.mem_filter.mpr ⟨List.mem_append_right _ ((List.mem_append_left _ (List.mem_of_getElem? (l := tables_1_1) (i := 142) (by decide +kernel)))), rfl⟩
theorem k_143 : (Jvm.Cond.instanceMethod ({ cls := "LittleMix$Operations", name := "<init>", desc := "()V" } : Jvm.MethodName)) ∈ mx_T := List.mem_filter.mpr ⟨List.mem_append_right _ ((List.mem_append_left _ (List.mem_of_getElem? (l := tables_1_1) (i := 143) (by decide +kernel)))), rfl⟩
theorem k_144 : (Jvm.Cond.code ({ cls := "LittleMix$Operations", name := "<init>", desc := "()V" } : Jvm.MethodName) prog_9_method_1_code (1 : Nat) (Option.none : Option Jvm.ClassFile.FieldType)) ∈ mx_T := List.mem_filter.mpr ⟨List.mem_append_right _ ((List.mem_append_left _ (List.mem_of_getElem? (l := tables_1_1) (i := 144) rfl))), rfl⟩
theorem k_145 : (Jvm.Cond.methodLink "LittleMix$Operations" (3 : Nat) ({ cls := "java/lang/Object", name := "<init>", desc := "()V" } : Jvm.MethodName)) ∈ mx_T := List.mem_filter.mpr ⟨List.mem_append_right _ ((List.mem_append_left _ (List.mem_of_getElem? (l := tables_1_1) (i := 145) (by decide +kernel)))), rfl⟩
theorem k_147 : (Jvm.Cond.methodLink "LittleMix$Operations" (17 : Nat) ({ cls := "LittleMix$Operations", name := "learn", desc := "(IILjava/lang/String;)V" } : Jvm.MethodName)) ∈ mx_T := List.mem_filter.mpr ⟨List.mem_append_right _ ((List.mem_append_left _ (List.mem_of_getElem? (l := tables_1_1) (i := 147) (by decide +kernel)))), rfl⟩
theorem k_149 : (Jvm.Cond.instanceMethod ({ cls := "LittleMix$Operations", name := "learn", desc := "(IILjava/lang/String;)V" } : Jvm.MethodName)) ∈ mx_T := List.mem_filter.mpr ⟨List.mem_append_right _ ((List.mem_append_left _ (List.mem_of_getElem? (l := tables_1_1) (i := 149) (by decide +kernel)))), rfl⟩
theorem k_150 : (Jvm.Cond.code ({ cls := "LittleMix$Operations", name := "learn", desc := "(IILjava/lang/String;)V" } : Jvm.MethodName) prog_9_method_2_code (7 : Nat) (Option.none : Option Jvm.ClassFile.FieldType)) ∈ mx_T := List.mem_filter.mpr ⟨List.mem_append_right _ ((List.mem_append_left _ (List.mem_of_getElem? (l := tables_1_1) (i := 150) rfl))), rfl⟩
theorem k_217 : (Jvm.Cond.fieldLink "LittleMix$Line" (18 : Nat) "LittleMix$Line" "text" "[C") ∈ mx_T := List.mem_filter.mpr ⟨List.mem_append_right _ ((List.mem_append_left _ (List.mem_of_getElem? (l := tables_1_1) (i := 217) (by decide +kernel)))), rfl⟩
theorem k_218 : (Jvm.Cond.fieldLink "LittleMix$Line" (12 : Nat) "LittleMix$Line" "operations" "LLittleMix$Operations;") ∈ mx_T := List.mem_filter.mpr ⟨List.mem_append_right _ ((List.mem_append_left _ (List.mem_of_getElem? (l := tables_1_1) (i := 218) (by decide +kernel)))), rfl⟩
theorem k_244 : (Jvm.Cond.classLink "LittleMix$Assembler" (49 : Nat) "LittleMix$Sum") ∈ mx_T := List.mem_filter.mpr ⟨List.mem_append_right _ ((List.mem_append_right _ (List.mem_append_left _ (List.mem_of_getElem? (l := tables_1_2) (i := 4) (by decide +kernel))))), rfl⟩
theorem k_245 : (Jvm.Cond.instantiable "LittleMix$Sum" (11 : Nat)) ∈ mx_T := List.mem_filter.mpr ⟨List.mem_append_right _ ((List.mem_append_right _ (List.mem_append_left _ (List.mem_of_getElem? (l := tables_1_2) (i := 5) (by decide +kernel))))), rfl⟩
theorem k_246 : (Jvm.Cond.methodLink "LittleMix$Assembler" (51 : Nat) ({ cls := "LittleMix$Sum", name := "<init>", desc := "([CLLittleMix$Labels;)V" } : Jvm.MethodName)) ∈ mx_T := List.mem_filter.mpr ⟨List.mem_append_right _ ((List.mem_append_right _ (List.mem_append_left _ (List.mem_of_getElem? (l := tables_1_2) (i := 6) (by decide +kernel))))), rfl⟩
theorem k_247 : (Jvm.Cond.instanceMethod ({ cls := "LittleMix$Sum", name := "<init>", desc := "([CLLittleMix$Labels;)V" } : Jvm.MethodName)) ∈ mx_T := List.mem_filter.mpr ⟨List.mem_append_right _ ((List.mem_append_right _ (List.mem_append_left _ (List.mem_of_getElem? (l := tables_1_2) (i := 7) (by decide +kernel))))), rfl⟩
theorem k_248 : (Jvm.Cond.code ({ cls := "LittleMix$Sum", name := "<init>", desc := "([CLLittleMix$Labels;)V" } : Jvm.MethodName) prog_12_method_1_code (3 : Nat) (Option.none : Option Jvm.ClassFile.FieldType)) ∈ mx_T := List.mem_filter.mpr ⟨List.mem_append_right _ ((List.mem_append_right _ (List.mem_append_left _ (List.mem_of_getElem? (l := tables_1_2) (i := 8) rfl)))), rfl⟩
theorem k_288 : (Jvm.Cond.fieldLink "LittleMix$Assembler" (38 : Nat) "LittleMix$Assembler" "labels" "LLittleMix$Labels;") ∈ mx_T := List.mem_filter.mpr ⟨List.mem_append_right _ ((List.mem_append_right _ (List.mem_append_left _ (List.mem_of_getElem? (l := tables_1_2) (i := 48) (by decide +kernel))))), rfl⟩
theorem k_289 : (Jvm.Cond.fieldLink "LittleMix$Assembler" (45 : Nat) "LittleMix$Assembler" "line" "LLittleMix$Line;") ∈ mx_T := List.mem_filter.mpr ⟨List.mem_append_right _ ((List.mem_append_right _ (List.mem_append_left _ (List.mem_of_getElem? (l := tables_1_2) (i := 49) (by decide +kernel))))), rfl⟩
theorem k_290 : (Jvm.Cond.fieldLink "LittleMix$Assembler" (54 : Nat) "LittleMix$Assembler" "sum" "LLittleMix$Sum;") ∈ mx_T := List.mem_filter.mpr ⟨List.mem_append_right _ ((List.mem_append_right _ (List.mem_append_left _ (List.mem_of_getElem? (l := tables_1_2) (i := 50) (by decide +kernel))))), rfl⟩
theorem k_291 : (Jvm.Cond.fieldLink "LittleMix$Assembler" (12 : Nat) "LittleMix$Assembler" "operands" "LLittleMix$Operands;") ∈ mx_T := List.mem_filter.mpr ⟨List.mem_append_right _ ((List.mem_append_right _ (List.mem_append_left _ (List.mem_of_getElem? (l := tables_1_2) (i := 51) (by decide +kernel))))), rfl⟩
theorem k_292 : (Jvm.Cond.fieldLink "LittleMix$Assembler" (20 : Nat) "LittleMix$Assembler" "answers" "[J") ∈ mx_T := List.mem_filter.mpr ⟨List.mem_append_right _ ((List.mem_append_right _ (List.mem_append_left _ (List.mem_of_getElem? (l := tables_1_2) (i := 52) (by decide +kernel))))), rfl⟩
theorem k_293 : (Jvm.Cond.fieldLink "LittleMix$Assembler" (27 : Nat) "LittleMix$Assembler" "image" "LLittleMix$Memory;") ∈ mx_T := List.mem_filter.mpr ⟨List.mem_append_right _ ((List.mem_append_right _ (List.mem_append_left _ (List.mem_of_getElem? (l := tables_1_2) (i := 53) (by decide +kernel))))), rfl⟩
theorem k_296 : (Jvm.Cond.fieldLink "LittleMix$Assembler" (31 : Nat) "LittleMix$Assembler" "illLine" "I") ∈ mx_T := List.mem_filter.mpr ⟨List.mem_append_right _ ((List.mem_append_right _ (List.mem_append_left _ (List.mem_of_getElem? (l := tables_1_2) (i := 56) (by decide +kernel))))), rfl⟩
theorem k_321 : (Jvm.Cond.classLink "LittleMix" (36 : Nat) "LittleMix$Machine") ∈ mx_T := List.mem_filter.mpr ⟨List.mem_append_right _ ((List.mem_append_right _ (List.mem_append_left _ (List.mem_of_getElem? (l := tables_1_2) (i := 81) (by decide +kernel))))), rfl⟩
theorem k_322 : (Jvm.Cond.instantiable "LittleMix$Machine" (16 : Nat)) ∈ mx_T := List.mem_filter.mpr ⟨List.mem_append_right _ ((List.mem_append_right _ (List.mem_append_left _ (List.mem_of_getElem? (l := tables_1_2) (i := 82) (by decide +kernel))))), rfl⟩
theorem k_323 : (Jvm.Cond.methodLink "LittleMix" (38 : Nat) ({ cls := "LittleMix$Machine", name := "<init>", desc := "(LLittleMix$Memory;LLittleMix$Registers;)V" } : Jvm.MethodName)) ∈ mx_T := List.mem_filter.mpr ⟨List.mem_append_right _ ((List.mem_append_right _ (List.mem_append_left _ (List.mem_of_getElem? (l := tables_1_2) (i := 83) (by decide +kernel))))), rfl⟩
theorem k_324 : (Jvm.Cond.instanceMethod ({ cls := "LittleMix$Machine", name := "<init>", desc := "(LLittleMix$Memory;LLittleMix$Registers;)V" } : Jvm.MethodName)) ∈ mx_T := List.mem_filter.mpr ⟨List.mem_append_right _ ((List.mem_append_right _ (List.mem_append_left _ (List.mem_of_getElem? (l := tables_1_2) (i := 84) (by decide +kernel))))), rfl⟩
theorem k_325 : (Jvm.Cond.code ({ cls := "LittleMix$Machine", name := "<init>", desc := "(LLittleMix$Memory;LLittleMix$Registers;)V" } : Jvm.MethodName) prog_6_method_1_code (3 : Nat) (Option.none : Option Jvm.ClassFile.FieldType)) ∈ mx_T := List.mem_filter.mpr ⟨List.mem_append_right _ ((List.mem_append_right _ (List.mem_append_left _ (List.mem_of_getElem? (l := tables_1_2) (i := 85) rfl)))), rfl⟩
theorem k_381 : (Jvm.Cond.fieldLink "LittleMix" (9 : Nat) "LittleMix" "tape" "[C") ∈ mx_T := List.mem_filter.mpr ⟨List.mem_append_right _ ((List.mem_append_right _ (List.mem_append_left _ (List.mem_of_getElem? (l := tables_1_2) (i := 141) (by decide +kernel))))), rfl⟩
theorem k_382 : (Jvm.Cond.fieldLink "LittleMix" (16 : Nat) "LittleMix" "memory" "LLittleMix$Memory;") ∈ mx_T := List.mem_filter.mpr ⟨List.mem_append_right _ ((List.mem_append_right _ (List.mem_append_left _ (List.mem_of_getElem? (l := tables_1_2) (i := 142) (by decide +kernel))))), rfl⟩
theorem k_383 : (Jvm.Cond.fieldLink "LittleMix" (23 : Nat) "LittleMix" "registers" "LLittleMix$Registers;") ∈ mx_T := List.mem_filter.mpr ⟨List.mem_append_right _ ((List.mem_append_right _ (List.mem_append_left _ (List.mem_of_getElem? (l := tables_1_2) (i := 143) (by decide +kernel))))), rfl⟩
theorem k_384 : (Jvm.Cond.fieldLink "LittleMix" (32 : Nat) "LittleMix" "assembler" "LLittleMix$Assembler;") ∈ mx_T := List.mem_filter.mpr ⟨List.mem_append_right _ ((List.mem_append_right _ (List.mem_append_left _ (List.mem_of_getElem? (l := tables_1_2) (i := 144) (by decide +kernel))))), rfl⟩
theorem k_385 : (Jvm.Cond.fieldLink "LittleMix" (41 : Nat) "LittleMix" "machine" "LLittleMix$Machine;") ∈ mx_T := List.mem_filter.mpr ⟨List.mem_append_right _ ((List.mem_append_right _ (List.mem_append_left _ (List.mem_of_getElem? (l := tables_1_2) (i := 145) (by decide +kernel))))), rfl⟩
theorem sl_Opn_learn : Cond.selects y_Opn_learn.cls y_Opn_learn y_Opn_learn ∈ mx_T := List.mem_filter.mpr ⟨List.mem_append_left _ (by decide +kernel), by decide +kernel⟩
theorem d_Mix_init_0 : decode b_Mix_init 0 = .ok (.aload_n 0, 1) := by decide +kernel
theorem d_Mix_init_1 : decode b_Mix_init 1 = .ok (.invokespecial 1, 3) := by decide +kernel
theorem d_Mix_init_4 : decode b_Mix_init 4 = .ok (.aload_n 0, 1) := by decide +kernel
theorem d_Mix_init_5 : decode b_Mix_init 5 = .ok (.sipush 1600, 3) := by decide +kernel
theorem d_Mix_init_8 : decode b_Mix_init 8 = .ok (.newarray .char, 2) := by decide +kernel
theorem d_Mix_init_10 : decode b_Mix_init 10 = .ok (.putfield 9, 3) := by decide +kernel
theorem d_Mix_init_13 : decode b_Mix_init 13 = .ok (.aload_n 0, 1) := by decide +kernel
theorem d_Mix_init_14 : decode b_Mix_init 14 = .ok (.new 13, 3) := by decide +kernel
theorem d_Mix_init_17 : decode b_Mix_init 17 = .ok (.dup, 1) := by decide +kernel
theorem d_Mix_init_18 : decode b_Mix_init 18 = .ok (.invokespecial 15, 3) := by decide +kernel
theorem d_Mix_init_21 : decode b_Mix_init 21 = .ok (.putfield 16, 3) := by decide +kernel
theorem d_Mix_init_24 : decode b_Mix_init 24 = .ok (.aload_n 0, 1) := by decide +kernel
theorem d_Mix_init_25 : decode b_Mix_init 25 = .ok (.new 20, 3) := by decide +kernel
theorem d_Mix_init_28 : decode b_Mix_init 28 = .ok (.dup, 1) := by decide +kernel
theorem d_Mix_init_29 : decode b_Mix_init 29 = .ok (.invokespecial 22, 3) := by decide +kernel
theorem d_Mix_init_32 : decode b_Mix_init 32 = .ok (.putfield 23, 3) := by decide +kernel
theorem d_Mix_init_35 : decode b_Mix_init 35 = .ok (.aload_n 0, 1) := by decide +kernel
theorem d_Mix_init_36 : decode b_Mix_init 36 = .ok (.new 27, 3) := by decide +kernel
theorem d_Mix_init_39 : decode b_Mix_init 39 = .ok (.dup, 1) := by decide +kernel
theorem d_Mix_init_40 : decode b_Mix_init 40 = .ok (.aload_n 0, 1) := by decide +kernel
theorem d_Mix_init_41 : decode b_Mix_init 41 = .ok (.getfield 9, 3) := by decide +kernel
theorem d_Mix_init_44 : decode b_Mix_init 44 = .ok (.invokespecial 29, 3) := by decide +kernel
theorem d_Mix_init_47 : decode b_Mix_init 47 = .ok (.putfield 32, 3) := by decide +kernel
theorem d_Mix_init_50 : decode b_Mix_init 50 = .ok (.aload_n 0, 1) := by decide +kernel
theorem d_Mix_init_51 : decode b_Mix_init 51 = .ok (.new 36, 3) := by decide +kernel
theorem d_Mix_init_54 : decode b_Mix_init 54 = .ok (.dup, 1) := by decide +kernel
theorem d_Mix_init_55 : decode b_Mix_init 55 = .ok (.aload_n 0, 1) := by decide +kernel
theorem d_Mix_init_56 : decode b_Mix_init 56 = .ok (.getfield 16, 3) := by decide +kernel
theorem d_Mix_init_59 : decode b_Mix_init 59 = .ok (.aload_n 0, 1) := by decide +kernel
theorem d_Mix_init_60 : decode b_Mix_init 60 = .ok (.getfield 23, 3) := by decide +kernel
theorem d_Mix_init_63 : decode b_Mix_init 63 = .ok (.invokespecial 38, 3) := by decide +kernel
theorem d_Mix_init_66 : decode b_Mix_init 66 = .ok (.putfield 41, 3) := by decide +kernel
theorem d_Mix_init_69 : decode b_Mix_init 69 = .ok (.return_, 1) := by decide +kernel
theorem d_Asm_init_0 : decode b_Asm_init 0 = .ok (.aload_n 0, 1) := by decide +kernel
theorem d_Asm_init_1 : decode b_Asm_init 1 = .ok (.invokespecial 3, 3) := by decide +kernel
theorem d_Asm_init_4 : decode b_Asm_init 4 = .ok (.aload_n 0, 1) := by decide +kernel
theorem d_Asm_init_5 : decode b_Asm_init 5 = .ok (.new 9, 3) := by decide +kernel
theorem d_Asm_init_8 : decode b_Asm_init 8 = .ok (.dup, 1) := by decide +kernel
theorem d_Asm_init_9 : decode b_Asm_init 9 = .ok (.invokespecial 11, 3) := by decide +kernel
theorem d_Asm_init_12 : decode b_Asm_init 12 = .ok (.putfield 12, 3) := by decide +kernel
theorem d_Asm_init_15 : decode b_Asm_init 15 = .ok (.aload_n 0, 1) := by decide +kernel
theorem d_Asm_init_16 : decode b_Asm_init 16 = .ok (.bipush 40, 2) := by decide +kernel
theorem d_Asm_init_18 : decode b_Asm_init 18 = .ok (.newarray .long, 2) := by decide +kernel
theorem d_Asm_init_20 : decode b_Asm_init 20 = .ok (.putfield 20, 3) := by decide +kernel
theorem d_Asm_init_23 : decode b_Asm_init 23 = .ok (.aload_n 0, 1) := by decide +kernel
theorem d_Asm_init_24 : decode b_Asm_init 24 = .ok (.new 24, 3) := by decide +kernel
theorem d_Asm_init_27 : decode b_Asm_init 27 = .ok (.dup, 1) := by decide +kernel
theorem d_Asm_init_28 : decode b_Asm_init 28 = .ok (.invokespecial 26, 3) := by decide +kernel
theorem d_Asm_init_31 : decode b_Asm_init 31 = .ok (.putfield 27, 3) := by decide +kernel
theorem d_Asm_init_34 : decode b_Asm_init 34 = .ok (.aload_n 0, 1) := by decide +kernel
theorem d_Asm_init_35 : decode b_Asm_init 35 = .ok (.iconst (-1), 1) := by decide +kernel
theorem d_Asm_init_36 : decode b_Asm_init 36 = .ok (.putfield 31, 3) := by decide +kernel
theorem d_Asm_init_39 : decode b_Asm_init 39 = .ok (.aload_n 0, 1) := by decide +kernel
theorem d_Asm_init_40 : decode b_Asm_init 40 = .ok (.new 18, 3) := by decide +kernel
theorem d_Asm_init_43 : decode b_Asm_init 43 = .ok (.dup, 1) := by decide +kernel
theorem d_Asm_init_44 : decode b_Asm_init 44 = .ok (.aload_n 1, 1) := by decide +kernel
theorem d_Asm_init_45 : decode b_Asm_init 45 = .ok (.invokespecial 35, 3) := by decide +kernel
theorem d_Asm_init_48 : decode b_Asm_init 48 = .ok (.putfield 38, 3) := by decide +kernel
theorem d_Asm_init_51 : decode b_Asm_init 51 = .ok (.aload_n 0, 1) := by decide +kernel
theorem d_Asm_init_52 : decode b_Asm_init 52 = .ok (.new 42, 3) := by decide +kernel
theorem d_Asm_init_55 : decode b_Asm_init 55 = .ok (.dup, 1) := by decide +kernel
theorem d_Asm_init_56 : decode b_Asm_init 56 = .ok (.aload_n 1, 1) := by decide +kernel
theorem d_Asm_init_57 : decode b_Asm_init 57 = .ok (.invokespecial 44, 3) := by decide +kernel
theorem d_Asm_init_60 : decode b_Asm_init 60 = .ok (.putfield 45, 3) := by decide +kernel
theorem d_Asm_init_63 : decode b_Asm_init 63 = .ok (.aload_n 0, 1) := by decide +kernel
theorem d_Asm_init_64 : decode b_Asm_init 64 = .ok (.new 49, 3) := by decide +kernel
theorem d_Asm_init_67 : decode b_Asm_init 67 = .ok (.dup, 1) := by decide +kernel
theorem d_Asm_init_68 : decode b_Asm_init 68 = .ok (.aload_n 1, 1) := by decide +kernel
theorem d_Asm_init_69 : decode b_Asm_init 69 = .ok (.aload_n 0, 1) := by decide +kernel
theorem d_Asm_init_70 : decode b_Asm_init 70 = .ok (.getfield 38, 3) := by decide +kernel
theorem d_Asm_init_73 : decode b_Asm_init 73 = .ok (.invokespecial 51, 3) := by decide +kernel
theorem d_Asm_init_76 : decode b_Asm_init 76 = .ok (.putfield 54, 3) := by decide +kernel
theorem d_Asm_init_79 : decode b_Asm_init 79 = .ok (.return_, 1) := by decide +kernel
theorem d_Lin_init_0 : decode b_Lin_init 0 = .ok (.aload_n 0, 1) := by decide +kernel
theorem d_Lin_init_1 : decode b_Lin_init 1 = .ok (.invokespecial 3, 3) := by decide +kernel
theorem d_Lin_init_4 : decode b_Lin_init 4 = .ok (.aload_n 0, 1) := by decide +kernel
theorem d_Lin_init_5 : decode b_Lin_init 5 = .ok (.new 9, 3) := by decide +kernel
theorem d_Lin_init_8 : decode b_Lin_init 8 = .ok (.dup, 1) := by decide +kernel
theorem d_Lin_init_9 : decode b_Lin_init 9 = .ok (.invokespecial 11, 3) := by decide +kernel
theorem d_Lin_init_12 : decode b_Lin_init 12 = .ok (.putfield 12, 3) := by decide +kernel
theorem d_Lin_init_15 : decode b_Lin_init 15 = .ok (.aload_n 0, 1) := by decide +kernel
theorem d_Lin_init_16 : decode b_Lin_init 16 = .ok (.aload_n 1, 1) := by decide +kernel
theorem d_Lin_init_17 : decode b_Lin_init 17 = .ok (.putfield 18, 3) := by decide +kernel
theorem d_Lin_init_20 : decode b_Lin_init 20 = .ok (.return_, 1) := by decide +kernel
theorem d_Opn_init_0 : decode b_Opn_init 0 = .ok (.aload_n 0, 1) := by decide +kernel
theorem d_Opn_init_1 : decode b_Opn_init 1 = .ok (.invokespecial 3, 3) := by decide +kernel
theorem d_Opn_init_4 : decode b_Opn_init 4 = .ok (.aload_n 0, 1) := by decide +kernel
theorem d_Opn_init_5 : decode b_Opn_init 5 = .ok (.sipush 262, 3) := by decide +kernel
theorem d_Opn_init_8 : decode b_Opn_init 8 = .ok (.newarray .long, 2) := by decide +kernel
theorem d_Opn_init_10 : decode b_Opn_init 10 = .ok (.putfield 11, 3) := by decide +kernel
theorem d_Opn_init_13 : decode b_Opn_init 13 = .ok (.aload_n 0, 1) := by decide +kernel
theorem d_Opn_init_14 : decode b_Opn_init 14 = .ok (.iconst 0, 1) := by decide +kernel
theorem d_Opn_init_15 : decode b_Opn_init 15 = .ok (.iconst 1, 1) := by decide +kernel
theorem d_Opn_init_16 : decode b_Opn_init 16 = .ok (.ldc 15, 2) := by decide +kernel
theorem d_Opn_init_18 : decode b_Opn_init 18 = .ok (.invokevirtual 17, 3) := by decide +kernel
theorem d_Opn_init_21 : decode b_Opn_init 21 = .ok (.aload_n 0, 1) := by decide +kernel
theorem d_Opn_init_22 : decode b_Opn_init 22 = .ok (.bipush 24, 2) := by decide +kernel
theorem d_Opn_init_24 : decode b_Opn_init 24 = .ok (.iconst 2, 1) := by decide +kernel
theorem d_Opn_init_25 : decode b_Opn_init 25 = .ok (.ldc 21, 2) := by decide +kernel
theorem d_Opn_init_27 : decode b_Opn_init 27 = .ok (.invokevirtual 17, 3) := by decide +kernel
theorem d_Opn_init_30 : decode b_Opn_init 30 = .ok (.aload_n 0, 1) := by decide +kernel
theorem d_Opn_init_31 : decode b_Opn_init 31 = .ok (.bipush 64, 2) := by decide +kernel
theorem d_Opn_init_33 : decode b_Opn_init 33 = .ok (.iconst 2, 1) := by decide +kernel
theorem d_Opn_init_34 : decode b_Opn_init 34 = .ok (.ldc 23, 2) := by decide +kernel
theorem d_Opn_init_36 : decode b_Opn_init 36 = .ok (.invokevirtual 17, 3) := by decide +kernel
theorem d_Opn_init_39 : decode b_Opn_init 39 = .ok (.aload_n 0, 1) := by decide +kernel
theorem d_Opn_init_40 : decode b_Opn_init 40 = .ok (.bipush 96, 2) := by decide +kernel
theorem d_Opn_init_42 : decode b_Opn_init 42 = .ok (.iconst 2, 1) := by decide +kernel
theorem d_Opn_init_43 : decode b_Opn_init 43 = .ok (.ldc 25, 2) := by decide +kernel
theorem d_Opn_init_45 : decode b_Opn_init 45 = .ok (.invokevirtual 17, 3) := by decide +kernel
theorem d_Opn_init_48 : decode b_Opn_init 48 = .ok (.aload_n 0, 1) := by decide +kernel
theorem d_Opn_init_49 : decode b_Opn_init 49 = .ok (.sipush 128, 3) := by decide +kernel
theorem d_Opn_init_52 : decode b_Opn_init 52 = .ok (.iconst 2, 1) := by decide +kernel
theorem d_Opn_init_53 : decode b_Opn_init 53 = .ok (.ldc 27, 2) := by decide +kernel
theorem d_Opn_init_55 : decode b_Opn_init 55 = .ok (.invokevirtual 17, 3) := by decide +kernel
theorem d_Opn_init_58 : decode b_Opn_init 58 = .ok (.aload_n 0, 1) := by decide +kernel
theorem d_Opn_init_59 : decode b_Opn_init 59 = .ok (.sipush 160, 3) := by decide +kernel
theorem d_Opn_init_62 : decode b_Opn_init 62 = .ok (.iconst 2, 1) := by decide +kernel
theorem d_Opn_init_63 : decode b_Opn_init 63 = .ok (.ldc 29, 2) := by decide +kernel
theorem d_Opn_init_65 : decode b_Opn_init 65 = .ok (.invokevirtual 17, 3) := by decide +kernel
theorem d_Opn_init_68 : decode b_Opn_init 68 = .ok (.aload_n 0, 1) := by decide +kernel
theorem d_Opn_init_69 : decode b_Opn_init 69 = .ok (.sipush 180, 3) := by decide +kernel
theorem d_Opn_init_72 : decode b_Opn_init 72 = .ok (.iconst 2, 1) := by decide +kernel
theorem d_Opn_init_73 : decode b_Opn_init 73 = .ok (.ldc 31, 2) := by decide +kernel
theorem d_Opn_init_75 : decode b_Opn_init 75 = .ok (.invokevirtual 17, 3) := by decide +kernel
theorem d_Opn_init_78 : decode b_Opn_init 78 = .ok (.aload_n 0, 1) := by decide +kernel
theorem d_Opn_init_79 : decode b_Opn_init 79 = .ok (.sipush 192, 3) := by decide +kernel
theorem d_Opn_init_82 : decode b_Opn_init 82 = .ok (.iconst 2, 1) := by decide +kernel
theorem d_Opn_init_83 : decode b_Opn_init 83 = .ok (.ldc 33, 2) := by decide +kernel
theorem d_Opn_init_85 : decode b_Opn_init 85 = .ok (.invokevirtual 17, 3) := by decide +kernel
theorem d_Opn_init_88 : decode b_Opn_init 88 = .ok (.aload_n 0, 1) := by decide +kernel
theorem d_Opn_init_89 : decode b_Opn_init 89 = .ok (.sipush 224, 3) := by decide +kernel
theorem d_Opn_init_92 : decode b_Opn_init 92 = .ok (.iconst 1, 1) := by decide +kernel
theorem d_Opn_init_93 : decode b_Opn_init 93 = .ok (.ldc 35, 2) := by decide +kernel
theorem d_Opn_init_95 : decode b_Opn_init 95 = .ok (.invokevirtual 17, 3) := by decide +kernel
theorem d_Opn_init_98 : decode b_Opn_init 98 = .ok (.aload_n 0, 1) := by decide +kernel
theorem d_Opn_init_99 : decode b_Opn_init 99 = .ok (.sipush 232, 3) := by decide +kernel
theorem d_Opn_init_102 : decode b_Opn_init 102 = .ok (.iconst 1, 1) := by decide +kernel
theorem d_Opn_init_103 : decode b_Opn_init 103 = .ok (.ldc 37, 2) := by decide +kernel
theorem d_Opn_init_105 : decode b_Opn_init 105 = .ok (.invokevirtual 17, 3) := by decide +kernel
theorem d_Opn_init_108 : decode b_Opn_init 108 = .ok (.aload_n 0, 1) := by decide +kernel
theorem d_Opn_init_109 : decode b_Opn_init 109 = .ok (.sipush 240, 3) := by decide +kernel
theorem d_Opn_init_112 : decode b_Opn_init 112 = .ok (.iconst 2, 1) := by decide +kernel
theorem d_Opn_init_113 : decode b_Opn_init 113 = .ok (.ldc 39, 2) := by decide +kernel
theorem d_Opn_init_115 : decode b_Opn_init 115 = .ok (.invokevirtual 17, 3) := by decide +kernel
theorem d_Opn_init_118 : decode b_Opn_init 118 = .ok (.aload_n 0, 1) := by decide +kernel
theorem d_Opn_init_119 : decode b_Opn_init 119 = .ok (.sipush 249, 3) := by decide +kernel
theorem d_Opn_init_122 : decode b_Opn_init 122 = .ok (.iconst 1, 1) := by decide +kernel
theorem d_Opn_init_123 : decode b_Opn_init 123 = .ok (.ldc 41, 2) := by decide +kernel
theorem d_Opn_init_125 : decode b_Opn_init 125 = .ok (.invokevirtual 17, 3) := by decide +kernel
theorem d_Opn_init_128 : decode b_Opn_init 128 = .ok (.aload_n 0, 1) := by decide +kernel
theorem d_Opn_init_129 : decode b_Opn_init 129 = .ok (.sipush 253, 3) := by decide +kernel
theorem d_Opn_init_132 : decode b_Opn_init 132 = .ok (.iconst 1, 1) := by decide +kernel
theorem d_Opn_init_133 : decode b_Opn_init 133 = .ok (.ldc 43, 2) := by decide +kernel
theorem d_Opn_init_135 : decode b_Opn_init 135 = .ok (.invokevirtual 17, 3) := by decide +kernel
theorem d_Opn_init_138 : decode b_Opn_init 138 = .ok (.aload_n 0, 1) := by decide +kernel
theorem d_Opn_init_139 : decode b_Opn_init 139 = .ok (.sipush 256, 3) := by decide +kernel
theorem d_Opn_init_142 : decode b_Opn_init 142 = .ok (.iconst 1, 1) := by decide +kernel
theorem d_Opn_init_143 : decode b_Opn_init 143 = .ok (.ldc 45, 2) := by decide +kernel
theorem d_Opn_init_145 : decode b_Opn_init 145 = .ok (.invokevirtual 17, 3) := by decide +kernel
theorem d_Opn_init_148 : decode b_Opn_init 148 = .ok (.return_, 1) := by decide +kernel
