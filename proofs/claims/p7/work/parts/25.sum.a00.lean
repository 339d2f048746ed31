abbrev b_Sum_addTerm : ByteArray := prog_12_method_4_code
abbrev b_Sum_behindOperand : ByteArray := prog_12_method_3_code
abbrev b_Sum_hexadecimal : ByteArray := prog_12_method_9_code
abbrev b_Sum_read : ByteArray := prog_12_method_2_code
abbrev b_Sum_readCharacter : ByteArray := prog_12_method_10_code
abbrev b_Sum_readDecimal : ByteArray := prog_12_method_7_code
abbrev b_Sum_readHexadecimal : ByteArray := prog_12_method_8_code
abbrev b_Sum_readName : ByteArray := prog_12_method_11_code
abbrev b_Sum_readTerm : ByteArray := prog_12_method_5_code
abbrev b_Sum_turnIntoRegister : ByteArray := prog_12_method_6_code
abbrev y_Sum_addTerm : MethodName := ⟨"LittleMix$Sum", "addTerm", "(ZZ)V"⟩
abbrev y_Sum_behindOperand : MethodName := ⟨"LittleMix$Sum", "behindOperand", "()I"⟩
abbrev y_Sum_hexadecimal : MethodName := ⟨"LittleMix$Sum", "hexadecimal", "(C)I"⟩
abbrev y_Sum_read : MethodName := ⟨"LittleMix$Sum", "read", "(IIJ)I"⟩
abbrev y_Sum_readCharacter : MethodName := ⟨"LittleMix$Sum", "readCharacter", "()V"⟩
abbrev y_Sum_readDecimal : MethodName := ⟨"LittleMix$Sum", "readDecimal", "()V"⟩
abbrev y_Sum_readHexadecimal : MethodName := ⟨"LittleMix$Sum", "readHexadecimal", "()V"⟩
abbrev y_Sum_readName : MethodName := ⟨"LittleMix$Sum", "readName", "(Z)V"⟩
abbrev y_Sum_readTerm : MethodName := ⟨"LittleMix$Sum", "readTerm", "()V"⟩
abbrev y_Sum_turnIntoRegister : MethodName := ⟨"LittleMix$Sum", "turnIntoRegister", "(Z)V"⟩
theorem p_Lab_isRegister : y_Lab_isRegister.cls ≠ "java/lang/invoke/MethodHandle" ∧ y_Lab_isRegister.cls ≠ "java/lang/invoke/VarHandle" ∧ (parseMethodDescriptor y_Lab_isRegister.desc).map (fun d => d.parameters.length) = some 1 := by decide +kernel
theorem p_Lab_valueOf : y_Lab_valueOf.cls ≠ "java/lang/invoke/MethodHandle" ∧ y_Lab_valueOf.cls ≠ "java/lang/invoke/VarHandle" ∧ (parseMethodDescriptor y_Lab_valueOf.desc).map (fun d => d.parameters.length) = some 1 := by decide +kernel
theorem p_Sum_addTerm : y_Sum_addTerm.cls ≠ "java/lang/invoke/MethodHandle" ∧ y_Sum_addTerm.cls ≠ "java/lang/invoke/VarHandle" ∧ (parseMethodDescriptor y_Sum_addTerm.desc).map (fun d => d.parameters.length) = some 2 := by decide +kernel
theorem p_Sum_behindOperand : y_Sum_behindOperand.cls ≠ "java/lang/invoke/MethodHandle" ∧ y_Sum_behindOperand.cls ≠ "java/lang/invoke/VarHandle" ∧ (parseMethodDescriptor y_Sum_behindOperand.desc).map (fun d => d.parameters.length) = some 0 := by decide +kernel
theorem p_Sum_hexadecimal : y_Sum_hexadecimal.cls ≠ "java/lang/invoke/MethodHandle" ∧ y_Sum_hexadecimal.cls ≠ "java/lang/invoke/VarHandle" ∧ (parseMethodDescriptor y_Sum_hexadecimal.desc).map (fun d => d.parameters.length) = some 1 := by decide +kernel
theorem p_Sum_readCharacter : y_Sum_readCharacter.cls ≠ "java/lang/invoke/MethodHandle" ∧ y_Sum_readCharacter.cls ≠ "java/lang/invoke/VarHandle" ∧ (parseMethodDescriptor y_Sum_readCharacter.desc).map (fun d => d.parameters.length) = some 0 := by decide +kernel
theorem p_Sum_readDecimal : y_Sum_readDecimal.cls ≠ "java/lang/invoke/MethodHandle" ∧ y_Sum_readDecimal.cls ≠ "java/lang/invoke/VarHandle" ∧ (parseMethodDescriptor y_Sum_readDecimal.desc).map (fun d => d.parameters.length) = some 0 := by decide +kernel
theorem p_Sum_readHexadecimal : y_Sum_readHexadecimal.cls ≠ "java/lang/invoke/MethodHandle" ∧ y_Sum_readHexadecimal.cls ≠ "java/lang/invoke/VarHandle" ∧ (parseMethodDescriptor y_Sum_readHexadecimal.desc).map (fun d => d.parameters.length) = some 0 := by decide +kernel
theorem p_Sum_readName : y_Sum_readName.cls ≠ "java/lang/invoke/MethodHandle" ∧ y_Sum_readName.cls ≠ "java/lang/invoke/VarHandle" ∧ (parseMethodDescriptor y_Sum_readName.desc).map (fun d => d.parameters.length) = some 1 := by decide +kernel
theorem p_Sum_readTerm : y_Sum_readTerm.cls ≠ "java/lang/invoke/MethodHandle" ∧ y_Sum_readTerm.cls ≠ "java/lang/invoke/VarHandle" ∧ (parseMethodDescriptor y_Sum_readTerm.desc).map (fun d => d.parameters.length) = some 0 := by decide +kernel
theorem p_Sum_turnIntoRegister : y_Sum_turnIntoRegister.cls ≠ "java/lang/invoke/MethodHandle" ∧ y_Sum_turnIntoRegister.cls ≠ "java/lang/invoke/VarHandle" ∧ (parseMethodDescriptor y_Sum_turnIntoRegister.desc).map (fun d => d.parameters.length) = some 1 := by decide +kernel
theorem k_252 : (Jvm.Cond.fieldLink "LittleMix$Sum" (19 : Nat) "LittleMix$Sum" "at" "I") ∈ mx_T := List.mem_filter.mpr ⟨List.mem_append_right _ ((List.mem_append_right _ (List.mem_append_left _ (List.mem_of_getElem? (l := tables_1_2) (i := 12) (by decide +kernel))))), rfl⟩
theorem k_253 : (Jvm.Cond.fieldLink "LittleMix$Sum" (23 : Nat) "LittleMix$Sum" "end" "I") ∈ mx_T := List.mem_filter.mpr ⟨List.mem_append_right _ ((List.mem_append_right _ (List.mem_append_left _ (List.mem_of_getElem? (l := tables_1_2) (i := 13) (by decide +kernel))))), rfl⟩
theorem k_254 : (Jvm.Cond.fieldLink "LittleMix$Sum" (26 : Nat) "LittleMix$Sum" "here" "J") ∈ mx_T := List.mem_filter.mpr ⟨List.mem_append_right _ ((List.mem_append_right _ (List.mem_append_left _ (List.mem_of_getElem? (l := tables_1_2) (i := 14) (by decide +kernel))))), rfl⟩
theorem k_255 : (Jvm.Cond.fieldLink "LittleMix$Sum" (30 : Nat) "LittleMix$Sum" "readable" "Z") ∈ mx_T := List.mem_filter.mpr ⟨List.mem_append_right _ ((List.mem_append_right _ (List.mem_append_left _ (List.mem_of_getElem? (l := tables_1_2) (i := 15) (by decide +kernel))))), rfl⟩
theorem k_256 : (Jvm.Cond.fieldLink "LittleMix$Sum" (56 : Nat) "LittleMix$Sum" "termIsRegister" "Z") ∈ mx_T := List.mem_filter.mpr ⟨List.mem_append_right _ ((List.mem_append_right _ (List.mem_append_left _ (List.mem_of_getElem? (l := tables_1_2) (i := 16) (by decide +kernel))))), rfl⟩
theorem k_257 : (Jvm.Cond.fieldLink "LittleMix$Sum" (59 : Nat) "LittleMix$Sum" "term" "J") ∈ mx_T := List.mem_filter.mpr ⟨List.mem_append_right _ ((List.mem_append_right _ (List.mem_append_left _ (List.mem_of_getElem? (l := tables_1_2) (i := 17) (by decide +kernel))))), rfl⟩
theorem k_258 : (Jvm.Cond.fieldLink "LittleMix$Sum" (34 : Nat) "LittleMix$Sum" "right" "Z") ∈ mx_T := List.mem_filter.mpr ⟨List.mem_append_right _ ((List.mem_append_right _ (List.mem_append_left _ (List.mem_of_getElem? (l := tables_1_2) (i := 18) (by decide +kernel))))), rfl⟩
theorem k_260 : (Jvm.Cond.fieldLink "LittleMix$Sum" (37 : Nat) "LittleMix$Sum" "isRegister" "Z") ∈ mx_T := List.mem_filter.mpr ⟨List.mem_append_right _ ((List.mem_append_right _ (List.mem_append_left _ (List.mem_of_getElem? (l := tables_1_2) (i := 20) (by decide +kernel))))), rfl⟩
theorem k_262 : (Jvm.Cond.fieldLink "LittleMix$Sum" (40 : Nat) "LittleMix$Sum" "value" "J") ∈ mx_T := List.mem_filter.mpr ⟨List.mem_append_right _ ((List.mem_append_right _ (List.mem_append_left _ (List.mem_of_getElem? (l := tables_1_2) (i := 22) (by decide +kernel))))), rfl⟩
theorem k_476 : (Jvm.Cond.methodLink "LittleMix$Sum" (43 : Nat) ({ cls := "LittleMix$Sum", name := "readTerm", desc := "()V" } : Jvm.MethodName)) ∈ mx_T := List.mem_filter.mpr ⟨List.mem_append_right _ ((List.mem_append_right _ (List.mem_append_left _ (List.mem_of_getElem? (l := tables_1_2) (i := 236) (by decide +kernel))))), rfl⟩
theorem k_478 : (Jvm.Cond.instanceMethod ({ cls := "LittleMix$Sum", name := "readTerm", desc := "()V" } : Jvm.MethodName)) ∈ mx_T := List.mem_filter.mpr ⟨List.mem_append_right _ ((List.mem_append_right _ (List.mem_append_left _ (List.mem_of_getElem? (l := tables_1_2) (i := 238) (by decide +kernel))))), rfl⟩
theorem k_479 : (Jvm.Cond.code ({ cls := "LittleMix$Sum", name := "readTerm", desc := "()V" } : Jvm.MethodName) prog_12_method_5_code (4 : Nat) (Option.none : Option Jvm.ClassFile.FieldType)) ∈ mx_T := List.mem_filter.mpr ⟨List.mem_append_right _ ((List.mem_append_right _ (List.mem_append_left _ (List.mem_of_getElem? (l := tables_1_2) (i := 239) rfl)))), rfl⟩
theorem k_480 : (Jvm.Cond.methodLink "LittleMix$Sum" (62 : Nat) ({ cls := "LittleMix$Line", name := "isLetter", desc := "(C)Z" } : Jvm.MethodName)) ∈ mx_T := List.mem_filter.mpr ⟨List.mem_append_right _ ((List.mem_append_right _ (List.mem_append_right _ (List.mem_append_left _ (List.mem_of_getElem? (l := tables_1_3) (i := 0) (by decide +kernel)))))), rfl⟩
theorem k_481 : (Jvm.Cond.methodLink "LittleMix$Sum" (68 : Nat) ({ cls := "LittleMix$Sum", name := "readName", desc := "(Z)V" } : Jvm.MethodName)) ∈ mx_T := List.mem_filter.mpr ⟨List.mem_append_right _ ((List.mem_append_right _ (List.mem_append_right _ (List.mem_append_left _ (List.mem_of_getElem? (l := tables_1_3) (i := 1) (by decide +kernel)))))), rfl⟩
theorem k_483 : (Jvm.Cond.instanceMethod ({ cls := "LittleMix$Sum", name := "readName", desc := "(Z)V" } : Jvm.MethodName)) ∈ mx_T := List.mem_filter.mpr ⟨List.mem_append_right _ ((List.mem_append_right _ (List.mem_append_right _ (List.mem_append_left _ (List.mem_of_getElem? (l := tables_1_3) (i := 3) (by decide +kernel)))))), rfl⟩
theorem k_484 : (Jvm.Cond.code ({ cls := "LittleMix$Sum", name := "readName", desc := "(Z)V" } : Jvm.MethodName) prog_12_method_11_code (5 : Nat) (Option.none : Option Jvm.ClassFile.FieldType)) ∈ mx_T := List.mem_filter.mpr ⟨List.mem_append_right _ ((List.mem_append_right _ (List.mem_append_right _ (List.mem_append_left _ (List.mem_of_getElem? (l := tables_1_3) (i := 4) rfl))))), rfl⟩
theorem k_485 : (Jvm.Cond.methodLink "LittleMix$Sum" (93 : Nat) ({ cls := "LittleMix$Line", name := "nameEnd", desc := "([CII)I" } : Jvm.MethodName)) ∈ mx_T := List.mem_filter.mpr ⟨List.mem_append_right _ ((List.mem_append_right _ (List.mem_append_right _ (List.mem_append_left _ (List.mem_of_getElem? (l := tables_1_3) (i := 5) (by decide +kernel)))))), rfl⟩
theorem k_486 : (Jvm.Cond.methodLink "LittleMix$Sum" (97 : Nat) ({ cls := "LittleMix$Specials", name := "named", desc := "([CII)I" } : Jvm.MethodName)) ∈ mx_T := List.mem_filter.mpr ⟨List.mem_append_right _ ((List.mem_append_right _ (List.mem_append_right _ (List.mem_append_left _ (List.mem_of_getElem? (l := tables_1_3) (i := 6) (by decide +kernel)))))), rfl⟩
theorem k_551 : (Jvm.Cond.methodLink "LittleMix$Sum" (102 : Nat) ({ cls := "LittleMix$Labels", name := "find", desc := "(II)I" } : Jvm.MethodName)) ∈ mx_T := List.mem_filter.mpr ⟨List.mem_append_right _ ((List.mem_append_right _ (List.mem_append_right _ (List.mem_append_left _ (List.mem_of_getElem? (l := tables_1_3) (i := 71) (by decide +kernel)))))), rfl⟩
theorem k_555 : (Jvm.Cond.methodLink "LittleMix$Sum" (108 : Nat) ({ cls := "LittleMix$Labels", name := "valueOf", desc := "(I)J" } : Jvm.MethodName)) ∈ mx_T := List.mem_filter.mpr ⟨List.mem_append_right _ ((List.mem_append_right _ (List.mem_append_right _ (List.mem_append_left _ (List.mem_of_getElem? (l := tables_1_3) (i := 75) (by decide +kernel)))))), rfl⟩
theorem k_556 : (Jvm.Cond.instanceMethod ({ cls := "LittleMix$Labels", name := "valueOf", desc := "(I)J" } : Jvm.MethodName)) ∈ mx_T := List.mem_filter.mpr ⟨List.mem_append_right _ ((List.mem_append_right _ (List.mem_append_right _ (List.mem_append_left _ (List.mem_of_getElem? (l := tables_1_3) (i := 76) (by decide +kernel)))))), rfl⟩
theorem k_557 : (Jvm.Cond.selects "LittleMix$Labels" ({ cls := "LittleMix$Labels", name := "valueOf", desc := "(I)J" } : Jvm.MethodName) ({ cls := "LittleMix$Labels", name := "valueOf", desc := "(I)J" } : Jvm.MethodName)) ∈ mx_T := List.mem_filter.mpr ⟨List.mem_append_right _ ((List.mem_append_right _ (List.mem_append_right _ (List.mem_append_left _ (List.mem_of_getElem? (l := tables_1_3) (i := 77) (by decide +kernel)))))), rfl⟩
theorem k_558 : (Jvm.Cond.code ({ cls := "LittleMix$Labels", name := "valueOf", desc := "(I)J" } : Jvm.MethodName) prog_4_method_5_code (2 : Nat) (Option.some Jvm.ClassFile.FieldType.long)) ∈ mx_T := List.mem_filter.mpr ⟨List.mem_append_right _ ((List.mem_append_right _ (List.mem_append_right _ (List.mem_append_left _ (List.mem_of_getElem? (l := tables_1_3) (i := 78) rfl))))), rfl⟩
theorem k_559 : (Jvm.Cond.methodLink "LittleMix$Sum" (112 : Nat) ({ cls := "LittleMix$Labels", name := "isRegister", desc := "(I)Z" } : Jvm.MethodName)) ∈ mx_T := List.mem_filter.mpr ⟨List.mem_append_right _ ((List.mem_append_right _ (List.mem_append_right _ (List.mem_append_left _ (List.mem_of_getElem? (l := tables_1_3) (i := 79) (by decide +kernel)))))), rfl⟩
theorem k_560 : (Jvm.Cond.instanceMethod ({ cls := "LittleMix$Labels", name := "isRegister", desc := "(I)Z" } : Jvm.MethodName)) ∈ mx_T := List.mem_filter.mpr ⟨List.mem_append_right _ ((List.mem_append_right _ (List.mem_append_right _ (List.mem_append_left _ (List.mem_of_getElem? (l := tables_1_3) (i := 80) (by decide +kernel)))))), rfl⟩
theorem k_561 : (Jvm.Cond.selects "LittleMix$Labels" ({ cls := "LittleMix$Labels", name := "isRegister", desc := "(I)Z" } : Jvm.MethodName) ({ cls := "LittleMix$Labels", name := "isRegister", desc := "(I)Z" } : Jvm.MethodName)) ∈ mx_T := List.mem_filter.mpr ⟨List.mem_append_right _ ((List.mem_append_right _ (List.mem_append_right _ (List.mem_append_left _ (List.mem_of_getElem? (l := tables_1_3) (i := 81) (by decide +kernel)))))), rfl⟩
theorem k_562 : (Jvm.Cond.code ({ cls := "LittleMix$Labels", name := "isRegister", desc := "(I)Z" } : Jvm.MethodName) prog_4_method_4_code (2 : Nat) (Option.some Jvm.ClassFile.FieldType.boolean)) ∈ mx_T := List.mem_filter.mpr ⟨List.mem_append_right _ ((List.mem_append_right _ (List.mem_append_right _ (List.mem_append_left _ (List.mem_of_getElem? (l := tables_1_3) (i := 82) rfl))))), rfl⟩
theorem k_563 : (Jvm.Cond.methodLink "LittleMix$Sum" (72 : Nat) ({ cls := "LittleMix$Sum", name := "readHexadecimal", desc := "()V" } : Jvm.MethodName)) ∈ mx_T := List.mem_filter.mpr ⟨List.mem_append_right _ ((List.mem_append_right _ (List.mem_append_right _ (List.mem_append_left _ (List.mem_of_getElem? (l := tables_1_3) (i := 83) (by decide +kernel)))))), rfl⟩
theorem k_565 : (Jvm.Cond.instanceMethod ({ cls := "LittleMix$Sum", name := "readHexadecimal", desc := "()V" } : Jvm.MethodName)) ∈ mx_T := List.mem_filter.mpr ⟨List.mem_append_right _ ((List.mem_append_right _ (List.mem_append_right _ (List.mem_append_left _ (List.mem_of_getElem? (l := tables_1_3) (i := 85) (by decide +kernel)))))), rfl⟩
theorem k_566 : (Jvm.Cond.code ({ cls := "LittleMix$Sum", name := "readHexadecimal", desc := "()V" } : Jvm.MethodName) prog_12_method_8_code (2 : Nat) (Option.none : Option Jvm.ClassFile.FieldType)) ∈ mx_T := List.mem_filter.mpr ⟨List.mem_append_right _ ((List.mem_append_right _ (List.mem_append_right _ (List.mem_append_left _ (List.mem_of_getElem? (l := tables_1_3) (i := 86) rfl))))), rfl⟩
theorem k_567 : (Jvm.Cond.methodLink "LittleMix$Sum" (89 : Nat) ({ cls := "LittleMix$Sum", name := "hexadecimal", desc := "(C)I" } : Jvm.MethodName)) ∈ mx_T := List.mem_filter.mpr ⟨List.mem_append_right _ ((List.mem_append_right _ (List.mem_append_right _ (List.mem_append_left _ (List.mem_of_getElem? (l := tables_1_3) (i := 87) (by decide +kernel)))))), rfl⟩
theorem k_568 : (Jvm.Cond.static ({ cls := "LittleMix$Sum", name := "hexadecimal", desc := "(C)I" } : Jvm.MethodName)) ∈ mx_T := List.mem_filter.mpr ⟨List.mem_append_right _ ((List.mem_append_right _ (List.mem_append_right _ (List.mem_append_left _ (List.mem_of_getElem? (l := tables_1_3) (i := 88) (by decide +kernel)))))), rfl⟩
theorem k_569 : (Jvm.Cond.code ({ cls := "LittleMix$Sum", name := "hexadecimal", desc := "(C)I" } : Jvm.MethodName) prog_12_method_9_code (1 : Nat) (Option.some Jvm.ClassFile.FieldType.int)) ∈ mx_T := List.mem_filter.mpr ⟨List.mem_append_right _ ((List.mem_append_right _ (List.mem_append_right _ (List.mem_append_left _ (List.mem_of_getElem? (l := tables_1_3) (i := 89) rfl))))), rfl⟩
theorem k_570 : (Jvm.Cond.methodLink "LittleMix$Sum" (75 : Nat) ({ cls := "LittleMix$Sum", name := "readCharacter", desc := "()V" } : Jvm.MethodName)) ∈ mx_T := List.mem_filter.mpr ⟨List.mem_append_right _ ((List.mem_append_right _ (List.mem_append_right _ (List.mem_append_left _ (List.mem_of_getElem? (l := tables_1_3) (i := 90) (by decide +kernel)))))), rfl⟩
theorem k_572 : (Jvm.Cond.instanceMethod ({ cls := "LittleMix$Sum", name := "readCharacter", desc := "()V" } : Jvm.MethodName)) ∈ mx_T := List.mem_filter.mpr ⟨List.mem_append_right _ ((List.mem_append_right _ (List.mem_append_right _ (List.mem_append_left _ (List.mem_of_getElem? (l := tables_1_3) (i := 92) (by decide +kernel)))))), rfl⟩
theorem k_573 : (Jvm.Cond.code ({ cls := "LittleMix$Sum", name := "readCharacter", desc := "()V" } : Jvm.MethodName) prog_12_method_10_code (1 : Nat) (Option.none : Option Jvm.ClassFile.FieldType)) ∈ mx_T := List.mem_filter.mpr ⟨List.mem_append_right _ ((List.mem_append_right _ (List.mem_append_right _ (List.mem_append_left _ (List.mem_of_getElem? (l := tables_1_3) (i := 93) rfl))))), rfl⟩
theorem k_574 : (Jvm.Cond.methodLink "LittleMix$Sum" (78 : Nat) ({ cls := "LittleMix$Sum", name := "readDecimal", desc := "()V" } : Jvm.MethodName)) ∈ mx_T := List.mem_filter.mpr ⟨List.mem_append_right _ ((List.mem_append_right _ (List.mem_append_right _ (List.mem_append_left _ (List.mem_of_getElem? (l := tables_1_3) (i := 94) (by decide +kernel)))))), rfl⟩
theorem k_576 : (Jvm.Cond.instanceMethod ({ cls := "LittleMix$Sum", name := "readDecimal", desc := "()V" } : Jvm.MethodName)) ∈ mx_T := List.mem_filter.mpr ⟨List.mem_append_right _ ((List.mem_append_right _ (List.mem_append_right _ (List.mem_append_left _ (List.mem_of_getElem? (l := tables_1_3) (i := 96) (by decide +kernel)))))), rfl⟩
theorem k_577 : (Jvm.Cond.code ({ cls := "LittleMix$Sum", name := "readDecimal", desc := "()V" } : Jvm.MethodName) prog_12_method_7_code (2 : Nat) (Option.none : Option Jvm.ClassFile.FieldType)) ∈ mx_T := List.mem_filter.mpr ⟨List.mem_append_right _ ((List.mem_append_right _ (List.mem_append_right _ (List.mem_append_left _ (List.mem_of_getElem? (l := tables_1_3) (i := 97) rfl))))), rfl⟩
theorem k_578 : (Jvm.Cond.methodLink "LittleMix$Sum" (84 : Nat) ({ cls := "LittleMix$Line", name := "isDigit", desc := "(C)Z" } : Jvm.MethodName)) ∈ mx_T := List.mem_filter.mpr ⟨List.mem_append_right _ ((List.mem_append_right _ (List.mem_append_right _ (List.mem_append_left _ (List.mem_of_getElem? (l := tables_1_3) (i := 98) (by decide +kernel)))))), rfl⟩
theorem k_579 : (Jvm.Cond.constantLong "LittleMix$Sum" (87 : Nat) (10 : Int64)) ∈ mx_T := List.mem_filter.mpr ⟨List.mem_append_right _ ((List.mem_append_right _ (List.mem_append_right _ (List.mem_append_left _ (List.mem_of_getElem? (l := tables_1_3) (i := 99) (by decide +kernel)))))), rfl⟩
theorem k_580 : (Jvm.Cond.methodLink "LittleMix$Sum" (81 : Nat) ({ cls := "LittleMix$Sum", name := "turnIntoRegister", desc := "(Z)V" } : Jvm.MethodName)) ∈ mx_T := List.mem_filter.mpr ⟨List.mem_append_right _ ((List.mem_append_right _ (List.mem_append_right _ (List.mem_append_left _ (List.mem_of_getElem? (l := tables_1_3) (i := 100) (by decide +kernel)))))), rfl⟩
theorem k_582 : (Jvm.Cond.instanceMethod ({ cls := "LittleMix$Sum", name := "turnIntoRegister", desc := "(Z)V" } : Jvm.MethodName)) ∈ mx_T := List.mem_filter.mpr ⟨List.mem_append_right _ ((List.mem_append_right _ (List.mem_append_right _ (List.mem_append_left _ (List.mem_of_getElem? (l := tables_1_3) (i := 102) (by decide +kernel)))))), rfl⟩
theorem k_583 : (Jvm.Cond.code ({ cls := "LittleMix$Sum", name := "turnIntoRegister", desc := "(Z)V" } : Jvm.MethodName) prog_12_method_6_code (3 : Nat) (Option.none : Option Jvm.ClassFile.FieldType)) ∈ mx_T := List.mem_filter.mpr ⟨List.mem_append_right _ ((List.mem_append_right _ (List.mem_append_right _ (List.mem_append_left _ (List.mem_of_getElem? (l := tables_1_3) (i := 103) rfl))))), rfl⟩
theorem k_584 : (Jvm.Cond.constantLong "LittleMix$Sum" (50 : Nat) (255 : Int64)) ∈ mx_T := List.mem_filter.mpr ⟨List.mem_append_right _ ((List.mem_append_right _ (List.mem_append_right _ (List.mem_append_left _ (List.mem_of_getElem? (l := tables_1_3) (i := 104) (by decide +kernel)))))), rfl⟩
theorem k_585 : (Jvm.Cond.methodLink "LittleMix$Sum" (46 : Nat) ({ cls := "LittleMix$Sum", name := "addTerm", desc := "(ZZ)V" } : Jvm.MethodName)) ∈ mx_T := List.mem_filter.mpr ⟨List.mem_append_right _ ((List.mem_append_right _ (List.mem_append_right _ (List.mem_append_left _ (List.mem_of_getElem? (l := tables_1_3) (i := 105) (by decide +kernel)))))), rfl⟩
theorem k_587 : (Jvm.Cond.instanceMethod ({ cls := "LittleMix$Sum", name := "addTerm", desc := "(ZZ)V" } : Jvm.MethodName)) ∈ mx_T := List.mem_filter.mpr ⟨List.mem_append_right _ ((List.mem_append_right _ (List.mem_append_right _ (List.mem_append_left _ (List.mem_of_getElem? (l := tables_1_3) (i := 107) (by decide +kernel)))))), rfl⟩
theorem k_588 : (Jvm.Cond.code ({ cls := "LittleMix$Sum", name := "addTerm", desc := "(ZZ)V" } : Jvm.MethodName) prog_12_method_4_code (3 : Nat) (Option.none : Option Jvm.ClassFile.FieldType)) ∈ mx_T := List.mem_filter.mpr ⟨List.mem_append_right _ ((List.mem_append_right _ (List.mem_append_right _ (List.mem_append_left _ (List.mem_of_getElem? (l := tables_1_3) (i := 108) rfl))))), rfl⟩
theorem k_589 : (Jvm.Cond.methodLink "LittleMix$Sum" (52 : Nat) ({ cls := "LittleMix$Sum", name := "behindOperand", desc := "()I" } : Jvm.MethodName)) ∈ mx_T := List.mem_filter.mpr ⟨List.mem_append_right _ ((List.mem_append_right _ (List.mem_append_right _ (List.mem_append_left _ (List.mem_of_getElem? (l := tables_1_3) (i := 109) (by decide +kernel)))))), rfl⟩
theorem k_591 : (Jvm.Cond.instanceMethod ({ cls := "LittleMix$Sum", name := "behindOperand", desc := "()I" } : Jvm.MethodName)) ∈ mx_T := List.mem_filter.mpr ⟨List.mem_append_right _ ((List.mem_append_right _ (List.mem_append_right _ (List.mem_append_left _ (List.mem_of_getElem? (l := tables_1_3) (i := 111) (by decide +kernel)))))), rfl⟩
theorem k_592 : (Jvm.Cond.code ({ cls := "LittleMix$Sum", name := "behindOperand", desc := "()I" } : Jvm.MethodName) prog_12_method_3_code (1 : Nat) (Option.some Jvm.ClassFile.FieldType.int)) ∈ mx_T := List.mem_filter.mpr ⟨List.mem_append_right _ ((List.mem_append_right _ (List.mem_append_right _ (List.mem_append_left _ (List.mem_of_getElem? (l := tables_1_3) (i := 112) rfl))))), rfl⟩
theorem sl_Sum_readDecimal : Cond.selects y_Sum_readDecimal.cls y_Sum_readDecimal y_Sum_readDecimal ∈ mx_T := List.mem_filter.mpr ⟨List.mem_append_left _ (by decide +kernel), by decide +kernel⟩
theorem sl_Sum_readName : Cond.selects y_Sum_readName.cls y_Sum_readName y_Sum_readName ∈ mx_T := List.mem_filter.mpr ⟨List.mem_append_left _ (by decide +kernel), by decide +kernel⟩
theorem sl_Sum_readCharacter : Cond.selects y_Sum_readCharacter.cls y_Sum_readCharacter y_Sum_readCharacter ∈ mx_T := List.mem_filter.mpr ⟨List.mem_append_left _ (by decide +kernel), by decide +kernel⟩
theorem sl_Sum_readHexadecimal : Cond.selects y_Sum_readHexadecimal.cls y_Sum_readHexadecimal y_Sum_readHexadecimal ∈ mx_T := List.mem_filter.mpr ⟨List.mem_append_left _ (by decide +kernel), by decide +kernel⟩
theorem sl_Sum_turnIntoRegister : Cond.selects y_Sum_turnIntoRegister.cls y_Sum_turnIntoRegister y_Sum_turnIntoRegister ∈ mx_T := List.mem_filter.mpr ⟨List.mem_append_left _ (by decide +kernel), by decide +kernel⟩
theorem sl_Sum_behindOperand : Cond.selects y_Sum_behindOperand.cls y_Sum_behindOperand y_Sum_behindOperand ∈ mx_T := List.mem_filter.mpr ⟨List.mem_append_left _ (by decide +kernel), by decide +kernel⟩
theorem sl_Sum_readTerm : Cond.selects y_Sum_readTerm.cls y_Sum_readTerm y_Sum_readTerm ∈ mx_T := List.mem_filter.mpr ⟨List.mem_append_left _ (by decide +kernel), by decide +kernel⟩
theorem sl_Sum_addTerm : Cond.selects y_Sum_addTerm.cls y_Sum_addTerm y_Sum_addTerm ∈ mx_T := List.mem_filter.mpr ⟨List.mem_append_left _ (by decide +kernel), by decide +kernel⟩
theorem d_Sum_addTerm_0 : decode b_Sum_addTerm 0 = .ok (.aload_n 0, 1) := by decide +kernel
theorem d_Sum_addTerm_1 : decode b_Sum_addTerm 1 = .ok (.getfield 56, 3) := by decide +kernel
theorem d_Sum_addTerm_4 : decode b_Sum_addTerm 4 = .ok (.ifCond .eq 27, 3) := by decide +kernel
theorem d_Sum_addTerm_7 : decode b_Sum_addTerm 7 = .ok (.iload_n 2, 1) := by decide +kernel
theorem d_Sum_addTerm_8 : decode b_Sum_addTerm 8 = .ok (.ifCond .eq 23, 3) := by decide +kernel
theorem d_Sum_addTerm_11 : decode b_Sum_addTerm 11 = .ok (.iload_n 1, 1) := by decide +kernel
theorem d_Sum_addTerm_12 : decode b_Sum_addTerm 12 = .ok (.ifCond .ne 19, 3) := by decide +kernel
theorem d_Sum_addTerm_15 : decode b_Sum_addTerm 15 = .ok (.aload_n 0, 1) := by decide +kernel
theorem d_Sum_addTerm_16 : decode b_Sum_addTerm 16 = .ok (.iconst 1, 1) := by decide +kernel
theorem d_Sum_addTerm_17 : decode b_Sum_addTerm 17 = .ok (.putfield 37, 3) := by decide +kernel
theorem d_Sum_addTerm_20 : decode b_Sum_addTerm 20 = .ok (.aload_n 0, 1) := by decide +kernel
theorem d_Sum_addTerm_21 : decode b_Sum_addTerm 21 = .ok (.aload_n 0, 1) := by decide +kernel
theorem d_Sum_addTerm_22 : decode b_Sum_addTerm 22 = .ok (.getfield 59, 3) := by decide +kernel
theorem d_Sum_addTerm_25 : decode b_Sum_addTerm 25 = .ok (.putfield 40, 3) := by decide +kernel
theorem d_Sum_addTerm_28 : decode b_Sum_addTerm 28 = .ok (.goto 47, 3) := by decide +kernel
theorem d_Sum_addTerm_31 : decode b_Sum_addTerm 31 = .ok (.aload_n 0, 1) := by decide +kernel
theorem d_Sum_addTerm_32 : decode b_Sum_addTerm 32 = .ok (.getfield 56, 3) := by decide +kernel
theorem d_Sum_addTerm_35 : decode b_Sum_addTerm 35 = .ok (.ifCond .eq 11, 3) := by decide +kernel
theorem d_Sum_addTerm_38 : decode b_Sum_addTerm 38 = .ok (.aload_n 0, 1) := by decide +kernel
theorem d_Sum_addTerm_39 : decode b_Sum_addTerm 39 = .ok (.iconst 0, 1) := by decide +kernel
theorem d_Sum_addTerm_40 : decode b_Sum_addTerm 40 = .ok (.putfield 34, 3) := by decide +kernel
theorem d_Sum_addTerm_43 : decode b_Sum_addTerm 43 = .ok (.goto 32, 3) := by decide +kernel
theorem d_Sum_addTerm_46 : decode b_Sum_addTerm 46 = .ok (.aload_n 0, 1) := by decide +kernel
theorem d_Sum_addTerm_47 : decode b_Sum_addTerm 47 = .ok (.iload_n 1, 1) := by decide +kernel
theorem d_Sum_addTerm_48 : decode b_Sum_addTerm 48 = .ok (.ifCond .eq 15, 3) := by decide +kernel
theorem d_Sum_addTerm_51 : decode b_Sum_addTerm 51 = .ok (.aload_n 0, 1) := by decide +kernel
theorem d_Sum_addTerm_52 : decode b_Sum_addTerm 52 = .ok (.getfield 40, 3) := by decide +kernel
theorem d_Sum_addTerm_55 : decode b_Sum_addTerm 55 = .ok (.aload_n 0, 1) := by decide +kernel
theorem d_Sum_addTerm_56 : decode b_Sum_addTerm 56 = .ok (.getfield 59, 3) := by decide +kernel
theorem d_Sum_addTerm_59 : decode b_Sum_addTerm 59 = .ok (.lsub, 1) := by decide +kernel
theorem d_Sum_addTerm_60 : decode b_Sum_addTerm 60 = .ok (.goto 12, 3) := by decide +kernel
theorem d_Sum_addTerm_63 : decode b_Sum_addTerm 63 = .ok (.aload_n 0, 1) := by decide +kernel
theorem d_Sum_addTerm_64 : decode b_Sum_addTerm 64 = .ok (.getfield 40, 3) := by decide +kernel
theorem d_Sum_addTerm_67 : decode b_Sum_addTerm 67 = .ok (.aload_n 0, 1) := by decide +kernel
theorem d_Sum_addTerm_68 : decode b_Sum_addTerm 68 = .ok (.getfield 59, 3) := by decide +kernel
theorem d_Sum_addTerm_71 : decode b_Sum_addTerm 71 = .ok (.ladd, 1) := by decide +kernel
theorem d_Sum_addTerm_72 : decode b_Sum_addTerm 72 = .ok (.putfield 40, 3) := by decide +kernel
theorem d_Sum_addTerm_75 : decode b_Sum_addTerm 75 = .ok (.return_, 1) := by decide +kernel
theorem d_Sum_behindOperand_0 : decode b_Sum_behindOperand 0 = .ok (.aload_n 0, 1) := by decide +kernel
theorem d_Sum_behindOperand_1 : decode b_Sum_behindOperand 1 = .ok (.getfield 19, 3) := by decide +kernel
theorem d_Sum_behindOperand_4 : decode b_Sum_behindOperand 4 = .ok (.aload_n 0, 1) := by decide +kernel
theorem d_Sum_behindOperand_5 : decode b_Sum_behindOperand 5 = .ok (.getfield 23, 3) := by decide +kernel
theorem d_Sum_behindOperand_8 : decode b_Sum_behindOperand 8 = .ok (.if_icmp .ge 17, 3) := by decide +kernel
theorem d_Sum_behindOperand_11 : decode b_Sum_behindOperand 11 = .ok (.aload_n 0, 1) := by decide +kernel
theorem d_Sum_behindOperand_12 : decode b_Sum_behindOperand 12 = .ok (.getfield 9, 3) := by decide +kernel
theorem d_Sum_behindOperand_15 : decode b_Sum_behindOperand 15 = .ok (.aload_n 0, 1) := by decide +kernel
theorem d_Sum_behindOperand_16 : decode b_Sum_behindOperand 16 = .ok (.getfield 19, 3) := by decide +kernel
theorem d_Sum_behindOperand_19 : decode b_Sum_behindOperand 19 = .ok (.caload, 1) := by decide +kernel
theorem d_Sum_behindOperand_20 : decode b_Sum_behindOperand 20 = .ok (.bipush 32, 2) := by decide +kernel
theorem d_Sum_behindOperand_22 : decode b_Sum_behindOperand 22 = .ok (.if_icmp .ne 8, 3) := by decide +kernel
theorem d_Sum_behindOperand_25 : decode b_Sum_behindOperand 25 = .ok (.aload_n 0, 1) := by decide +kernel
theorem d_Sum_behindOperand_26 : decode b_Sum_behindOperand 26 = .ok (.getfield 23, 3) := by decide +kernel
theorem d_Sum_behindOperand_29 : decode b_Sum_behindOperand 29 = .ok (.ireturn, 1) := by decide +kernel
theorem d_Sum_behindOperand_30 : decode b_Sum_behindOperand 30 = .ok (.aload_n 0, 1) := by decide +kernel
theorem d_Sum_behindOperand_31 : decode b_Sum_behindOperand 31 = .ok (.getfield 9, 3) := by decide +kernel
theorem d_Sum_behindOperand_34 : decode b_Sum_behindOperand 34 = .ok (.aload_n 0, 1) := by decide +kernel
theorem d_Sum_behindOperand_35 : decode b_Sum_behindOperand 35 = .ok (.getfield 19, 3) := by decide +kernel
theorem d_Sum_behindOperand_38 : decode b_Sum_behindOperand 38 = .ok (.caload, 1) := by decide +kernel
theorem d_Sum_behindOperand_39 : decode b_Sum_behindOperand 39 = .ok (.bipush 44, 2) := by decide +kernel
theorem d_Sum_behindOperand_41 : decode b_Sum_behindOperand 41 = .ok (.if_icmp .ne 25, 3) := by decide +kernel
theorem d_Sum_behindOperand_44 : decode b_Sum_behindOperand 44 = .ok (.aload_n 0, 1) := by decide +kernel
theorem d_Sum_behindOperand_45 : decode b_Sum_behindOperand 45 = .ok (.getfield 19, 3) := by decide +kernel
theorem d_Sum_behindOperand_48 : decode b_Sum_behindOperand 48 = .ok (.iconst 1, 1) := by decide +kernel
theorem d_Sum_behindOperand_49 : decode b_Sum_behindOperand 49 = .ok (.iadd, 1) := by decide +kernel
theorem d_Sum_behindOperand_50 : decode b_Sum_behindOperand 50 = .ok (.aload_n 0, 1) := by decide +kernel
theorem d_Sum_behindOperand_51 : decode b_Sum_behindOperand 51 = .ok (.getfield 23, 3) := by decide +kernel
theorem d_Sum_behindOperand_54 : decode b_Sum_behindOperand 54 = .ok (.if_icmp .ge 12, 3) := by decide +kernel
theorem d_Sum_behindOperand_57 : decode b_Sum_behindOperand 57 = .ok (.aload_n 0, 1) := by decide +kernel
theorem d_Sum_behindOperand_58 : decode b_Sum_behindOperand 58 = .ok (.getfield 19, 3) := by decide +kernel
theorem d_Sum_behindOperand_61 : decode b_Sum_behindOperand 61 = .ok (.iconst 1, 1) := by decide +kernel
theorem d_Sum_behindOperand_62 : decode b_Sum_behindOperand 62 = .ok (.iadd, 1) := by decide +kernel
theorem d_Sum_behindOperand_63 : decode b_Sum_behindOperand 63 = .ok (.goto 4, 3) := by decide +kernel
theorem d_Sum_behindOperand_66 : decode b_Sum_behindOperand 66 = .ok (.iconst (-1), 1) := by decide +kernel
theorem d_Sum_behindOperand_67 : decode b_Sum_behindOperand 67 = .ok (.ireturn, 1) := by decide +kernel
theorem d_Sum_hexadecimal_0 : decode b_Sum_hexadecimal 0 = .ok (.iload_n 0, 1) := by decide +kernel
theorem d_Sum_hexadecimal_1 : decode b_Sum_hexadecimal 1 = .ok (.bipush 48, 2) := by decide +kernel
theorem d_Sum_hexadecimal_3 : decode b_Sum_hexadecimal 3 = .ok (.if_icmp .lt 14, 3) := by decide +kernel
theorem d_Sum_hexadecimal_6 : decode b_Sum_hexadecimal 6 = .ok (.iload_n 0, 1) := by decide +kernel
theorem d_Sum_hexadecimal_7 : decode b_Sum_hexadecimal 7 = .ok (.bipush 57, 2) := by decide +kernel
theorem d_Sum_hexadecimal_9 : decode b_Sum_hexadecimal 9 = .ok (.if_icmp .gt 8, 3) := by decide +kernel
theorem d_Sum_hexadecimal_12 : decode b_Sum_hexadecimal 12 = .ok (.iload_n 0, 1) := by decide +kernel
theorem d_Sum_hexadecimal_13 : decode b_Sum_hexadecimal 13 = .ok (.bipush 48, 2) := by decide +kernel
theorem d_Sum_hexadecimal_15 : decode b_Sum_hexadecimal 15 = .ok (.isub, 1) := by decide +kernel
theorem d_Sum_hexadecimal_16 : decode b_Sum_hexadecimal 16 = .ok (.ireturn, 1) := by decide +kernel
theorem d_Sum_hexadecimal_17 : decode b_Sum_hexadecimal 17 = .ok (.iload_n 0, 1) := by decide +kernel
theorem d_Sum_hexadecimal_18 : decode b_Sum_hexadecimal 18 = .ok (.bipush 65, 2) := by decide +kernel
theorem d_Sum_hexadecimal_20 : decode b_Sum_hexadecimal 20 = .ok (.if_icmp .lt 17, 3) := by decide +kernel
theorem d_Sum_hexadecimal_23 : decode b_Sum_hexadecimal 23 = .ok (.iload_n 0, 1) := by decide +kernel
theorem d_Sum_hexadecimal_24 : decode b_Sum_hexadecimal 24 = .ok (.bipush 70, 2) := by decide +kernel
theorem d_Sum_hexadecimal_26 : decode b_Sum_hexadecimal 26 = .ok (.if_icmp .gt 11, 3) := by decide +kernel
theorem d_Sum_hexadecimal_29 : decode b_Sum_hexadecimal 29 = .ok (.iload_n 0, 1) := by decide +kernel
theorem d_Sum_hexadecimal_30 : decode b_Sum_hexadecimal 30 = .ok (.bipush 65, 2) := by decide +kernel
theorem d_Sum_hexadecimal_32 : decode b_Sum_hexadecimal 32 = .ok (.isub, 1) := by decide +kernel
theorem d_Sum_hexadecimal_33 : decode b_Sum_hexadecimal 33 = .ok (.bipush 10, 2) := by decide +kernel
theorem d_Sum_hexadecimal_35 : decode b_Sum_hexadecimal 35 = .ok (.iadd, 1) := by decide +kernel
theorem d_Sum_hexadecimal_36 : decode b_Sum_hexadecimal 36 = .ok (.ireturn, 1) := by decide +kernel
theorem d_Sum_hexadecimal_37 : decode b_Sum_hexadecimal 37 = .ok (.iload_n 0, 1) := by decide +kernel
theorem d_Sum_hexadecimal_38 : decode b_Sum_hexadecimal 38 = .ok (.bipush 97, 2) := by decide +kernel
theorem d_Sum_hexadecimal_40 : decode b_Sum_hexadecimal 40 = .ok (.if_icmp .lt 19, 3) := by decide +kernel
theorem d_Sum_hexadecimal_43 : decode b_Sum_hexadecimal 43 = .ok (.iload_n 0, 1) := by decide +kernel
theorem d_Sum_hexadecimal_44 : decode b_Sum_hexadecimal 44 = .ok (.bipush 102, 2) := by decide +kernel
theorem d_Sum_hexadecimal_46 : decode b_Sum_hexadecimal 46 = .ok (.if_icmp .gt 13, 3) := by decide +kernel
theorem d_Sum_hexadecimal_49 : decode b_Sum_hexadecimal 49 = .ok (.iload_n 0, 1) := by decide +kernel
theorem d_Sum_hexadecimal_50 : decode b_Sum_hexadecimal 50 = .ok (.bipush 97, 2) := by decide +kernel
theorem d_Sum_hexadecimal_52 : decode b_Sum_hexadecimal 52 = .ok (.isub, 1) := by decide +kernel
theorem d_Sum_hexadecimal_53 : decode b_Sum_hexadecimal 53 = .ok (.bipush 10, 2) := by decide +kernel
theorem d_Sum_hexadecimal_55 : decode b_Sum_hexadecimal 55 = .ok (.iadd, 1) := by decide +kernel
theorem d_Sum_hexadecimal_56 : decode b_Sum_hexadecimal 56 = .ok (.goto 4, 3) := by decide +kernel
theorem d_Sum_hexadecimal_59 : decode b_Sum_hexadecimal 59 = .ok (.iconst (-1), 1) := by decide +kernel
theorem d_Sum_hexadecimal_60 : decode b_Sum_hexadecimal 60 = .ok (.ireturn, 1) := by decide +kernel
theorem d_Sum_read_0 : decode b_Sum_read 0 = .ok (.aload_n 0, 1) := by decide +kernel
theorem d_Sum_read_1 : decode b_Sum_read 1 = .ok (.iload_n 1, 1) := by decide +kernel
theorem d_Sum_read_2 : decode b_Sum_read 2 = .ok (.putfield 19, 3) := by decide +kernel
theorem d_Sum_read_5 : decode b_Sum_read 5 = .ok (.aload_n 0, 1) := by decide +kernel
theorem d_Sum_read_6 : decode b_Sum_read 6 = .ok (.iload_n 2, 1) := by decide +kernel
theorem d_Sum_read_7 : decode b_Sum_read 7 = .ok (.putfield 23, 3) := by decide +kernel
theorem d_Sum_read_10 : decode b_Sum_read 10 = .ok (.aload_n 0, 1) := by decide +kernel
theorem d_Sum_read_11 : decode b_Sum_read 11 = .ok (.lload_n 3, 1) := by decide +kernel
theorem d_Sum_read_12 : decode b_Sum_read 12 = .ok (.putfield 26, 3) := by decide +kernel
theorem d_Sum_read_15 : decode b_Sum_read 15 = .ok (.aload_n 0, 1) := by decide +kernel
theorem d_Sum_read_16 : decode b_Sum_read 16 = .ok (.iconst 1, 1) := by decide +kernel
theorem d_Sum_read_17 : decode b_Sum_read 17 = .ok (.putfield 30, 3) := by decide +kernel
theorem d_Sum_read_20 : decode b_Sum_read 20 = .ok (.aload_n 0, 1) := by decide +kernel
theorem d_Sum_read_21 : decode b_Sum_read 21 = .ok (.iconst 1, 1) := by decide +kernel
theorem d_Sum_read_22 : decode b_Sum_read 22 = .ok (.putfield 34, 3) := by decide +kernel
theorem d_Sum_read_25 : decode b_Sum_read 25 = .ok (.aload_n 0, 1) := by decide +kernel
theorem d_Sum_read_26 : decode b_Sum_read 26 = .ok (.iconst 0, 1) := by decide +kernel
theorem d_Sum_read_27 : decode b_Sum_read 27 = .ok (.putfield 37, 3) := by decide +kernel
theorem d_Sum_read_30 : decode b_Sum_read 30 = .ok (.aload_n 0, 1) := by decide +kernel
theorem d_Sum_read_31 : decode b_Sum_read 31 = .ok (.lconst 0, 1) := by decide +kernel
theorem d_Sum_read_32 : decode b_Sum_read 32 = .ok (.putfield 40, 3) := by decide +kernel
theorem d_Sum_read_35 : decode b_Sum_read 35 = .ok (.aload_n 0, 1) := by decide +kernel
theorem d_Sum_read_36 : decode b_Sum_read 36 = .ok (.getfield 19, 3) := by decide +kernel
theorem d_Sum_read_39 : decode b_Sum_read 39 = .ok (.aload_n 0, 1) := by decide +kernel
theorem d_Sum_read_40 : decode b_Sum_read 40 = .ok (.getfield 23, 3) := by decide +kernel
theorem d_Sum_read_43 : decode b_Sum_read 43 = .ok (.if_icmp .ge 21, 3) := by decide +kernel
theorem d_Sum_read_46 : decode b_Sum_read 46 = .ok (.aload_n 0, 1) := by decide +kernel
theorem d_Sum_read_47 : decode b_Sum_read 47 = .ok (.getfield 9, 3) := by decide +kernel
theorem d_Sum_read_50 : decode b_Sum_read 50 = .ok (.aload_n 0, 1) := by decide +kernel
theorem d_Sum_read_51 : decode b_Sum_read 51 = .ok (.getfield 19, 3) := by decide +kernel
theorem d_Sum_read_54 : decode b_Sum_read 54 = .ok (.caload, 1) := by decide +kernel
theorem d_Sum_read_55 : decode b_Sum_read 55 = .ok (.bipush 45, 2) := by decide +kernel
theorem d_Sum_read_57 : decode b_Sum_read 57 = .ok (.if_icmp .ne 7, 3) := by decide +kernel
theorem d_Sum_read_60 : decode b_Sum_read 60 = .ok (.iconst 1, 1) := by decide +kernel
theorem d_Sum_read_61 : decode b_Sum_read 61 = .ok (.goto 4, 3) := by decide +kernel
theorem d_Sum_read_64 : decode b_Sum_read 64 = .ok (.iconst 0, 1) := by decide +kernel
theorem d_Sum_read_65 : decode b_Sum_read 65 = .ok (.istore 5, 2) := by decide +kernel
theorem d_Sum_read_67 : decode b_Sum_read 67 = .ok (.iload 5, 2) := by decide +kernel
theorem d_Sum_read_69 : decode b_Sum_read 69 = .ok (.ifCond .eq 13, 3) := by decide +kernel
theorem d_Sum_read_72 : decode b_Sum_read 72 = .ok (.aload_n 0, 1) := by decide +kernel
theorem d_Sum_read_73 : decode b_Sum_read 73 = .ok (.dup, 1) := by decide +kernel
theorem d_Sum_read_74 : decode b_Sum_read 74 = .ok (.getfield 19, 3) := by decide +kernel
theorem d_Sum_read_77 : decode b_Sum_read 77 = .ok (.iconst 1, 1) := by decide +kernel
theorem d_Sum_read_78 : decode b_Sum_read 78 = .ok (.iadd, 1) := by decide +kernel
theorem d_Sum_read_79 : decode b_Sum_read 79 = .ok (.putfield 19, 3) := by decide +kernel
theorem d_Sum_read_82 : decode b_Sum_read 82 = .ok (.iconst 1, 1) := by decide +kernel
theorem d_Sum_read_83 : decode b_Sum_read 83 = .ok (.istore 6, 2) := by decide +kernel
theorem d_Sum_read_85 : decode b_Sum_read 85 = .ok (.iload_n 1, 1) := by decide +kernel
theorem d_Sum_read_86 : decode b_Sum_read 86 = .ok (.istore 7, 2) := by decide +kernel
theorem d_Sum_read_88 : decode b_Sum_read 88 = .ok (.iload 7, 2) := by decide +kernel
theorem d_Sum_read_90 : decode b_Sum_read 90 = .ok (.iload_n 2, 1) := by decide +kernel
theorem d_Sum_read_91 : decode b_Sum_read 91 = .ok (.if_icmp .ge 124, 3) := by decide +kernel
theorem d_Sum_read_94 : decode b_Sum_read 94 = .ok (.iload 6, 2) := by decide +kernel
theorem d_Sum_read_96 : decode b_Sum_read 96 = .ok (.ifCond .eq 119, 3) := by decide +kernel
theorem d_Sum_read_99 : decode b_Sum_read 99 = .ok (.aload_n 0, 1) := by decide +kernel
theorem d_Sum_read_100 : decode b_Sum_read 100 = .ok (.invokevirtual 43, 3) := by decide +kernel
theorem d_Sum_read_103 : decode b_Sum_read 103 = .ok (.aload_n 0, 1) := by decide +kernel
theorem d_Sum_read_104 : decode b_Sum_read 104 = .ok (.iload 5, 2) := by decide +kernel
theorem d_Sum_read_106 : decode b_Sum_read 106 = .ok (.iload 7, 2) := by decide +kernel
theorem d_Sum_read_108 : decode b_Sum_read 108 = .ok (.iload_n 1, 1) := by decide +kernel
theorem d_Sum_read_109 : decode b_Sum_read 109 = .ok (.if_icmp .ne 7, 3) := by decide +kernel
theorem d_Sum_read_112 : decode b_Sum_read 112 = .ok (.iconst 1, 1) := by decide +kernel
theorem d_Sum_read_113 : decode b_Sum_read 113 = .ok (.goto 4, 3) := by decide +kernel
theorem d_Sum_read_116 : decode b_Sum_read 116 = .ok (.iconst 0, 1) := by decide +kernel
theorem d_Sum_read_117 : decode b_Sum_read 117 = .ok (.invokevirtual 46, 3) := by decide +kernel
theorem d_Sum_read_120 : decode b_Sum_read 120 = .ok (.aload_n 0, 1) := by decide +kernel
theorem d_Sum_read_121 : decode b_Sum_read 121 = .ok (.getfield 30, 3) := by decide +kernel
theorem d_Sum_read_124 : decode b_Sum_read 124 = .ok (.ifCond .eq 46, 3) := by decide +kernel
theorem d_Sum_read_127 : decode b_Sum_read 127 = .ok (.aload_n 0, 1) := by decide +kernel
theorem d_Sum_read_128 : decode b_Sum_read 128 = .ok (.getfield 19, 3) := by decide +kernel
theorem d_Sum_read_131 : decode b_Sum_read 131 = .ok (.aload_n 0, 1) := by decide +kernel
theorem d_Sum_read_132 : decode b_Sum_read 132 = .ok (.getfield 23, 3) := by decide +kernel
theorem d_Sum_read_135 : decode b_Sum_read 135 = .ok (.if_icmp .ge 35, 3) := by decide +kernel
theorem d_Sum_read_138 : decode b_Sum_read 138 = .ok (.aload_n 0, 1) := by decide +kernel
theorem d_Sum_read_139 : decode b_Sum_read 139 = .ok (.getfield 9, 3) := by decide +kernel
theorem d_Sum_read_142 : decode b_Sum_read 142 = .ok (.aload_n 0, 1) := by decide +kernel
theorem d_Sum_read_143 : decode b_Sum_read 143 = .ok (.getfield 19, 3) := by decide +kernel
theorem d_Sum_read_146 : decode b_Sum_read 146 = .ok (.caload, 1) := by decide +kernel
theorem d_Sum_read_147 : decode b_Sum_read 147 = .ok (.bipush 43, 2) := by decide +kernel
theorem d_Sum_read_149 : decode b_Sum_read 149 = .ok (.if_icmp .eq 17, 3) := by decide +kernel
theorem d_Sum_read_152 : decode b_Sum_read 152 = .ok (.aload_n 0, 1) := by decide +kernel
theorem d_Sum_read_153 : decode b_Sum_read 153 = .ok (.getfield 9, 3) := by decide +kernel
theorem d_Sum_read_156 : decode b_Sum_read 156 = .ok (.aload_n 0, 1) := by decide +kernel
theorem d_Sum_read_157 : decode b_Sum_read 157 = .ok (.getfield 19, 3) := by decide +kernel
theorem d_Sum_read_160 : decode b_Sum_read 160 = .ok (.caload, 1) := by decide +kernel
theorem d_Sum_read_161 : decode b_Sum_read 161 = .ok (.bipush 45, 2) := by decide +kernel
theorem d_Sum_read_163 : decode b_Sum_read 163 = .ok (.if_icmp .ne 7, 3) := by decide +kernel
theorem d_Sum_read_166 : decode b_Sum_read 166 = .ok (.iconst 1, 1) := by decide +kernel
theorem d_Sum_read_167 : decode b_Sum_read 167 = .ok (.goto 4, 3) := by decide +kernel
theorem d_Sum_read_170 : decode b_Sum_read 170 = .ok (.iconst 0, 1) := by decide +kernel
theorem d_Sum_read_171 : decode b_Sum_read 171 = .ok (.istore 6, 2) := by decide +kernel
theorem d_Sum_read_173 : decode b_Sum_read 173 = .ok (.iload 6, 2) := by decide +kernel
theorem d_Sum_read_175 : decode b_Sum_read 175 = .ok (.ifCond .eq 34, 3) := by decide +kernel
theorem d_Sum_read_178 : decode b_Sum_read 178 = .ok (.aload_n 0, 1) := by decide +kernel
theorem d_Sum_read_179 : decode b_Sum_read 179 = .ok (.getfield 9, 3) := by decide +kernel
theorem d_Sum_read_182 : decode b_Sum_read 182 = .ok (.aload_n 0, 1) := by decide +kernel
theorem d_Sum_read_183 : decode b_Sum_read 183 = .ok (.getfield 19, 3) := by decide +kernel
theorem d_Sum_read_186 : decode b_Sum_read 186 = .ok (.caload, 1) := by decide +kernel
theorem d_Sum_read_187 : decode b_Sum_read 187 = .ok (.bipush 45, 2) := by decide +kernel
theorem d_Sum_read_189 : decode b_Sum_read 189 = .ok (.if_icmp .ne 7, 3) := by decide +kernel
