abbrev b_Mac_access : ByteArray := prog_6_method_20_code
abbrev b_Mac_control : ByteArray := prog_6_method_25_code
abbrev b_Mac_decode : ByteArray := prog_6_method_5_code
abbrev b_Mac_execute : ByteArray := prog_6_method_8_code
abbrev b_Mac_go : ByteArray := prog_6_method_3_code
abbrev b_Mac_setBack : ByteArray := prog_6_method_2_code
abbrev b_Mac_step : ByteArray := prog_6_method_4_code
abbrev y_Mac_access : MethodName := ⟨"LittleMix$Machine", "access", "()I"⟩
abbrev y_Mac_control : MethodName := ⟨"LittleMix$Machine", "control", "()I"⟩
abbrev y_Mac_decode : MethodName := ⟨"LittleMix$Machine", "decode", "()V"⟩
abbrev y_Mac_execute : MethodName := ⟨"LittleMix$Machine", "execute", "()I"⟩
abbrev y_Mac_go : MethodName := ⟨"LittleMix$Machine", "go", "(I)I"⟩
abbrev y_Mac_setBack : MethodName := ⟨"LittleMix$Machine", "setBack", "()V"⟩
abbrev y_Mac_step : MethodName := ⟨"LittleMix$Machine", "step", "()V"⟩
theorem p_Mac_access : y_Mac_access.cls ≠ "java/lang/invoke/MethodHandle" ∧ y_Mac_access.cls ≠ "java/lang/invoke/VarHandle" ∧ (parseMethodDescriptor y_Mac_access.desc).map (fun d => d.parameters.length) = some 0 := by decide +kernel
theorem p_Mac_added : y_Mac_added.cls ≠ "java/lang/invoke/MethodHandle" ∧ y_Mac_added.cls ≠ "java/lang/invoke/VarHandle" ∧ (parseMethodDescriptor y_Mac_added.desc).map (fun d => d.parameters.length) = some 0 := by decide +kernel
theorem p_Mac_branch : y_Mac_branch.cls ≠ "java/lang/invoke/MethodHandle" ∧ y_Mac_branch.cls ≠ "java/lang/invoke/VarHandle" ∧ (parseMethodDescriptor y_Mac_branch.desc).map (fun d => d.parameters.length) = some 0 := by decide +kernel
theorem p_Mac_choose : y_Mac_choose.cls ≠ "java/lang/invoke/MethodHandle" ∧ y_Mac_choose.cls ≠ "java/lang/invoke/VarHandle" ∧ (parseMethodDescriptor y_Mac_choose.desc).map (fun d => d.parameters.length) = some 0 := by decide +kernel
theorem p_Mac_combined : y_Mac_combined.cls ≠ "java/lang/invoke/MethodHandle" ∧ y_Mac_combined.cls ≠ "java/lang/invoke/VarHandle" ∧ (parseMethodDescriptor y_Mac_combined.desc).map (fun d => d.parameters.length) = some 0 := by decide +kernel
theorem p_Mac_control : y_Mac_control.cls ≠ "java/lang/invoke/MethodHandle" ∧ y_Mac_control.cls ≠ "java/lang/invoke/VarHandle" ∧ (parseMethodDescriptor y_Mac_control.desc).map (fun d => d.parameters.length) = some 0 := by decide +kernel
theorem p_Mac_decode : y_Mac_decode.cls ≠ "java/lang/invoke/MethodHandle" ∧ y_Mac_decode.cls ≠ "java/lang/invoke/VarHandle" ∧ (parseMethodDescriptor y_Mac_decode.desc).map (fun d => d.parameters.length) = some 0 := by decide +kernel
theorem p_Mac_execute : y_Mac_execute.cls ≠ "java/lang/invoke/MethodHandle" ∧ y_Mac_execute.cls ≠ "java/lang/invoke/VarHandle" ∧ (parseMethodDescriptor y_Mac_execute.desc).map (fun d => d.parameters.length) = some 0 := by decide +kernel
theorem p_Mac_getSpecial : y_Mac_getSpecial.cls ≠ "java/lang/invoke/MethodHandle" ∧ y_Mac_getSpecial.cls ≠ "java/lang/invoke/VarHandle" ∧ (parseMethodDescriptor y_Mac_getSpecial.desc).map (fun d => d.parameters.length) = some 0 := by decide +kernel
theorem p_Mac_happen : y_Mac_happen.cls ≠ "java/lang/invoke/MethodHandle" ∧ y_Mac_happen.cls ≠ "java/lang/invoke/VarHandle" ∧ (parseMethodDescriptor y_Mac_happen.desc).map (fun d => d.parameters.length) = some 0 := by decide +kernel
theorem p_Mac_multiplied : y_Mac_multiplied.cls ≠ "java/lang/invoke/MethodHandle" ∧ y_Mac_multiplied.cls ≠ "java/lang/invoke/VarHandle" ∧ (parseMethodDescriptor y_Mac_multiplied.desc).map (fun d => d.parameters.length) = some 0 := by decide +kernel
theorem p_Mac_popAndReturn : y_Mac_popAndReturn.cls ≠ "java/lang/invoke/MethodHandle" ∧ y_Mac_popAndReturn.cls ≠ "java/lang/invoke/VarHandle" ∧ (parseMethodDescriptor y_Mac_popAndReturn.desc).map (fun d => d.parameters.length) = some 0 := by decide +kernel
theorem p_Mac_pushAndJump : y_Mac_pushAndJump.cls ≠ "java/lang/invoke/MethodHandle" ∧ y_Mac_pushAndJump.cls ≠ "java/lang/invoke/VarHandle" ∧ (parseMethodDescriptor y_Mac_pushAndJump.desc).map (fun d => d.parameters.length) = some 0 := by decide +kernel
theorem p_Mac_putSpecial : y_Mac_putSpecial.cls ≠ "java/lang/invoke/MethodHandle" ∧ y_Mac_putSpecial.cls ≠ "java/lang/invoke/VarHandle" ∧ (parseMethodDescriptor y_Mac_putSpecial.desc).map (fun d => d.parameters.length) = some 0 := by decide +kernel
theorem p_Mac_scattered : y_Mac_scattered.cls ≠ "java/lang/invoke/MethodHandle" ∧ y_Mac_scattered.cls ≠ "java/lang/invoke/VarHandle" ∧ (parseMethodDescriptor y_Mac_scattered.desc).map (fun d => d.parameters.length) = some 0 := by decide +kernel
theorem p_Mac_shifted : y_Mac_shifted.cls ≠ "java/lang/invoke/MethodHandle" ∧ y_Mac_shifted.cls ≠ "java/lang/invoke/VarHandle" ∧ (parseMethodDescriptor y_Mac_shifted.desc).map (fun d => d.parameters.length) = some 0 := by decide +kernel
theorem p_Mac_step : y_Mac_step.cls ≠ "java/lang/invoke/MethodHandle" ∧ y_Mac_step.cls ≠ "java/lang/invoke/VarHandle" ∧ (parseMethodDescriptor y_Mac_step.desc).map (fun d => d.parameters.length) = some 0 := by decide +kernel
theorem p_Mac_widened : y_Mac_widened.cls ≠ "java/lang/invoke/MethodHandle" ∧ y_Mac_widened.cls ≠ "java/lang/invoke/VarHandle" ∧ (parseMethodDescriptor y_Mac_widened.desc).map (fun d => d.parameters.length) = some 0 := by decide +kernel
theorem p_Mac_withSign : y_Mac_withSign.cls ≠ "java/lang/invoke/MethodHandle" ∧ y_Mac_withSign.cls ≠ "java/lang/invoke/VarHandle" ∧ (parseMethodDescriptor y_Mac_withSign.desc).map (fun d => d.parameters.length) = some 2 := by decide +kernel
theorem p_Mem_instruction : y_Mem_instruction.cls ≠ "java/lang/invoke/MethodHandle" ∧ y_Mem_instruction.cls ≠ "java/lang/invoke/VarHandle" ∧ (parseMethodDescriptor y_Mem_instruction.desc).map (fun d => d.parameters.length) = some 1 := by decide +kernel
theorem p_Mem_write : y_Mem_write.cls ≠ "java/lang/invoke/MethodHandle" ∧ y_Mem_write.cls ≠ "java/lang/invoke/VarHandle" ∧ (parseMethodDescriptor y_Mem_write.desc).map (fun d => d.parameters.length) = some 3 := by decide +kernel
theorem p_Reg_reset : y_Reg_reset.cls ≠ "java/lang/invoke/MethodHandle" ∧ y_Reg_reset.cls ≠ "java/lang/invoke/VarHandle" ∧ (parseMethodDescriptor y_Reg_reset.desc).map (fun d => d.parameters.length) = some 0 := by decide +kernel
theorem k_332 : (Jvm.Cond.fieldLink "LittleMix$Machine" (28 : Nat) "LittleMix$Machine" "stop" "I") ∈ mx_T := List.mem_filter.mpr ⟨List.mem_append_right _ ((List.mem_append_right _ (List.mem_append_left _ (List.mem_of_getElem? (l := tables_1_2) (i := 92) (by decide +kernel))))), rfl⟩
theorem k_334 : (Jvm.Cond.fieldLink "LittleMix$Machine" (32 : Nat) "LittleMix$Machine" "oops" "I") ∈ mx_T := List.mem_filter.mpr ⟨List.mem_append_right _ ((List.mem_append_right _ (List.mem_append_left _ (List.mem_of_getElem? (l := tables_1_2) (i := 94) (by decide +kernel))))), rfl⟩
theorem k_336 : (Jvm.Cond.fieldLink "LittleMix$Machine" (35 : Nat) "LittleMix$Machine" "mems" "I") ∈ mx_T := List.mem_filter.mpr ⟨List.mem_append_right _ ((List.mem_append_right _ (List.mem_append_left _ (List.mem_of_getElem? (l := tables_1_2) (i := 96) (by decide +kernel))))), rfl⟩
theorem k_601 : (Jvm.Cond.instanceMethod ({ cls := "LittleMix$Memory", name := "write", desc := "(JIJ)V" } : Jvm.MethodName)) ∈ mx_T := List.mem_filter.mpr ⟨List.mem_append_right _ ((List.mem_append_right _ (List.mem_append_right _ (List.mem_append_left _ (List.mem_of_getElem? (l := tables_1_3) (i := 121) (by decide +kernel)))))), rfl⟩
theorem k_602 : (Jvm.Cond.selects "LittleMix$Memory" ({ cls := "LittleMix$Memory", name := "write", desc := "(JIJ)V" } : Jvm.MethodName) ({ cls := "LittleMix$Memory", name := "write", desc := "(JIJ)V" } : Jvm.MethodName)) ∈ mx_T := List.mem_filter.mpr ⟨List.mem_append_right _ ((List.mem_append_right _ (List.mem_append_right _ (List.mem_append_left _ (List.mem_of_getElem? (l := tables_1_3) (i := 122) (by decide +kernel)))))), rfl⟩
theorem k_603 : (Jvm.Cond.code ({ cls := "LittleMix$Memory", name := "write", desc := "(JIJ)V" } : Jvm.MethodName) prog_7_method_4_code (8 : Nat) (Option.none : Option Jvm.ClassFile.FieldType)) ∈ mx_T := List.mem_filter.mpr ⟨List.mem_append_right _ ((List.mem_append_right _ (List.mem_append_right _ (List.mem_append_left _ (List.mem_of_getElem? (l := tables_1_3) (i := 123) rfl))))), rfl⟩
theorem k_697 : (Jvm.Cond.methodLink "LittleMix$Machine" (23 : Nat) ({ cls := "LittleMix$Registers", name := "reset", desc := "()V" } : Jvm.MethodName)) ∈ mx_T := List.mem_filter.mpr ⟨List.mem_append_right _ ((List.mem_append_right _ (List.mem_append_right _ (List.mem_append_left _ (List.mem_of_getElem? (l := tables_1_3) (i := 217) (by decide +kernel)))))), rfl⟩
theorem k_698 : (Jvm.Cond.instanceMethod ({ cls := "LittleMix$Registers", name := "reset", desc := "()V" } : Jvm.MethodName)) ∈ mx_T := List.mem_filter.mpr ⟨List.mem_append_right _ ((List.mem_append_right _ (List.mem_append_right _ (List.mem_append_left _ (List.mem_of_getElem? (l := tables_1_3) (i := 218) (by decide +kernel)))))), rfl⟩
theorem k_699 : (Jvm.Cond.selects "LittleMix$Registers" ({ cls := "LittleMix$Registers", name := "reset", desc := "()V" } : Jvm.MethodName) ({ cls := "LittleMix$Registers", name := "reset", desc := "()V" } : Jvm.MethodName)) ∈ mx_T := List.mem_filter.mpr ⟨List.mem_append_right _ ((List.mem_append_right _ (List.mem_append_right _ (List.mem_append_left _ (List.mem_of_getElem? (l := tables_1_3) (i := 219) (by decide +kernel)))))), rfl⟩
theorem k_700 : (Jvm.Cond.code ({ cls := "LittleMix$Registers", name := "reset", desc := "()V" } : Jvm.MethodName) prog_10_method_2_code (2 : Nat) (Option.none : Option Jvm.ClassFile.FieldType)) ∈ mx_T := List.mem_filter.mpr ⟨List.mem_append_right _ ((List.mem_append_right _ (List.mem_append_right _ (List.mem_append_left _ (List.mem_of_getElem? (l := tables_1_3) (i := 220) rfl))))), rfl⟩
theorem k_745 : (Jvm.Cond.methodLink "LittleMix$Machine" (38 : Nat) ({ cls := "LittleMix$Machine", name := "step", desc := "()V" } : Jvm.MethodName)) ∈ mx_T := List.mem_filter.mpr ⟨List.mem_append_right _ ((List.mem_append_right _ (List.mem_append_right _ (List.mem_append_right _ (List.mem_append_left _ (List.mem_of_getElem? (l := tables_1_4) (i := 25) (by decide +kernel))))))), rfl⟩
theorem k_747 : (Jvm.Cond.instanceMethod ({ cls := "LittleMix$Machine", name := "step", desc := "()V" } : Jvm.MethodName)) ∈ mx_T := List.mem_filter.mpr ⟨List.mem_append_right _ ((List.mem_append_right _ (List.mem_append_right _ (List.mem_append_right _ (List.mem_append_left _ (List.mem_of_getElem? (l := tables_1_4) (i := 27) (by decide +kernel))))))), rfl⟩
theorem k_748 : (Jvm.Cond.code ({ cls := "LittleMix$Machine", name := "step", desc := "()V" } : Jvm.MethodName) prog_6_method_4_code (1 : Nat) (Option.none : Option Jvm.ClassFile.FieldType)) ∈ mx_T := List.mem_filter.mpr ⟨List.mem_append_right _ ((List.mem_append_right _ (List.mem_append_right _ (List.mem_append_right _ (List.mem_append_left _ (List.mem_of_getElem? (l := tables_1_4) (i := 28) rfl)))))), rfl⟩
theorem k_749 : (Jvm.Cond.methodLink "LittleMix$Machine" (41 : Nat) ({ cls := "LittleMix$Memory", name := "holds", desc := "(JI)Z" } : Jvm.MethodName)) ∈ mx_T := List.mem_filter.mpr ⟨List.mem_append_right _ ((List.mem_append_right _ (List.mem_append_right _ (List.mem_append_right _ (List.mem_append_left _ (List.mem_of_getElem? (l := tables_1_4) (i := 29) (by decide +kernel))))))), rfl⟩
theorem k_750 : (Jvm.Cond.methodLink "LittleMix$Machine" (47 : Nat) ({ cls := "LittleMix$Machine", name := "decode", desc := "()V" } : Jvm.MethodName)) ∈ mx_T := List.mem_filter.mpr ⟨List.mem_append_right _ ((List.mem_append_right _ (List.mem_append_right _ (List.mem_append_right _ (List.mem_append_left _ (List.mem_of_getElem? (l := tables_1_4) (i := 30) (by decide +kernel))))))), rfl⟩
theorem k_752 : (Jvm.Cond.instanceMethod ({ cls := "LittleMix$Machine", name := "decode", desc := "()V" } : Jvm.MethodName)) ∈ mx_T := List.mem_filter.mpr ⟨List.mem_append_right _ ((List.mem_append_right _ (List.mem_append_right _ (List.mem_append_right _ (List.mem_append_left _ (List.mem_of_getElem? (l := tables_1_4) (i := 32) (by decide +kernel))))))), rfl⟩
theorem k_753 : (Jvm.Cond.code ({ cls := "LittleMix$Machine", name := "decode", desc := "()V" } : Jvm.MethodName) prog_6_method_5_code (1 : Nat) (Option.none : Option Jvm.ClassFile.FieldType)) ∈ mx_T := List.mem_filter.mpr ⟨List.mem_append_right _ ((List.mem_append_right _ (List.mem_append_right _ (List.mem_append_right _ (List.mem_append_left _ (List.mem_of_getElem? (l := tables_1_4) (i := 33) rfl)))))), rfl⟩
theorem k_754 : (Jvm.Cond.methodLink "LittleMix$Machine" (66 : Nat) ({ cls := "LittleMix$Memory", name := "instruction", desc := "(J)I" } : Jvm.MethodName)) ∈ mx_T := List.mem_filter.mpr ⟨List.mem_append_right _ ((List.mem_append_right _ (List.mem_append_right _ (List.mem_append_right _ (List.mem_append_left _ (List.mem_of_getElem? (l := tables_1_4) (i := 34) (by decide +kernel))))))), rfl⟩
theorem k_755 : (Jvm.Cond.instanceMethod ({ cls := "LittleMix$Memory", name := "instruction", desc := "(J)I" } : Jvm.MethodName)) ∈ mx_T := List.mem_filter.mpr ⟨List.mem_append_right _ ((List.mem_append_right _ (List.mem_append_right _ (List.mem_append_right _ (List.mem_append_left _ (List.mem_of_getElem? (l := tables_1_4) (i := 35) (by decide +kernel))))))), rfl⟩
theorem k_756 : (Jvm.Cond.selects "LittleMix$Memory" ({ cls := "LittleMix$Memory", name := "instruction", desc := "(J)I" } : Jvm.MethodName) ({ cls := "LittleMix$Memory", name := "instruction", desc := "(J)I" } : Jvm.MethodName)) ∈ mx_T := List.mem_filter.mpr ⟨List.mem_append_right _ ((List.mem_append_right _ (List.mem_append_right _ (List.mem_append_right _ (List.mem_append_left _ (List.mem_of_getElem? (l := tables_1_4) (i := 36) (by decide +kernel))))))), rfl⟩
theorem k_757 : (Jvm.Cond.code ({ cls := "LittleMix$Memory", name := "instruction", desc := "(J)I" } : Jvm.MethodName) prog_7_method_5_code (5 : Nat) (Option.some Jvm.ClassFile.FieldType.int)) ∈ mx_T := List.mem_filter.mpr ⟨List.mem_append_right _ ((List.mem_append_right _ (List.mem_append_right _ (List.mem_append_right _ (List.mem_append_left _ (List.mem_of_getElem? (l := tables_1_4) (i := 37) rfl)))))), rfl⟩
theorem k_764 : (Jvm.Cond.methodLink "LittleMix$Machine" (50 : Nat) ({ cls := "LittleMix$Machine", name := "execute", desc := "()I" } : Jvm.MethodName)) ∈ mx_T := List.mem_filter.mpr ⟨List.mem_append_right _ ((List.mem_append_right _ (List.mem_append_right _ (List.mem_append_right _ (List.mem_append_left _ (List.mem_of_getElem? (l := tables_1_4) (i := 44) (by decide +kernel))))))), rfl⟩
theorem k_766 : (Jvm.Cond.instanceMethod ({ cls := "LittleMix$Machine", name := "execute", desc := "()I" } : Jvm.MethodName)) ∈ mx_T := List.mem_filter.mpr ⟨List.mem_append_right _ ((List.mem_append_right _ (List.mem_append_right _ (List.mem_append_right _ (List.mem_append_left _ (List.mem_of_getElem? (l := tables_1_4) (i := 46) (by decide +kernel))))))), rfl⟩
theorem k_767 : (Jvm.Cond.code ({ cls := "LittleMix$Machine", name := "execute", desc := "()I" } : Jvm.MethodName) prog_6_method_8_code (1 : Nat) (Option.some Jvm.ClassFile.FieldType.int)) ∈ mx_T := List.mem_filter.mpr ⟨List.mem_append_right _ ((List.mem_append_right _ (List.mem_append_right _ (List.mem_append_right _ (List.mem_append_left _ (List.mem_of_getElem? (l := tables_1_4) (i := 47) rfl)))))), rfl⟩
theorem k_768 : (Jvm.Cond.methodLink "LittleMix$Machine" (119 : Nat) ({ cls := "LittleMix$Machine", name := "access", desc := "()I" } : Jvm.MethodName)) ∈ mx_T := List.mem_filter.mpr ⟨List.mem_append_right _ ((List.mem_append_right _ (List.mem_append_right _ (List.mem_append_right _ (List.mem_append_left _ (List.mem_of_getElem? (l := tables_1_4) (i := 48) (by decide +kernel))))))), rfl⟩
theorem k_770 : (Jvm.Cond.instanceMethod ({ cls := "LittleMix$Machine", name := "access", desc := "()I" } : Jvm.MethodName)) ∈ mx_T := List.mem_filter.mpr ⟨List.mem_append_right _ ((List.mem_append_right _ (List.mem_append_right _ (List.mem_append_right _ (List.mem_append_left _ (List.mem_of_getElem? (l := tables_1_4) (i := 50) (by decide +kernel))))))), rfl⟩
theorem k_771 : (Jvm.Cond.code ({ cls := "LittleMix$Machine", name := "access", desc := "()I" } : Jvm.MethodName) prog_6_method_20_code (6 : Nat) (Option.some Jvm.ClassFile.FieldType.int)) ∈ mx_T := List.mem_filter.mpr ⟨List.mem_append_right _ ((List.mem_append_right _ (List.mem_append_right _ (List.mem_append_right _ (List.mem_append_left _ (List.mem_of_getElem? (l := tables_1_4) (i := 51) rfl)))))), rfl⟩
theorem k_772 : (Jvm.Cond.methodLink "LittleMix$Machine" (209 : Nat) ({ cls := "LittleMix$Memory", name := "read", desc := "(JI)J" } : Jvm.MethodName)) ∈ mx_T := List.mem_filter.mpr ⟨List.mem_append_right _ ((List.mem_append_right _ (List.mem_append_right _ (List.mem_append_right _ (List.mem_append_left _ (List.mem_of_getElem? (l := tables_1_4) (i := 52) (by decide +kernel))))))), rfl⟩
theorem k_773 : (Jvm.Cond.methodLink "LittleMix$Machine" (212 : Nat) ({ cls := "LittleMix$Machine", name := "withSign", desc := "(JI)J" } : Jvm.MethodName)) ∈ mx_T := List.mem_filter.mpr ⟨List.mem_append_right _ ((List.mem_append_right _ (List.mem_append_right _ (List.mem_append_right _ (List.mem_append_left _ (List.mem_of_getElem? (l := tables_1_4) (i := 53) (by decide +kernel))))))), rfl⟩
theorem k_775 : (Jvm.Cond.instanceMethod ({ cls := "LittleMix$Machine", name := "withSign", desc := "(JI)J" } : Jvm.MethodName)) ∈ mx_T := List.mem_filter.mpr ⟨List.mem_append_right _ ((List.mem_append_right _ (List.mem_append_right _ (List.mem_append_right _ (List.mem_append_left _ (List.mem_of_getElem? (l := tables_1_4) (i := 55) (by decide +kernel))))))), rfl⟩
theorem k_776 : (Jvm.Cond.code ({ cls := "LittleMix$Machine", name := "withSign", desc := "(JI)J" } : Jvm.MethodName) prog_6_method_21_code (5 : Nat) (Option.some Jvm.ClassFile.FieldType.long)) ∈ mx_T := List.mem_filter.mpr ⟨List.mem_append_right _ ((List.mem_append_right _ (List.mem_append_right _ (List.mem_append_right _ (List.mem_append_left _ (List.mem_of_getElem? (l := tables_1_4) (i := 56) rfl)))))), rfl⟩
theorem k_785 : (Jvm.Cond.methodLink "LittleMix$Machine" (215 : Nat) ({ cls := "LittleMix$Memory", name := "write", desc := "(JIJ)V" } : Jvm.MethodName)) ∈ mx_T := List.mem_filter.mpr ⟨List.mem_append_right _ ((List.mem_append_right _ (List.mem_append_right _ (List.mem_append_right _ (List.mem_append_left _ (List.mem_of_getElem? (l := tables_1_4) (i := 65) (by decide +kernel))))))), rfl⟩
theorem k_786 : (Jvm.Cond.methodLink "LittleMix$Machine" (122 : Nat) ({ cls := "LittleMix$Machine", name := "control", desc := "()I" } : Jvm.MethodName)) ∈ mx_T := List.mem_filter.mpr ⟨List.mem_append_right _ ((List.mem_append_right _ (List.mem_append_right _ (List.mem_append_right _ (List.mem_append_left _ (List.mem_of_getElem? (l := tables_1_4) (i := 66) (by decide +kernel))))))), rfl⟩
theorem k_788 : (Jvm.Cond.instanceMethod ({ cls := "LittleMix$Machine", name := "control", desc := "()I" } : Jvm.MethodName)) ∈ mx_T := List.mem_filter.mpr ⟨List.mem_append_right _ ((List.mem_append_right _ (List.mem_append_right _ (List.mem_append_right _ (List.mem_append_left _ (List.mem_of_getElem? (l := tables_1_4) (i := 68) (by decide +kernel))))))), rfl⟩
theorem k_789 : (Jvm.Cond.code ({ cls := "LittleMix$Machine", name := "control", desc := "()I" } : Jvm.MethodName) prog_6_method_25_code (1 : Nat) (Option.some Jvm.ClassFile.FieldType.int)) ∈ mx_T := List.mem_filter.mpr ⟨List.mem_append_right _ ((List.mem_append_right _ (List.mem_append_right _ (List.mem_append_right _ (List.mem_append_left _ (List.mem_of_getElem? (l := tables_1_4) (i := 69) rfl)))))), rfl⟩
theorem k_790 : (Jvm.Cond.constant "LittleMix$Machine" (231 : Nat) (16777215 : Int32)) ∈ mx_T := List.mem_filter.mpr ⟨List.mem_append_right _ ((List.mem_append_right _ (List.mem_append_right _ (List.mem_append_right _ (List.mem_append_left _ (List.mem_of_getElem? (l := tables_1_4) (i := 70) (by decide +kernel))))))), rfl⟩
theorem k_791 : (Jvm.Cond.constant "LittleMix$Machine" (232 : Nat) (16777216 : Int32)) ∈ mx_T := List.mem_filter.mpr ⟨List.mem_append_right _ ((List.mem_append_right _ (List.mem_append_right _ (List.mem_append_right _ (List.mem_append_left _ (List.mem_of_getElem? (l := tables_1_4) (i := 71) (by decide +kernel))))))), rfl⟩
theorem k_796 : (Jvm.Cond.methodLink "LittleMix$Machine" (233 : Nat) ({ cls := "LittleMix$Machine", name := "pushAndJump", desc := "()I" } : Jvm.MethodName)) ∈ mx_T := List.mem_filter.mpr ⟨List.mem_append_right _ ((List.mem_append_right _ (List.mem_append_right _ (List.mem_append_right _ (List.mem_append_left _ (List.mem_of_getElem? (l := tables_1_4) (i := 76) (by decide +kernel))))))), rfl⟩
theorem k_798 : (Jvm.Cond.instanceMethod ({ cls := "LittleMix$Machine", name := "pushAndJump", desc := "()I" } : Jvm.MethodName)) ∈ mx_T := List.mem_filter.mpr ⟨List.mem_append_right _ ((List.mem_append_right _ (List.mem_append_right _ (List.mem_append_right _ (List.mem_append_left _ (List.mem_of_getElem? (l := tables_1_4) (i := 78) (by decide +kernel))))))), rfl⟩
theorem k_799 : (Jvm.Cond.code ({ cls := "LittleMix$Machine", name := "pushAndJump", desc := "()I" } : Jvm.MethodName) prog_6_method_26_code (1 : Nat) (Option.some Jvm.ClassFile.FieldType.int)) ∈ mx_T := List.mem_filter.mpr ⟨List.mem_append_right _ ((List.mem_append_right _ (List.mem_append_right _ (List.mem_append_right _ (List.mem_append_left _ (List.mem_of_getElem? (l := tables_1_4) (i := 79) rfl)))))), rfl⟩
theorem k_816 : (Jvm.Cond.methodLink "LittleMix$Machine" (236 : Nat) ({ cls := "LittleMix$Machine", name := "putSpecial", desc := "()I" } : Jvm.MethodName)) ∈ mx_T := List.mem_filter.mpr ⟨List.mem_append_right _ ((List.mem_append_right _ (List.mem_append_right _ (List.mem_append_right _ (List.mem_append_left _ (List.mem_of_getElem? (l := tables_1_4) (i := 96) (by decide +kernel))))))), rfl⟩
theorem k_818 : (Jvm.Cond.instanceMethod ({ cls := "LittleMix$Machine", name := "putSpecial", desc := "()I" } : Jvm.MethodName)) ∈ mx_T := List.mem_filter.mpr ⟨List.mem_append_right _ ((List.mem_append_right _ (List.mem_append_right _ (List.mem_append_right _ (List.mem_append_left _ (List.mem_of_getElem? (l := tables_1_4) (i := 98) (by decide +kernel))))))), rfl⟩
theorem k_819 : (Jvm.Cond.code ({ cls := "LittleMix$Machine", name := "putSpecial", desc := "()I" } : Jvm.MethodName) prog_6_method_28_code (1 : Nat) (Option.some Jvm.ClassFile.FieldType.int)) ∈ mx_T := List.mem_filter.mpr ⟨List.mem_append_right _ ((List.mem_append_right _ (List.mem_append_right _ (List.mem_append_right _ (List.mem_append_left _ (List.mem_of_getElem? (l := tables_1_4) (i := 99) rfl)))))), rfl⟩
theorem k_829 : (Jvm.Cond.methodLink "LittleMix$Machine" (239 : Nat) ({ cls := "LittleMix$Machine", name := "popAndReturn", desc := "()I" } : Jvm.MethodName)) ∈ mx_T := List.mem_filter.mpr ⟨List.mem_append_right _ ((List.mem_append_right _ (List.mem_append_right _ (List.mem_append_right _ (List.mem_append_left _ (List.mem_of_getElem? (l := tables_1_4) (i := 109) (by decide +kernel))))))), rfl⟩
theorem k_831 : (Jvm.Cond.instanceMethod ({ cls := "LittleMix$Machine", name := "popAndReturn", desc := "()I" } : Jvm.MethodName)) ∈ mx_T := List.mem_filter.mpr ⟨List.mem_append_right _ ((List.mem_append_right _ (List.mem_append_right _ (List.mem_append_right _ (List.mem_append_left _ (List.mem_of_getElem? (l := tables_1_4) (i := 111) (by decide +kernel))))))), rfl⟩
theorem k_832 : (Jvm.Cond.code ({ cls := "LittleMix$Machine", name := "popAndReturn", desc := "()I" } : Jvm.MethodName) prog_6_method_27_code (1 : Nat) (Option.some Jvm.ClassFile.FieldType.int)) ∈ mx_T := List.mem_filter.mpr ⟨List.mem_append_right _ ((List.mem_append_right _ (List.mem_append_right _ (List.mem_append_right _ (List.mem_append_left _ (List.mem_of_getElem? (l := tables_1_4) (i := 112) rfl)))))), rfl⟩
theorem k_842 : (Jvm.Cond.methodLink "LittleMix$Machine" (242 : Nat) ({ cls := "LittleMix$Machine", name := "getSpecial", desc := "()I" } : Jvm.MethodName)) ∈ mx_T := List.mem_filter.mpr ⟨List.mem_append_right _ ((List.mem_append_right _ (List.mem_append_right _ (List.mem_append_right _ (List.mem_append_left _ (List.mem_of_getElem? (l := tables_1_4) (i := 122) (by decide +kernel))))))), rfl⟩
theorem k_844 : (Jvm.Cond.instanceMethod ({ cls := "LittleMix$Machine", name := "getSpecial", desc := "()I" } : Jvm.MethodName)) ∈ mx_T := List.mem_filter.mpr ⟨List.mem_append_right _ ((List.mem_append_right _ (List.mem_append_right _ (List.mem_append_right _ (List.mem_append_left _ (List.mem_of_getElem? (l := tables_1_4) (i := 124) (by decide +kernel))))))), rfl⟩
theorem k_845 : (Jvm.Cond.code ({ cls := "LittleMix$Machine", name := "getSpecial", desc := "()I" } : Jvm.MethodName) prog_6_method_29_code (1 : Nat) (Option.some Jvm.ClassFile.FieldType.int)) ∈ mx_T := List.mem_filter.mpr ⟨List.mem_append_right _ ((List.mem_append_right _ (List.mem_append_right _ (List.mem_append_right _ (List.mem_append_left _ (List.mem_of_getElem? (l := tables_1_4) (i := 125) rfl)))))), rfl⟩
theorem k_852 : (Jvm.Cond.methodLink "LittleMix$Machine" (125 : Nat) ({ cls := "LittleMix$Machine", name := "multiplied", desc := "()J" } : Jvm.MethodName)) ∈ mx_T := List.mem_filter.mpr ⟨List.mem_append_right _ ((List.mem_append_right _ (List.mem_append_right _ (List.mem_append_right _ (List.mem_append_left _ (List.mem_of_getElem? (l := tables_1_4) (i := 132) (by decide +kernel))))))), rfl⟩
theorem k_854 : (Jvm.Cond.instanceMethod ({ cls := "LittleMix$Machine", name := "multiplied", desc := "()J" } : Jvm.MethodName)) ∈ mx_T := List.mem_filter.mpr ⟨List.mem_append_right _ ((List.mem_append_right _ (List.mem_append_right _ (List.mem_append_right _ (List.mem_append_left _ (List.mem_of_getElem? (l := tables_1_4) (i := 134) (by decide +kernel))))))), rfl⟩
theorem k_855 : (Jvm.Cond.code ({ cls := "LittleMix$Machine", name := "multiplied", desc := "()J" } : Jvm.MethodName) prog_6_method_10_code (1 : Nat) (Option.some Jvm.ClassFile.FieldType.long)) ∈ mx_T := List.mem_filter.mpr ⟨List.mem_append_right _ ((List.mem_append_right _ (List.mem_append_right _ (List.mem_append_right _ (List.mem_append_left _ (List.mem_of_getElem? (l := tables_1_4) (i := 135) rfl)))))), rfl⟩
theorem k_887 : (Jvm.Cond.methodLink "LittleMix$Machine" (129 : Nat) ({ cls := "LittleMix$Machine", name := "added", desc := "()J" } : Jvm.MethodName)) ∈ mx_T := List.mem_filter.mpr ⟨List.mem_append_right _ ((List.mem_append_right _ (List.mem_append_right _ (List.mem_append_right _ (List.mem_append_left _ (List.mem_of_getElem? (l := tables_1_4) (i := 167) (by decide +kernel))))))), rfl⟩
theorem k_889 : (Jvm.Cond.instanceMethod ({ cls := "LittleMix$Machine", name := "added", desc := "()J" } : Jvm.MethodName)) ∈ mx_T := List.mem_filter.mpr ⟨List.mem_append_right _ ((List.mem_append_right _ (List.mem_append_right _ (List.mem_append_right _ (List.mem_append_left _ (List.mem_of_getElem? (l := tables_1_4) (i := 169) (by decide +kernel))))))), rfl⟩
theorem k_890 : (Jvm.Cond.code ({ cls := "LittleMix$Machine", name := "added", desc := "()J" } : Jvm.MethodName) prog_6_method_13_code (1 : Nat) (Option.some Jvm.ClassFile.FieldType.long)) ∈ mx_T := List.mem_filter.mpr ⟨List.mem_append_right _ ((List.mem_append_right _ (List.mem_append_right _ (List.mem_append_right _ (List.mem_append_left _ (List.mem_of_getElem? (l := tables_1_4) (i := 170) rfl)))))), rfl⟩
theorem k_898 : (Jvm.Cond.methodLink "LittleMix$Machine" (132 : Nat) ({ cls := "LittleMix$Machine", name := "shifted", desc := "()J" } : Jvm.MethodName)) ∈ mx_T := List.mem_filter.mpr ⟨List.mem_append_right _ ((List.mem_append_right _ (List.mem_append_right _ (List.mem_append_right _ (List.mem_append_left _ (List.mem_of_getElem? (l := tables_1_4) (i := 178) (by decide +kernel))))))), rfl⟩
theorem k_900 : (Jvm.Cond.instanceMethod ({ cls := "LittleMix$Machine", name := "shifted", desc := "()J" } : Jvm.MethodName)) ∈ mx_T := List.mem_filter.mpr ⟨List.mem_append_right _ ((List.mem_append_right _ (List.mem_append_right _ (List.mem_append_right _ (List.mem_append_left _ (List.mem_of_getElem? (l := tables_1_4) (i := 180) (by decide +kernel))))))), rfl⟩
theorem k_901 : (Jvm.Cond.code ({ cls := "LittleMix$Machine", name := "shifted", desc := "()J" } : Jvm.MethodName) prog_6_method_15_code (2 : Nat) (Option.some Jvm.ClassFile.FieldType.long)) ∈ mx_T := List.mem_filter.mpr ⟨List.mem_append_right _ ((List.mem_append_right _ (List.mem_append_right _ (List.mem_append_right _ (List.mem_append_left _ (List.mem_of_getElem? (l := tables_1_4) (i := 181) rfl)))))), rfl⟩
theorem k_903 : (Jvm.Cond.methodLink "LittleMix$Machine" (135 : Nat) ({ cls := "LittleMix$Machine", name := "branch", desc := "()V" } : Jvm.MethodName)) ∈ mx_T := List.mem_filter.mpr ⟨List.mem_append_right _ ((List.mem_append_right _ (List.mem_append_right _ (List.mem_append_right _ (List.mem_append_left _ (List.mem_of_getElem? (l := tables_1_4) (i := 183) (by decide +kernel))))))), rfl⟩
theorem k_905 : (Jvm.Cond.instanceMethod ({ cls := "LittleMix$Machine", name := "branch", desc := "()V" } : Jvm.MethodName)) ∈ mx_T := List.mem_filter.mpr ⟨List.mem_append_right _ ((List.mem_append_right _ (List.mem_append_right _ (List.mem_append_right _ (List.mem_append_left _ (List.mem_of_getElem? (l := tables_1_4) (i := 185) (by decide +kernel))))))), rfl⟩
theorem k_906 : (Jvm.Cond.code ({ cls := "LittleMix$Machine", name := "branch", desc := "()V" } : Jvm.MethodName) prog_6_method_18_code (3 : Nat) (Option.none : Option Jvm.ClassFile.FieldType)) ∈ mx_T := List.mem_filter.mpr ⟨List.mem_append_right _ ((List.mem_append_right _ (List.mem_append_right _ (List.mem_append_right _ (List.mem_append_left _ (List.mem_of_getElem? (l := tables_1_4) (i := 186) rfl)))))), rfl⟩
theorem k_910 : (Jvm.Cond.methodLink "LittleMix$Machine" (138 : Nat) ({ cls := "LittleMix$Machine", name := "choose", desc := "()V" } : Jvm.MethodName)) ∈ mx_T := List.mem_filter.mpr ⟨List.mem_append_right _ ((List.mem_append_right _ (List.mem_append_right _ (List.mem_append_right _ (List.mem_append_left _ (List.mem_of_getElem? (l := tables_1_4) (i := 190) (by decide +kernel))))))), rfl⟩
theorem k_912 : (Jvm.Cond.instanceMethod ({ cls := "LittleMix$Machine", name := "choose", desc := "()V" } : Jvm.MethodName)) ∈ mx_T := List.mem_filter.mpr ⟨List.mem_append_right _ ((List.mem_append_right _ (List.mem_append_right _ (List.mem_append_right _ (List.mem_append_left _ (List.mem_of_getElem? (l := tables_1_4) (i := 192) (by decide +kernel))))))), rfl⟩
theorem k_913 : (Jvm.Cond.code ({ cls := "LittleMix$Machine", name := "choose", desc := "()V" } : Jvm.MethodName) prog_6_method_19_code (1 : Nat) (Option.none : Option Jvm.ClassFile.FieldType)) ∈ mx_T := List.mem_filter.mpr ⟨List.mem_append_right _ ((List.mem_append_right _ (List.mem_append_right _ (List.mem_append_right _ (List.mem_append_left _ (List.mem_of_getElem? (l := tables_1_4) (i := 193) rfl)))))), rfl⟩
theorem k_914 : (Jvm.Cond.methodLink "LittleMix$Machine" (141 : Nat) ({ cls := "LittleMix$Machine", name := "combined", desc := "()J" } : Jvm.MethodName)) ∈ mx_T := List.mem_filter.mpr ⟨List.mem_append_right _ ((List.mem_append_right _ (List.mem_append_right _ (List.mem_append_right _ (List.mem_append_left _ (List.mem_of_getElem? (l := tables_1_4) (i := 194) (by decide +kernel))))))), rfl⟩
theorem k_916 : (Jvm.Cond.instanceMethod ({ cls := "LittleMix$Machine", name := "combined", desc := "()J" } : Jvm.MethodName)) ∈ mx_T := List.mem_filter.mpr ⟨List.mem_append_right _ ((List.mem_append_right _ (List.mem_append_right _ (List.mem_append_right _ (List.mem_append_left _ (List.mem_of_getElem? (l := tables_1_4) (i := 196) (by decide +kernel))))))), rfl⟩
theorem k_917 : (Jvm.Cond.code ({ cls := "LittleMix$Machine", name := "combined", desc := "()J" } : Jvm.MethodName) prog_6_method_22_code (1 : Nat) (Option.some Jvm.ClassFile.FieldType.long)) ∈ mx_T := List.mem_filter.mpr ⟨List.mem_append_right _ ((List.mem_append_right _ (List.mem_append_right _ (List.mem_append_right _ (List.mem_append_left _ (List.mem_of_getElem? (l := tables_1_4) (i := 197) rfl)))))), rfl⟩
theorem k_918 : (Jvm.Cond.methodLink "LittleMix$Machine" (144 : Nat) ({ cls := "LittleMix$Machine", name := "scattered", desc := "()J" } : Jvm.MethodName)) ∈ mx_T := List.mem_filter.mpr ⟨List.mem_append_right _ ((List.mem_append_right _ (List.mem_append_right _ (List.mem_append_right _ (List.mem_append_left _ (List.mem_of_getElem? (l := tables_1_4) (i := 198) (by decide +kernel))))))), rfl⟩
theorem k_920 : (Jvm.Cond.instanceMethod ({ cls := "LittleMix$Machine", name := "scattered", desc := "()J" } : Jvm.MethodName)) ∈ mx_T := List.mem_filter.mpr ⟨List.mem_append_right _ ((List.mem_append_right _ (List.mem_append_right _ (List.mem_append_right _ (List.mem_append_left _ (List.mem_of_getElem? (l := tables_1_4) (i := 200) (by decide +kernel))))))), rfl⟩
theorem k_921 : (Jvm.Cond.code ({ cls := "LittleMix$Machine", name := "scattered", desc := "()J" } : Jvm.MethodName) prog_6_method_23_code (3 : Nat) (Option.some Jvm.ClassFile.FieldType.long)) ∈ mx_T := List.mem_filter.mpr ⟨List.mem_append_right _ ((List.mem_append_right _ (List.mem_append_right _ (List.mem_append_right _ (List.mem_append_left _ (List.mem_of_getElem? (l := tables_1_4) (i := 201) rfl)))))), rfl⟩
theorem k_936 : (Jvm.Cond.methodLink "LittleMix$Machine" (147 : Nat) ({ cls := "LittleMix$Machine", name := "widened", desc := "()J" } : Jvm.MethodName)) ∈ mx_T := List.mem_filter.mpr ⟨List.mem_append_right _ ((List.mem_append_right _ (List.mem_append_right _ (List.mem_append_right _ (List.mem_append_left _ (List.mem_of_getElem? (l := tables_1_4) (i := 216) (by decide +kernel))))))), rfl⟩
theorem k_938 : (Jvm.Cond.instanceMethod ({ cls := "LittleMix$Machine", name := "widened", desc := "()J" } : Jvm.MethodName)) ∈ mx_T := List.mem_filter.mpr ⟨List.mem_append_right _ ((List.mem_append_right _ (List.mem_append_right _ (List.mem_append_right _ (List.mem_append_left _ (List.mem_of_getElem? (l := tables_1_4) (i := 218) (by decide +kernel))))))), rfl⟩
theorem k_939 : (Jvm.Cond.code ({ cls := "LittleMix$Machine", name := "widened", desc := "()J" } : Jvm.MethodName) prog_6_method_24_code (5 : Nat) (Option.some Jvm.ClassFile.FieldType.long)) ∈ mx_T := List.mem_filter.mpr ⟨List.mem_append_right _ ((List.mem_append_right _ (List.mem_append_right _ (List.mem_append_right _ (List.mem_append_left _ (List.mem_of_getElem? (l := tables_1_4) (i := 219) rfl)))))), rfl⟩
theorem k_941 : (Jvm.Cond.methodLink "LittleMix$Machine" (57 : Nat) ({ cls := "LittleMix$Machine", name := "happen", desc := "()V" } : Jvm.MethodName)) ∈ mx_T := List.mem_filter.mpr ⟨List.mem_append_right _ ((List.mem_append_right _ (List.mem_append_right _ (List.mem_append_right _ (List.mem_append_left _ (List.mem_of_getElem? (l := tables_1_4) (i := 221) (by decide +kernel))))))), rfl⟩
theorem k_943 : (Jvm.Cond.instanceMethod ({ cls := "LittleMix$Machine", name := "happen", desc := "()V" } : Jvm.MethodName)) ∈ mx_T := List.mem_filter.mpr ⟨List.mem_append_right _ ((List.mem_append_right _ (List.mem_append_right _ (List.mem_append_right _ (List.mem_append_left _ (List.mem_of_getElem? (l := tables_1_4) (i := 223) (by decide +kernel))))))), rfl⟩
theorem k_944 : (Jvm.Cond.code ({ cls := "LittleMix$Machine", name := "happen", desc := "()V" } : Jvm.MethodName) prog_6_method_6_code (3 : Nat) (Option.none : Option Jvm.ClassFile.FieldType)) ∈ mx_T := List.mem_filter.mpr ⟨List.mem_append_right _ ((List.mem_append_right _ (List.mem_append_right _ (List.mem_append_right _ (List.mem_append_left _ (List.mem_of_getElem? (l := tables_1_4) (i := 224) rfl)))))), rfl⟩
theorem sl_Mac_withSign : Cond.selects y_Mac_withSign.cls y_Mac_withSign y_Mac_withSign ∈ mx_T := List.mem_filter.mpr ⟨List.mem_append_left _ (by decide +kernel), by decide +kernel⟩
theorem sl_Mac_pushAndJump : Cond.selects y_Mac_pushAndJump.cls y_Mac_pushAndJump y_Mac_pushAndJump ∈ mx_T := List.mem_filter.mpr ⟨List.mem_append_left _ (by decide +kernel), by decide +kernel⟩
theorem sl_Mac_putSpecial : Cond.selects y_Mac_putSpecial.cls y_Mac_putSpecial y_Mac_putSpecial ∈ mx_T := List.mem_filter.mpr ⟨List.mem_append_left _ (by decide +kernel), by decide +kernel⟩
theorem sl_Mac_popAndReturn : Cond.selects y_Mac_popAndReturn.cls y_Mac_popAndReturn y_Mac_popAndReturn ∈ mx_T := List.mem_filter.mpr ⟨List.mem_append_left _ (by decide +kernel), by decide +kernel⟩
theorem sl_Mac_getSpecial : Cond.selects y_Mac_getSpecial.cls y_Mac_getSpecial y_Mac_getSpecial ∈ mx_T := List.mem_filter.mpr ⟨List.mem_append_left _ (by decide +kernel), by decide +kernel⟩
theorem sl_Mac_access : Cond.selects y_Mac_access.cls y_Mac_access y_Mac_access ∈ mx_T := List.mem_filter.mpr ⟨List.mem_append_left _ (by decide +kernel), by decide +kernel⟩
theorem sl_Mac_widened : Cond.selects y_Mac_widened.cls y_Mac_widened y_Mac_widened ∈ mx_T := List.mem_filter.mpr ⟨List.mem_append_left _ (by decide +kernel), by decide +kernel⟩
theorem sl_Mac_scattered : Cond.selects y_Mac_scattered.cls y_Mac_scattered y_Mac_scattered ∈ mx_T := List.mem_filter.mpr ⟨List.mem_append_left _ (by decide +kernel), by decide +kernel⟩
theorem sl_Mac_combined : Cond.selects y_Mac_combined.cls y_Mac_combined y_Mac_combined ∈ mx_T := List.mem_filter.mpr ⟨List.mem_append_left _ (by decide +kernel), by decide +kernel⟩
theorem sl_Mac_choose : Cond.selects y_Mac_choose.cls y_Mac_choose y_Mac_choose ∈ mx_T := List.mem_filter.mpr ⟨List.mem_append_left _ (by decide +kernel), by decide +kernel⟩
theorem sl_Mac_branch : Cond.selects y_Mac_branch.cls y_Mac_branch y_Mac_branch ∈ mx_T := List.mem_filter.mpr ⟨List.mem_append_left _ (by decide +kernel), by decide +kernel⟩
theorem sl_Mac_shifted : Cond.selects y_Mac_shifted.cls y_Mac_shifted y_Mac_shifted ∈ mx_T := List.mem_filter.mpr ⟨List.mem_append_left _ (by decide +kernel), by decide +kernel⟩
theorem sl_Mac_added : Cond.selects y_Mac_added.cls y_Mac_added y_Mac_added ∈ mx_T := List.mem_filter.mpr ⟨List.mem_append_left _ (by decide +kernel), by decide +kernel⟩
theorem sl_Mac_multiplied : Cond.selects y_Mac_multiplied.cls y_Mac_multiplied y_Mac_multiplied ∈ mx_T := List.mem_filter.mpr ⟨List.mem_append_left _ (by decide +kernel), by decide +kernel⟩
theorem sl_Mac_control : Cond.selects y_Mac_control.cls y_Mac_control y_Mac_control ∈ mx_T := List.mem_filter.mpr ⟨List.mem_append_left _ (by decide +kernel), by decide +kernel⟩
theorem sl_Mac_decode : Cond.selects y_Mac_decode.cls y_Mac_decode y_Mac_decode ∈ mx_T := List.mem_filter.mpr ⟨List.mem_append_left _ (by decide +kernel), by decide +kernel⟩
theorem sl_Mac_execute : Cond.selects y_Mac_execute.cls y_Mac_execute y_Mac_execute ∈ mx_T := List.mem_filter.mpr ⟨List.mem_append_left _ (by decide +kernel), by decide +kernel⟩
theorem sl_Mac_happen : Cond.selects y_Mac_happen.cls y_Mac_happen y_Mac_happen ∈ mx_T := List.mem_filter.mpr ⟨List.mem_append_left _ (by decide +kernel), by decide +kernel⟩
theorem sl_Mac_step : Cond.selects y_Mac_step.cls y_Mac_step y_Mac_step ∈ mx_T := List.mem_filter.mpr ⟨List.mem_append_left _ (by decide +kernel), by decide +kernel⟩
theorem d_Mac_access_0 : decode b_Mac_access 0 = .ok (.aload_n 0, 1) := by decide +kernel
theorem d_Mac_access_1 : decode b_Mac_access 1 = .ok (.getfield 73, 3) := by decide +kernel
theorem d_Mac_access_4 : decode b_Mac_access 4 = .ok (.sipush 180, 3) := by decide +kernel
theorem d_Mac_access_7 : decode b_Mac_access 7 = .ok (.if_icmp .eq 13, 3) := by decide +kernel
theorem d_Mac_access_10 : decode b_Mac_access 10 = .ok (.aload_n 0, 1) := by decide +kernel
theorem d_Mac_access_11 : decode b_Mac_access 11 = .ok (.getfield 73, 3) := by decide +kernel
theorem d_Mac_access_14 : decode b_Mac_access 14 = .ok (.sipush 181, 3) := by decide +kernel
theorem d_Mac_access_17 : decode b_Mac_access 17 = .ok (.if_icmp .ne 7, 3) := by decide +kernel
theorem d_Mac_access_20 : decode b_Mac_access 20 = .ok (.iconst 1, 1) := by decide +kernel
theorem d_Mac_access_21 : decode b_Mac_access 21 = .ok (.goto 4, 3) := by decide +kernel
theorem d_Mac_access_24 : decode b_Mac_access 24 = .ok (.iconst 0, 1) := by decide +kernel
theorem d_Mac_access_25 : decode b_Mac_access 25 = .ok (.istore_n 1, 1) := by decide +kernel
theorem d_Mac_access_26 : decode b_Mac_access 26 = .ok (.aload_n 0, 1) := by decide +kernel
theorem d_Mac_access_27 : decode b_Mac_access 27 = .ok (.getfield 73, 3) := by decide +kernel
theorem d_Mac_access_30 : decode b_Mac_access 30 = .ok (.sipush 142, 3) := by decide +kernel
theorem d_Mac_access_33 : decode b_Mac_access 33 = .ok (.if_icmp .ge 7, 3) := by decide +kernel
theorem d_Mac_access_36 : decode b_Mac_access 36 = .ok (.iconst 1, 1) := by decide +kernel
theorem d_Mac_access_37 : decode b_Mac_access 37 = .ok (.goto 4, 3) := by decide +kernel
theorem d_Mac_access_40 : decode b_Mac_access 40 = .ok (.iconst 0, 1) := by decide +kernel
theorem d_Mac_access_41 : decode b_Mac_access 41 = .ok (.istore_n 2, 1) := by decide +kernel
theorem d_Mac_access_42 : decode b_Mac_access 42 = .ok (.iload_n 1, 1) := by decide +kernel
theorem d_Mac_access_43 : decode b_Mac_access 43 = .ok (.ifCond .ne 29, 3) := by decide +kernel
theorem d_Mac_access_46 : decode b_Mac_access 46 = .ok (.iload_n 2, 1) := by decide +kernel
theorem d_Mac_access_47 : decode b_Mac_access 47 = .ok (.ifCond .ne 25, 3) := by decide +kernel
theorem d_Mac_access_50 : decode b_Mac_access 50 = .ok (.aload_n 0, 1) := by decide +kernel
theorem d_Mac_access_51 : decode b_Mac_access 51 = .ok (.getfield 73, 3) := by decide +kernel
theorem d_Mac_access_54 : decode b_Mac_access 54 = .ok (.sipush 160, 3) := by decide +kernel
theorem d_Mac_access_57 : decode b_Mac_access 57 = .ok (.if_icmp .lt 13, 3) := by decide +kernel
theorem d_Mac_access_60 : decode b_Mac_access 60 = .ok (.aload_n 0, 1) := by decide +kernel
theorem d_Mac_access_61 : decode b_Mac_access 61 = .ok (.getfield 73, 3) := by decide +kernel
theorem d_Mac_access_64 : decode b_Mac_access 64 = .ok (.sipush 174, 3) := by decide +kernel
theorem d_Mac_access_67 : decode b_Mac_access 67 = .ok (.if_icmp .lt 5, 3) := by decide +kernel
theorem d_Mac_access_70 : decode b_Mac_access 70 = .ok (.iconst 1, 1) := by decide +kernel
theorem d_Mac_access_71 : decode b_Mac_access 71 = .ok (.ireturn, 1) := by decide +kernel
theorem d_Mac_access_72 : decode b_Mac_access 72 = .ok (.iload_n 1, 1) := by decide +kernel
theorem d_Mac_access_73 : decode b_Mac_access 73 = .ok (.ifCond .eq 8, 3) := by decide +kernel
theorem d_Mac_access_76 : decode b_Mac_access 76 = .ok (.bipush 8, 2) := by decide +kernel
theorem d_Mac_access_78 : decode b_Mac_access 78 = .ok (.goto 13, 3) := by decide +kernel
theorem d_Mac_access_81 : decode b_Mac_access 81 = .ok (.iconst 1, 1) := by decide +kernel
theorem d_Mac_access_82 : decode b_Mac_access 82 = .ok (.aload_n 0, 1) := by decide +kernel
theorem d_Mac_access_83 : decode b_Mac_access 83 = .ok (.getfield 73, 3) := by decide +kernel
theorem d_Mac_access_86 : decode b_Mac_access 86 = .ok (.iconst 2, 1) := by decide +kernel
theorem d_Mac_access_87 : decode b_Mac_access 87 = .ok (.ishr, 1) := by decide +kernel
theorem d_Mac_access_88 : decode b_Mac_access 88 = .ok (.iconst 3, 1) := by decide +kernel
theorem d_Mac_access_89 : decode b_Mac_access 89 = .ok (.iand, 1) := by decide +kernel
theorem d_Mac_access_90 : decode b_Mac_access 90 = .ok (.ishl, 1) := by decide +kernel
theorem d_Mac_access_91 : decode b_Mac_access 91 = .ok (.istore_n 3, 1) := by decide +kernel
theorem d_Mac_access_92 : decode b_Mac_access 92 = .ok (.aload_n 0, 1) := by decide +kernel
theorem d_Mac_access_93 : decode b_Mac_access 93 = .ok (.getfield 89, 3) := by decide +kernel
theorem d_Mac_access_96 : decode b_Mac_access 96 = .ok (.aload_n 0, 1) := by decide +kernel
theorem d_Mac_access_97 : decode b_Mac_access 97 = .ok (.getfield 92, 3) := by decide +kernel
theorem d_Mac_access_100 : decode b_Mac_access 100 = .ok (.ladd, 1) := by decide +kernel
theorem d_Mac_access_101 : decode b_Mac_access 101 = .ok (.iload_n 3, 1) := by decide +kernel
theorem d_Mac_access_102 : decode b_Mac_access 102 = .ok (.ineg, 1) := by decide +kernel
theorem d_Mac_access_103 : decode b_Mac_access 103 = .ok (.i2l, 1) := by decide +kernel
theorem d_Mac_access_104 : decode b_Mac_access 104 = .ok (.land, 1) := by decide +kernel
theorem d_Mac_access_105 : decode b_Mac_access 105 = .ok (.lstore 4, 2) := by decide +kernel
theorem d_Mac_access_107 : decode b_Mac_access 107 = .ok (.aload_n 0, 1) := by decide +kernel
theorem d_Mac_access_108 : decode b_Mac_access 108 = .ok (.getfield 7, 3) := by decide +kernel
theorem d_Mac_access_111 : decode b_Mac_access 111 = .ok (.lload 4, 2) := by decide +kernel
theorem d_Mac_access_113 : decode b_Mac_access 113 = .ok (.iload_n 3, 1) := by decide +kernel
theorem d_Mac_access_114 : decode b_Mac_access 114 = .ok (.invokevirtual 41, 3) := by decide +kernel
theorem d_Mac_access_117 : decode b_Mac_access 117 = .ok (.ifCond .ne 5, 3) := by decide +kernel
theorem d_Mac_access_120 : decode b_Mac_access 120 = .ok (.iconst 4, 1) := by decide +kernel
theorem d_Mac_access_121 : decode b_Mac_access 121 = .ok (.ireturn, 1) := by decide +kernel
theorem d_Mac_access_122 : decode b_Mac_access 122 = .ok (.aload_n 0, 1) := by decide +kernel
theorem d_Mac_access_123 : decode b_Mac_access 123 = .ok (.dup, 1) := by decide +kernel
theorem d_Mac_access_124 : decode b_Mac_access 124 = .ok (.getfield 35, 3) := by decide +kernel
theorem d_Mac_access_127 : decode b_Mac_access 127 = .ok (.iconst 1, 1) := by decide +kernel
theorem d_Mac_access_128 : decode b_Mac_access 128 = .ok (.iadd, 1) := by decide +kernel
theorem d_Mac_access_129 : decode b_Mac_access 129 = .ok (.putfield 35, 3) := by decide +kernel
theorem d_Mac_access_132 : decode b_Mac_access 132 = .ok (.iload_n 2, 1) := by decide +kernel
theorem d_Mac_access_133 : decode b_Mac_access 133 = .ok (.ifCond .eq 31, 3) := by decide +kernel
theorem d_Mac_access_136 : decode b_Mac_access 136 = .ok (.aload_n 0, 1) := by decide +kernel
theorem d_Mac_access_137 : decode b_Mac_access 137 = .ok (.getfield 13, 3) := by decide +kernel
theorem d_Mac_access_140 : decode b_Mac_access 140 = .ok (.aload_n 0, 1) := by decide +kernel
theorem d_Mac_access_141 : decode b_Mac_access 141 = .ok (.getfield 76, 3) := by decide +kernel
theorem d_Mac_access_144 : decode b_Mac_access 144 = .ok (.aload_n 0, 1) := by decide +kernel
theorem d_Mac_access_145 : decode b_Mac_access 145 = .ok (.aload_n 0, 1) := by decide +kernel
theorem d_Mac_access_146 : decode b_Mac_access 146 = .ok (.getfield 7, 3) := by decide +kernel
theorem d_Mac_access_149 : decode b_Mac_access 149 = .ok (.lload 4, 2) := by decide +kernel
theorem d_Mac_access_151 : decode b_Mac_access 151 = .ok (.iload_n 3, 1) := by decide +kernel
theorem d_Mac_access_152 : decode b_Mac_access 152 = .ok (.invokevirtual 209, 3) := by decide +kernel
theorem d_Mac_access_155 : decode b_Mac_access 155 = .ok (.iload_n 3, 1) := by decide +kernel
theorem d_Mac_access_156 : decode b_Mac_access 156 = .ok (.invokevirtual 212, 3) := by decide +kernel
theorem d_Mac_access_159 : decode b_Mac_access 159 = .ok (.invokevirtual 110, 3) := by decide +kernel
theorem d_Mac_access_162 : decode b_Mac_access 162 = .ok (.iconst 0, 1) := by decide +kernel
theorem d_Mac_access_163 : decode b_Mac_access 163 = .ok (.ireturn, 1) := by decide +kernel
theorem d_Mac_access_164 : decode b_Mac_access 164 = .ok (.aload_n 0, 1) := by decide +kernel
theorem d_Mac_access_165 : decode b_Mac_access 165 = .ok (.lload 4, 2) := by decide +kernel
theorem d_Mac_access_167 : decode b_Mac_access 167 = .ok (.putfield 89, 3) := by decide +kernel
theorem d_Mac_access_170 : decode b_Mac_access 170 = .ok (.aload_n 0, 1) := by decide +kernel
theorem d_Mac_access_171 : decode b_Mac_access 171 = .ok (.iload_n 1, 1) := by decide +kernel
theorem d_Mac_access_172 : decode b_Mac_access 172 = .ok (.ifCond .eq 11, 3) := by decide +kernel
theorem d_Mac_access_175 : decode b_Mac_access 175 = .ok (.aload_n 0, 1) := by decide +kernel
theorem d_Mac_access_176 : decode b_Mac_access 176 = .ok (.getfield 76, 3) := by decide +kernel
theorem d_Mac_access_179 : decode b_Mac_access 179 = .ok (.i2l, 1) := by decide +kernel
theorem d_Mac_access_180 : decode b_Mac_access 180 = .ok (.goto 14, 3) := by decide +kernel
theorem d_Mac_access_183 : decode b_Mac_access 183 = .ok (.aload_n 0, 1) := by decide +kernel
theorem d_Mac_access_184 : decode b_Mac_access 184 = .ok (.getfield 13, 3) := by decide +kernel
theorem d_Mac_access_187 : decode b_Mac_access 187 = .ok (.aload_n 0, 1) := by decide +kernel
theorem d_Mac_access_188 : decode b_Mac_access 188 = .ok (.getfield 76, 3) := by decide +kernel
theorem d_Mac_access_191 : decode b_Mac_access 191 = .ok (.invokevirtual 85, 3) := by decide +kernel
theorem d_Mac_access_194 : decode b_Mac_access 194 = .ok (.putfield 92, 3) := by decide +kernel
theorem d_Mac_access_197 : decode b_Mac_access 197 = .ok (.aload_n 0, 1) := by decide +kernel
theorem d_Mac_access_198 : decode b_Mac_access 198 = .ok (.iload_n 1, 1) := by decide +kernel
theorem d_Mac_access_199 : decode b_Mac_access 199 = .ok (.ifCond .ne 33, 3) := by decide +kernel
theorem d_Mac_access_202 : decode b_Mac_access 202 = .ok (.aload_n 0, 1) := by decide +kernel
theorem d_Mac_access_203 : decode b_Mac_access 203 = .ok (.aload_n 0, 1) := by decide +kernel
theorem d_Mac_access_204 : decode b_Mac_access 204 = .ok (.getfield 92, 3) := by decide +kernel
theorem d_Mac_access_207 : decode b_Mac_access 207 = .ok (.iload_n 3, 1) := by decide +kernel
theorem d_Mac_access_208 : decode b_Mac_access 208 = .ok (.invokevirtual 212, 3) := by decide +kernel
theorem d_Mac_access_211 : decode b_Mac_access 211 = .ok (.aload_n 0, 1) := by decide +kernel
theorem d_Mac_access_212 : decode b_Mac_access 212 = .ok (.getfield 92, 3) := by decide +kernel
theorem d_Mac_access_215 : decode b_Mac_access 215 = .ok (.lcmp, 1) := by decide +kernel
theorem d_Mac_access_216 : decode b_Mac_access 216 = .ok (.ifCond .eq 16, 3) := by decide +kernel
theorem d_Mac_access_219 : decode b_Mac_access 219 = .ok (.aload_n 0, 1) := by decide +kernel
theorem d_Mac_access_220 : decode b_Mac_access 220 = .ok (.getfield 73, 3) := by decide +kernel
theorem d_Mac_access_223 : decode b_Mac_access 223 = .ok (.iconst 2, 1) := by decide +kernel
theorem d_Mac_access_224 : decode b_Mac_access 224 = .ok (.iand, 1) := by decide +kernel
theorem d_Mac_access_225 : decode b_Mac_access 225 = .ok (.ifCond .ne 7, 3) := by decide +kernel
theorem d_Mac_access_228 : decode b_Mac_access 228 = .ok (.iconst 1, 1) := by decide +kernel
theorem d_Mac_access_229 : decode b_Mac_access 229 = .ok (.goto 4, 3) := by decide +kernel
theorem d_Mac_access_232 : decode b_Mac_access 232 = .ok (.iconst 0, 1) := by decide +kernel
theorem d_Mac_access_233 : decode b_Mac_access 233 = .ok (.invokevirtual 154, 3) := by decide +kernel
theorem d_Mac_access_236 : decode b_Mac_access 236 = .ok (.aload_n 0, 1) := by decide +kernel
theorem d_Mac_access_237 : decode b_Mac_access 237 = .ok (.getfield 7, 3) := by decide +kernel
theorem d_Mac_access_240 : decode b_Mac_access 240 = .ok (.lload 4, 2) := by decide +kernel
theorem d_Mac_access_242 : decode b_Mac_access 242 = .ok (.iload_n 3, 1) := by decide +kernel
theorem d_Mac_access_243 : decode b_Mac_access 243 = .ok (.aload_n 0, 1) := by decide +kernel
theorem d_Mac_access_244 : decode b_Mac_access 244 = .ok (.getfield 92, 3) := by decide +kernel
theorem d_Mac_access_247 : decode b_Mac_access 247 = .ok (.invokevirtual 215, 3) := by decide +kernel
theorem d_Mac_access_250 : decode b_Mac_access 250 = .ok (.iconst 0, 1) := by decide +kernel
theorem d_Mac_access_251 : decode b_Mac_access 251 = .ok (.ireturn, 1) := by decide +kernel
theorem d_Mac_control_0 : decode b_Mac_control 0 = .ok (.aload_n 0, 1) := by decide +kernel
theorem d_Mac_control_1 : decode b_Mac_control 1 = .ok (.getfield 73, 3) := by decide +kernel
theorem d_Mac_control_4 : decode b_Mac_control 4 = .ok (.tableswitch 185 240 255 #[80, 80, 99, 99, 104, 104, 121, 121, 126, 131, 185, 185, 185, 151, 153, 158], 80) := by decide +kernel
theorem d_Mac_control_84 : decode b_Mac_control 84 = .ok (.aload_n 0, 1) := by decide +kernel
theorem d_Mac_control_85 : decode b_Mac_control 85 = .ok (.aload_n 0, 1) := by decide +kernel
theorem d_Mac_control_86 : decode b_Mac_control 86 = .ok (.aload_n 0, 1) := by decide +kernel
theorem d_Mac_control_87 : decode b_Mac_control 87 = .ok (.getfield 70, 3) := by decide +kernel
theorem d_Mac_control_90 : decode b_Mac_control 90 = .ok (.ldc 231, 2) := by decide +kernel
theorem d_Mac_control_92 : decode b_Mac_control 92 = .ok (.iand, 1) := by decide +kernel
theorem d_Mac_control_93 : decode b_Mac_control 93 = .ok (.ldc 232, 2) := by decide +kernel
theorem d_Mac_control_95 : decode b_Mac_control 95 = .ok (.invokevirtual 198, 3) := by decide +kernel
theorem d_Mac_control_98 : decode b_Mac_control 98 = .ok (.putfield 60, 3) := by decide +kernel
theorem d_Mac_control_101 : decode b_Mac_control 101 = .ok (.iconst 0, 1) := by decide +kernel
theorem d_Mac_control_102 : decode b_Mac_control 102 = .ok (.ireturn, 1) := by decide +kernel
theorem d_Mac_control_103 : decode b_Mac_control 103 = .ok (.aload_n 0, 1) := by decide +kernel
theorem d_Mac_control_104 : decode b_Mac_control 104 = .ok (.invokevirtual 233, 3) := by decide +kernel
theorem d_Mac_control_107 : decode b_Mac_control 107 = .ok (.ireturn, 1) := by decide +kernel
theorem d_Mac_control_108 : decode b_Mac_control 108 = .ok (.aload_n 0, 1) := by decide +kernel
theorem d_Mac_control_109 : decode b_Mac_control 109 = .ok (.getfield 13, 3) := by decide +kernel
theorem d_Mac_control_112 : decode b_Mac_control 112 = .ok (.aload_n 0, 1) := by decide +kernel
theorem d_Mac_control_113 : decode b_Mac_control 113 = .ok (.getfield 76, 3) := by decide +kernel
theorem d_Mac_control_116 : decode b_Mac_control 116 = .ok (.aload_n 0, 1) := by decide +kernel
theorem d_Mac_control_117 : decode b_Mac_control 117 = .ok (.invokevirtual 206, 3) := by decide +kernel
theorem d_Mac_control_120 : decode b_Mac_control 120 = .ok (.invokevirtual 110, 3) := by decide +kernel
theorem d_Mac_control_123 : decode b_Mac_control 123 = .ok (.iconst 0, 1) := by decide +kernel
theorem d_Mac_control_124 : decode b_Mac_control 124 = .ok (.ireturn, 1) := by decide +kernel
theorem d_Mac_control_125 : decode b_Mac_control 125 = .ok (.aload_n 0, 1) := by decide +kernel
theorem d_Mac_control_126 : decode b_Mac_control 126 = .ok (.invokevirtual 236, 3) := by decide +kernel
theorem d_Mac_control_129 : decode b_Mac_control 129 = .ok (.ireturn, 1) := by decide +kernel
theorem d_Mac_control_130 : decode b_Mac_control 130 = .ok (.aload_n 0, 1) := by decide +kernel
theorem d_Mac_control_131 : decode b_Mac_control 131 = .ok (.invokevirtual 239, 3) := by decide +kernel
theorem d_Mac_control_134 : decode b_Mac_control 134 = .ok (.ireturn, 1) := by decide +kernel
theorem d_Mac_control_135 : decode b_Mac_control 135 = .ok (.aload_n 0, 1) := by decide +kernel
theorem d_Mac_control_136 : decode b_Mac_control 136 = .ok (.aload_n 0, 1) := by decide +kernel
theorem d_Mac_control_137 : decode b_Mac_control 137 = .ok (.getfield 13, 3) := by decide +kernel
