abbrev b_Mac_added : ByteArray := prog_6_method_13_code
abbrev b_Mac_branch : ByteArray := prog_6_method_18_code
abbrev b_Mac_choose : ByteArray := prog_6_method_19_code
abbrev b_Mac_combined : ByteArray := prog_6_method_22_code
abbrev b_Mac_getSpecial : ByteArray := prog_6_method_29_code
abbrev b_Mac_happen : ByteArray := prog_6_method_6_code
abbrev b_Mac_multiplied : ByteArray := prog_6_method_10_code
abbrev b_Mac_popAndReturn : ByteArray := prog_6_method_27_code
abbrev b_Mac_pushAndJump : ByteArray := prog_6_method_26_code
abbrev b_Mac_putSpecial : ByteArray := prog_6_method_28_code
abbrev b_Mac_scattered : ByteArray := prog_6_method_23_code
abbrev b_Mac_shifted : ByteArray := prog_6_method_15_code
abbrev b_Mac_trip : ByteArray := prog_6_method_7_code
abbrev b_Mac_widened : ByteArray := prog_6_method_24_code
abbrev y_Mac_added : MethodName := ⟨"LittleMix$Machine", "added", "()J"⟩
abbrev y_Mac_branch : MethodName := ⟨"LittleMix$Machine", "branch", "()V"⟩
abbrev y_Mac_choose : MethodName := ⟨"LittleMix$Machine", "choose", "()V"⟩
abbrev y_Mac_combined : MethodName := ⟨"LittleMix$Machine", "combined", "()J"⟩
abbrev y_Mac_getSpecial : MethodName := ⟨"LittleMix$Machine", "getSpecial", "()I"⟩
abbrev y_Mac_happen : MethodName := ⟨"LittleMix$Machine", "happen", "()V"⟩
abbrev y_Mac_multiplied : MethodName := ⟨"LittleMix$Machine", "multiplied", "()J"⟩
abbrev y_Mac_popAndReturn : MethodName := ⟨"LittleMix$Machine", "popAndReturn", "()I"⟩
abbrev y_Mac_pushAndJump : MethodName := ⟨"LittleMix$Machine", "pushAndJump", "()I"⟩
abbrev y_Mac_putSpecial : MethodName := ⟨"LittleMix$Machine", "putSpecial", "()I"⟩
abbrev y_Mac_scattered : MethodName := ⟨"LittleMix$Machine", "scattered", "()J"⟩
abbrev y_Mac_shifted : MethodName := ⟨"LittleMix$Machine", "shifted", "()J"⟩
abbrev y_Mac_trip : MethodName := ⟨"LittleMix$Machine", "trip", "(I)V"⟩
abbrev y_Mac_widened : MethodName := ⟨"LittleMix$Machine", "widened", "()J"⟩
theorem p_LittleMix_Arithmetic_difference : y_LittleMix_Arithmetic_difference.cls ≠ "java/lang/invoke/MethodHandle" ∧ y_LittleMix_Arithmetic_difference.cls ≠ "java/lang/invoke/VarHandle" ∧ (parseMethodDescriptor y_LittleMix_Arithmetic_difference.desc).map (fun d => d.parameters.length) = some 3 := by decide +kernel
theorem p_LittleMix_Arithmetic_isSo : y_LittleMix_Arithmetic_isSo.cls ≠ "java/lang/invoke/MethodHandle" ∧ y_LittleMix_Arithmetic_isSo.cls ≠ "java/lang/invoke/VarHandle" ∧ (parseMethodDescriptor y_LittleMix_Arithmetic_isSo.desc).map (fun d => d.parameters.length) = some 2 := by decide +kernel
theorem p_LittleMix_Arithmetic_matrix : y_LittleMix_Arithmetic_matrix.cls ≠ "java/lang/invoke/MethodHandle" ∧ y_LittleMix_Arithmetic_matrix.cls ≠ "java/lang/invoke/VarHandle" ∧ (parseMethodDescriptor y_LittleMix_Arithmetic_matrix.desc).map (fun d => d.parameters.length) = some 3 := by decide +kernel
theorem p_LittleMix_Arithmetic_productFits : y_LittleMix_Arithmetic_productFits.cls ≠ "java/lang/invoke/MethodHandle" ∧ y_LittleMix_Arithmetic_productFits.cls ≠ "java/lang/invoke/VarHandle" ∧ (parseMethodDescriptor y_LittleMix_Arithmetic_productFits.desc).map (fun d => d.parameters.length) = some 2 := by decide +kernel
theorem p_Mac_divided : y_Mac_divided.cls ≠ "java/lang/invoke/MethodHandle" ∧ y_Mac_divided.cls ≠ "java/lang/invoke/VarHandle" ∧ (parseMethodDescriptor y_Mac_divided.desc).map (fun d => d.parameters.length) = some 0 := by decide +kernel
theorem p_Mac_dividedWithoutSigns : y_Mac_dividedWithoutSigns.cls ≠ "java/lang/invoke/MethodHandle" ∧ y_Mac_dividedWithoutSigns.cls ≠ "java/lang/invoke/VarHandle" ∧ (parseMethodDescriptor y_Mac_dividedWithoutSigns.desc).map (fun d => d.parameters.length) = some 0 := by decide +kernel
theorem p_Mac_subtracted : y_Mac_subtracted.cls ≠ "java/lang/invoke/MethodHandle" ∧ y_Mac_subtracted.cls ≠ "java/lang/invoke/VarHandle" ∧ (parseMethodDescriptor y_Mac_subtracted.desc).map (fun d => d.parameters.length) = some 0 := by decide +kernel
theorem p_Mac_target : y_Mac_target.cls ≠ "java/lang/invoke/MethodHandle" ∧ y_Mac_target.cls ≠ "java/lang/invoke/VarHandle" ∧ (parseMethodDescriptor y_Mac_target.desc).map (fun d => d.parameters.length) = some 0 := by decide +kernel
theorem p_Mac_trip : y_Mac_trip.cls ≠ "java/lang/invoke/MethodHandle" ∧ y_Mac_trip.cls ≠ "java/lang/invoke/VarHandle" ∧ (parseMethodDescriptor y_Mac_trip.desc).map (fun d => d.parameters.length) = some 1 := by decide +kernel
theorem p_Reg_pop : y_Reg_pop.cls ≠ "java/lang/invoke/MethodHandle" ∧ y_Reg_pop.cls ≠ "java/lang/invoke/VarHandle" ∧ (parseMethodDescriptor y_Reg_pop.desc).map (fun d => d.parameters.length) = some 1 := by decide +kernel
theorem p_Reg_push : y_Reg_push.cls ≠ "java/lang/invoke/MethodHandle" ∧ y_Reg_push.cls ≠ "java/lang/invoke/VarHandle" ∧ (parseMethodDescriptor y_Reg_push.desc).map (fun d => d.parameters.length) = some 1 := by decide +kernel
theorem p_Reg_put : y_Reg_put.cls ≠ "java/lang/invoke/MethodHandle" ∧ y_Reg_put.cls ≠ "java/lang/invoke/VarHandle" ∧ (parseMethodDescriptor y_Reg_put.desc).map (fun d => d.parameters.length) = some 2 := by decide +kernel
theorem p_Reg_read : y_Reg_read.cls ≠ "java/lang/invoke/MethodHandle" ∧ y_Reg_read.cls ≠ "java/lang/invoke/VarHandle" ∧ (parseMethodDescriptor y_Reg_read.desc).map (fun d => d.parameters.length) = some 1 := by decide +kernel
theorem p_Reg_write : y_Reg_write.cls ≠ "java/lang/invoke/MethodHandle" ∧ y_Reg_write.cls ≠ "java/lang/invoke/VarHandle" ∧ (parseMethodDescriptor y_Reg_write.desc).map (fun d => d.parameters.length) = some 2 := by decide +kernel
theorem p_LittleMix_Specials_told : y_LittleMix_Specials_told.cls ≠ "java/lang/invoke/MethodHandle" ∧ y_LittleMix_Specials_told.cls ≠ "java/lang/invoke/VarHandle" ∧ (parseMethodDescriptor y_LittleMix_Specials_told.desc).map (fun d => d.parameters.length) = some 1 := by decide +kernel
theorem p_Long_bitCount : y_Long_bitCount.cls ≠ "java/lang/invoke/MethodHandle" ∧ y_Long_bitCount.cls ≠ "java/lang/invoke/VarHandle" ∧ (parseMethodDescriptor y_Long_bitCount.desc).map (fun d => d.parameters.length) = some 1 := by decide +kernel
theorem k_16 : (Jvm.Cond.initialized "LittleMix$Specials") ∈ mx_T := List.mem_filter.mpr ⟨List.mem_append_right _ ((List.mem_append_left _ (List.mem_of_getElem? (l := tables_1_1) (i := 16) (by decide +kernel)))), rfl⟩
theorem k_340 : (Jvm.Cond.fieldLink "LittleMix$Machine" (76 : Nat) "LittleMix$Machine" "x" "I") ∈ mx_T := List.mem_filter.mpr ⟨List.mem_append_right _ ((List.mem_append_right _ (List.mem_append_left _ (List.mem_of_getElem? (l := tables_1_2) (i := 100) (by decide +kernel))))), rfl⟩
theorem k_341 : (Jvm.Cond.fieldLink "LittleMix$Machine" (79 : Nat) "LittleMix$Machine" "y" "I") ∈ mx_T := List.mem_filter.mpr ⟨List.mem_append_right _ ((List.mem_append_right _ (List.mem_append_left _ (List.mem_of_getElem? (l := tables_1_2) (i := 101) (by decide +kernel))))), rfl⟩
theorem k_342 : (Jvm.Cond.fieldLink "LittleMix$Machine" (82 : Nat) "LittleMix$Machine" "z" "I") ∈ mx_T := List.mem_filter.mpr ⟨List.mem_append_right _ ((List.mem_append_right _ (List.mem_append_left _ (List.mem_of_getElem? (l := tables_1_2) (i := 102) (by decide +kernel))))), rfl⟩
theorem k_345 : (Jvm.Cond.fieldLink "LittleMix$Machine" (60 : Nat) "LittleMix$Machine" "next" "J") ∈ mx_T := List.mem_filter.mpr ⟨List.mem_append_right _ ((List.mem_append_right _ (List.mem_append_left _ (List.mem_of_getElem? (l := tables_1_2) (i := 105) (by decide +kernel))))), rfl⟩
theorem k_346 : (Jvm.Cond.fieldLink "LittleMix$Machine" (63 : Nat) "LittleMix$Machine" "cost" "I") ∈ mx_T := List.mem_filter.mpr ⟨List.mem_append_right _ ((List.mem_append_right _ (List.mem_append_left _ (List.mem_of_getElem? (l := tables_1_2) (i := 106) (by decide +kernel))))), rfl⟩
theorem k_675 : (Jvm.Cond.static ({ cls := "LittleMix$Specials", name := "told", desc := "(J)Z" } : Jvm.MethodName)) ∈ mx_T := List.mem_filter.mpr ⟨List.mem_append_right _ ((List.mem_append_right _ (List.mem_append_right _ (List.mem_append_left _ (List.mem_of_getElem? (l := tables_1_3) (i := 195) (by decide +kernel)))))), rfl⟩
theorem k_676 : (Jvm.Cond.code ({ cls := "LittleMix$Specials", name := "told", desc := "(J)Z" } : Jvm.MethodName) prog_11_method_2_code (3 : Nat) (Option.some Jvm.ClassFile.FieldType.boolean)) ∈ mx_T := List.mem_filter.mpr ⟨List.mem_append_right _ ((List.mem_append_right _ (List.mem_append_right _ (List.mem_append_left _ (List.mem_of_getElem? (l := tables_1_3) (i := 196) rfl))))), rfl⟩
theorem k_759 : (Jvm.Cond.methodLink "LittleMix$Machine" (85 : Nat) ({ cls := "LittleMix$Registers", name := "read", desc := "(I)J" } : Jvm.MethodName)) ∈ mx_T := List.mem_filter.mpr ⟨List.mem_append_right _ ((List.mem_append_right _ (List.mem_append_right _ (List.mem_append_right _ (List.mem_append_left _ (List.mem_of_getElem? (l := tables_1_4) (i := 39) (by decide +kernel))))))), rfl⟩
theorem k_760 : (Jvm.Cond.instanceMethod ({ cls := "LittleMix$Registers", name := "read", desc := "(I)J" } : Jvm.MethodName)) ∈ mx_T := List.mem_filter.mpr ⟨List.mem_append_right _ ((List.mem_append_right _ (List.mem_append_right _ (List.mem_append_right _ (List.mem_append_left _ (List.mem_of_getElem? (l := tables_1_4) (i := 40) (by decide +kernel))))))), rfl⟩
theorem k_761 : (Jvm.Cond.selects "LittleMix$Registers" ({ cls := "LittleMix$Registers", name := "read", desc := "(I)J" } : Jvm.MethodName) ({ cls := "LittleMix$Registers", name := "read", desc := "(I)J" } : Jvm.MethodName)) ∈ mx_T := List.mem_filter.mpr ⟨List.mem_append_right _ ((List.mem_append_right _ (List.mem_append_right _ (List.mem_append_right _ (List.mem_append_left _ (List.mem_of_getElem? (l := tables_1_4) (i := 41) (by decide +kernel))))))), rfl⟩
theorem k_762 : (Jvm.Cond.code ({ cls := "LittleMix$Registers", name := "read", desc := "(I)J" } : Jvm.MethodName) prog_10_method_4_code (2 : Nat) (Option.some Jvm.ClassFile.FieldType.long)) ∈ mx_T := List.mem_filter.mpr ⟨List.mem_append_right _ ((List.mem_append_right _ (List.mem_append_right _ (List.mem_append_right _ (List.mem_append_left _ (List.mem_of_getElem? (l := tables_1_4) (i := 42) rfl)))))), rfl⟩
theorem k_777 : (Jvm.Cond.methodLink "LittleMix$Machine" (110 : Nat) ({ cls := "LittleMix$Registers", name := "write", desc := "(IJ)V" } : Jvm.MethodName)) ∈ mx_T := List.mem_filter.mpr ⟨List.mem_append_right _ ((List.mem_append_right _ (List.mem_append_right _ (List.mem_append_right _ (List.mem_append_left _ (List.mem_of_getElem? (l := tables_1_4) (i := 57) (by decide +kernel))))))), rfl⟩
theorem k_778 : (Jvm.Cond.instanceMethod ({ cls := "LittleMix$Registers", name := "write", desc := "(IJ)V" } : Jvm.MethodName)) ∈ mx_T := List.mem_filter.mpr ⟨List.mem_append_right _ ((List.mem_append_right _ (List.mem_append_right _ (List.mem_append_right _ (List.mem_append_left _ (List.mem_of_getElem? (l := tables_1_4) (i := 58) (by decide +kernel))))))), rfl⟩
theorem k_779 : (Jvm.Cond.selects "LittleMix$Registers" ({ cls := "LittleMix$Registers", name := "write", desc := "(IJ)V" } : Jvm.MethodName) ({ cls := "LittleMix$Registers", name := "write", desc := "(IJ)V" } : Jvm.MethodName)) ∈ mx_T := List.mem_filter.mpr ⟨List.mem_append_right _ ((List.mem_append_right _ (List.mem_append_right _ (List.mem_append_right _ (List.mem_append_left _ (List.mem_of_getElem? (l := tables_1_4) (i := 59) (by decide +kernel))))))), rfl⟩
theorem k_780 : (Jvm.Cond.code ({ cls := "LittleMix$Registers", name := "write", desc := "(IJ)V" } : Jvm.MethodName) prog_10_method_5_code (4 : Nat) (Option.none : Option Jvm.ClassFile.FieldType)) ∈ mx_T := List.mem_filter.mpr ⟨List.mem_append_right _ ((List.mem_append_right _ (List.mem_append_right _ (List.mem_append_right _ (List.mem_append_left _ (List.mem_of_getElem? (l := tables_1_4) (i := 60) rfl)))))), rfl⟩
theorem k_800 : (Jvm.Cond.methodLink "LittleMix$Machine" (245 : Nat) ({ cls := "LittleMix$Registers", name := "push", desc := "(I)Z" } : Jvm.MethodName)) ∈ mx_T := List.mem_filter.mpr ⟨List.mem_append_right _ ((List.mem_append_right _ (List.mem_append_right _ (List.mem_append_right _ (List.mem_append_left _ (List.mem_of_getElem? (l := tables_1_4) (i := 80) (by decide +kernel))))))), rfl⟩
theorem k_801 : (Jvm.Cond.instanceMethod ({ cls := "LittleMix$Registers", name := "push", desc := "(I)Z" } : Jvm.MethodName)) ∈ mx_T := List.mem_filter.mpr ⟨List.mem_append_right _ ((List.mem_append_right _ (List.mem_append_right _ (List.mem_append_right _ (List.mem_append_left _ (List.mem_of_getElem? (l := tables_1_4) (i := 81) (by decide +kernel))))))), rfl⟩
theorem k_802 : (Jvm.Cond.selects "LittleMix$Registers" ({ cls := "LittleMix$Registers", name := "push", desc := "(I)Z" } : Jvm.MethodName) ({ cls := "LittleMix$Registers", name := "push", desc := "(I)Z" } : Jvm.MethodName)) ∈ mx_T := List.mem_filter.mpr ⟨List.mem_append_right _ ((List.mem_append_right _ (List.mem_append_right _ (List.mem_append_right _ (List.mem_append_left _ (List.mem_of_getElem? (l := tables_1_4) (i := 82) (by decide +kernel))))))), rfl⟩
theorem k_803 : (Jvm.Cond.code ({ cls := "LittleMix$Registers", name := "push", desc := "(I)Z" } : Jvm.MethodName) prog_10_method_9_code (4 : Nat) (Option.some Jvm.ClassFile.FieldType.boolean)) ∈ mx_T := List.mem_filter.mpr ⟨List.mem_append_right _ ((List.mem_append_right _ (List.mem_append_right _ (List.mem_append_right _ (List.mem_append_left _ (List.mem_of_getElem? (l := tables_1_4) (i := 83) rfl)))))), rfl⟩
theorem k_810 : (Jvm.Cond.methodLink "LittleMix$Machine" (206 : Nat) ({ cls := "LittleMix$Machine", name := "target", desc := "()J" } : Jvm.MethodName)) ∈ mx_T := List.mem_filter.mpr ⟨List.mem_append_right _ ((List.mem_append_right _ (List.mem_append_right _ (List.mem_append_right _ (List.mem_append_left _ (List.mem_of_getElem? (l := tables_1_4) (i := 90) (by decide +kernel))))))), rfl⟩
theorem k_812 : (Jvm.Cond.instanceMethod ({ cls := "LittleMix$Machine", name := "target", desc := "()J" } : Jvm.MethodName)) ∈ mx_T := List.mem_filter.mpr ⟨List.mem_append_right _ ((List.mem_append_right _ (List.mem_append_right _ (List.mem_append_right _ (List.mem_append_left _ (List.mem_of_getElem? (l := tables_1_4) (i := 92) (by decide +kernel))))))), rfl⟩
theorem k_813 : (Jvm.Cond.code ({ cls := "LittleMix$Machine", name := "target", desc := "()J" } : Jvm.MethodName) prog_6_method_17_code (1 : Nat) (Option.some Jvm.ClassFile.FieldType.long)) ∈ mx_T := List.mem_filter.mpr ⟨List.mem_append_right _ ((List.mem_append_right _ (List.mem_append_right _ (List.mem_append_right _ (List.mem_append_left _ (List.mem_of_getElem? (l := tables_1_4) (i := 93) rfl)))))), rfl⟩
theorem k_820 : (Jvm.Cond.methodLink "LittleMix$Machine" (252 : Nat) ({ cls := "LittleMix$Specials", name := "told", desc := "(J)Z" } : Jvm.MethodName)) ∈ mx_T := List.mem_filter.mpr ⟨List.mem_append_right _ ((List.mem_append_right _ (List.mem_append_right _ (List.mem_append_right _ (List.mem_append_left _ (List.mem_of_getElem? (l := tables_1_4) (i := 100) (by decide +kernel))))))), rfl⟩
theorem k_821 : (Jvm.Cond.methodLink "LittleMix$Machine" (256 : Nat) ({ cls := "LittleMix$Registers", name := "put", desc := "(IJ)V" } : Jvm.MethodName)) ∈ mx_T := List.mem_filter.mpr ⟨List.mem_append_right _ ((List.mem_append_right _ (List.mem_append_right _ (List.mem_append_right _ (List.mem_append_left _ (List.mem_of_getElem? (l := tables_1_4) (i := 101) (by decide +kernel))))))), rfl⟩
theorem k_822 : (Jvm.Cond.instanceMethod ({ cls := "LittleMix$Registers", name := "put", desc := "(IJ)V" } : Jvm.MethodName)) ∈ mx_T := List.mem_filter.mpr ⟨List.mem_append_right _ ((List.mem_append_right _ (List.mem_append_right _ (List.mem_append_right _ (List.mem_append_left _ (List.mem_of_getElem? (l := tables_1_4) (i := 102) (by decide +kernel))))))), rfl⟩
theorem k_823 : (Jvm.Cond.selects "LittleMix$Registers" ({ cls := "LittleMix$Registers", name := "put", desc := "(IJ)V" } : Jvm.MethodName) ({ cls := "LittleMix$Registers", name := "put", desc := "(IJ)V" } : Jvm.MethodName)) ∈ mx_T := List.mem_filter.mpr ⟨List.mem_append_right _ ((List.mem_append_right _ (List.mem_append_right _ (List.mem_append_right _ (List.mem_append_left _ (List.mem_of_getElem? (l := tables_1_4) (i := 103) (by decide +kernel))))))), rfl⟩
theorem k_824 : (Jvm.Cond.code ({ cls := "LittleMix$Registers", name := "put", desc := "(IJ)V" } : Jvm.MethodName) prog_10_method_8_code (4 : Nat) (Option.none : Option Jvm.ClassFile.FieldType)) ∈ mx_T := List.mem_filter.mpr ⟨List.mem_append_right _ ((List.mem_append_right _ (List.mem_append_right _ (List.mem_append_right _ (List.mem_append_left _ (List.mem_of_getElem? (l := tables_1_4) (i := 104) rfl)))))), rfl⟩
theorem k_833 : (Jvm.Cond.methodLink "LittleMix$Machine" (249 : Nat) ({ cls := "LittleMix$Registers", name := "pop", desc := "(I)Z" } : Jvm.MethodName)) ∈ mx_T := List.mem_filter.mpr ⟨List.mem_append_right _ ((List.mem_append_right _ (List.mem_append_right _ (List.mem_append_right _ (List.mem_append_left _ (List.mem_of_getElem? (l := tables_1_4) (i := 113) (by decide +kernel))))))), rfl⟩
theorem k_834 : (Jvm.Cond.instanceMethod ({ cls := "LittleMix$Registers", name := "pop", desc := "(I)Z" } : Jvm.MethodName)) ∈ mx_T := List.mem_filter.mpr ⟨List.mem_append_right _ ((List.mem_append_right _ (List.mem_append_right _ (List.mem_append_right _ (List.mem_append_left _ (List.mem_of_getElem? (l := tables_1_4) (i := 114) (by decide +kernel))))))), rfl⟩
theorem k_835 : (Jvm.Cond.selects "LittleMix$Registers" ({ cls := "LittleMix$Registers", name := "pop", desc := "(I)Z" } : Jvm.MethodName) ({ cls := "LittleMix$Registers", name := "pop", desc := "(I)Z" } : Jvm.MethodName)) ∈ mx_T := List.mem_filter.mpr ⟨List.mem_append_right _ ((List.mem_append_right _ (List.mem_append_right _ (List.mem_append_right _ (List.mem_append_left _ (List.mem_of_getElem? (l := tables_1_4) (i := 115) (by decide +kernel))))))), rfl⟩
theorem k_836 : (Jvm.Cond.code ({ cls := "LittleMix$Registers", name := "pop", desc := "(I)Z" } : Jvm.MethodName) prog_10_method_10_code (7 : Nat) (Option.some Jvm.ClassFile.FieldType.boolean)) ∈ mx_T := List.mem_filter.mpr ⟨List.mem_append_right _ ((List.mem_append_right _ (List.mem_append_right _ (List.mem_append_right _ (List.mem_append_left _ (List.mem_of_getElem? (l := tables_1_4) (i := 116) rfl)))))), rfl⟩
theorem k_846 : (Jvm.Cond.methodLink "LittleMix$Machine" (106 : Nat) ({ cls := "LittleMix$Machine", name := "trip", desc := "(I)V" } : Jvm.MethodName)) ∈ mx_T := List.mem_filter.mpr ⟨List.mem_append_right _ ((List.mem_append_right _ (List.mem_append_right _ (List.mem_append_right _ (List.mem_append_left _ (List.mem_of_getElem? (l := tables_1_4) (i := 126) (by decide +kernel))))))), rfl⟩
theorem k_848 : (Jvm.Cond.instanceMethod ({ cls := "LittleMix$Machine", name := "trip", desc := "(I)V" } : Jvm.MethodName)) ∈ mx_T := List.mem_filter.mpr ⟨List.mem_append_right _ ((List.mem_append_right _ (List.mem_append_right _ (List.mem_append_right _ (List.mem_append_left _ (List.mem_of_getElem? (l := tables_1_4) (i := 128) (by decide +kernel))))))), rfl⟩
theorem k_849 : (Jvm.Cond.code ({ cls := "LittleMix$Machine", name := "trip", desc := "(I)V" } : Jvm.MethodName) prog_6_method_7_code (2 : Nat) (Option.none : Option Jvm.ClassFile.FieldType)) ∈ mx_T := List.mem_filter.mpr ⟨List.mem_append_right _ ((List.mem_append_right _ (List.mem_append_right _ (List.mem_append_right _ (List.mem_append_left _ (List.mem_of_getElem? (l := tables_1_4) (i := 129) rfl)))))), rfl⟩
theorem k_850 : (Jvm.Cond.constantLong "LittleMix$Machine" (115 : Nat) (4294967295 : Int64)) ∈ mx_T := List.mem_filter.mpr ⟨List.mem_append_right _ ((List.mem_append_right _ (List.mem_append_right _ (List.mem_append_right _ (List.mem_append_left _ (List.mem_of_getElem? (l := tables_1_4) (i := 130) (by decide +kernel))))))), rfl⟩
theorem k_856 : (Jvm.Cond.methodLink "LittleMix$Machine" (150 : Nat) ({ cls := "LittleMix$Arithmetic", name := "productFits", desc := "(JJ)Z" } : Jvm.MethodName)) ∈ mx_T := List.mem_filter.mpr ⟨List.mem_append_right _ ((List.mem_append_right _ (List.mem_append_right _ (List.mem_append_right _ (List.mem_append_left _ (List.mem_of_getElem? (l := tables_1_4) (i := 136) (by decide +kernel))))))), rfl⟩
theorem k_857 : (Jvm.Cond.static ({ cls := "LittleMix$Arithmetic", name := "productFits", desc := "(JJ)Z" } : Jvm.MethodName)) ∈ mx_T := List.mem_filter.mpr ⟨List.mem_append_right _ ((List.mem_append_right _ (List.mem_append_right _ (List.mem_append_right _ (List.mem_append_left _ (List.mem_of_getElem? (l := tables_1_4) (i := 137) (by decide +kernel))))))), rfl⟩
theorem k_858 : (Jvm.Cond.code ({ cls := "LittleMix$Arithmetic", name := "productFits", desc := "(JJ)Z" } : Jvm.MethodName) prog_2_method_4_code (6 : Nat) (Option.some Jvm.ClassFile.FieldType.boolean)) ∈ mx_T := List.mem_filter.mpr ⟨List.mem_append_right _ ((List.mem_append_right _ (List.mem_append_right _ (List.mem_append_right _ (List.mem_append_left _ (List.mem_of_getElem? (l := tables_1_4) (i := 138) rfl)))))), rfl⟩
theorem k_863 : (Jvm.Cond.methodLink "LittleMix$Machine" (158 : Nat) ({ cls := "LittleMix$Arithmetic", name := "upper", desc := "(JJ)J" } : Jvm.MethodName)) ∈ mx_T := List.mem_filter.mpr ⟨List.mem_append_right _ ((List.mem_append_right _ (List.mem_append_right _ (List.mem_append_right _ (List.mem_append_left _ (List.mem_of_getElem? (l := tables_1_4) (i := 143) (by decide +kernel))))))), rfl⟩
theorem k_864 : (Jvm.Cond.methodLink "LittleMix$Machine" (162 : Nat) ({ cls := "LittleMix$Machine", name := "divided", desc := "()J" } : Jvm.MethodName)) ∈ mx_T := List.mem_filter.mpr ⟨List.mem_append_right _ ((List.mem_append_right _ (List.mem_append_right _ (List.mem_append_right _ (List.mem_append_left _ (List.mem_of_getElem? (l := tables_1_4) (i := 144) (by decide +kernel))))))), rfl⟩
theorem k_866 : (Jvm.Cond.instanceMethod ({ cls := "LittleMix$Machine", name := "divided", desc := "()J" } : Jvm.MethodName)) ∈ mx_T := List.mem_filter.mpr ⟨List.mem_append_right _ ((List.mem_append_right _ (List.mem_append_right _ (List.mem_append_right _ (List.mem_append_left _ (List.mem_of_getElem? (l := tables_1_4) (i := 146) (by decide +kernel))))))), rfl⟩
theorem k_867 : (Jvm.Cond.code ({ cls := "LittleMix$Machine", name := "divided", desc := "()J" } : Jvm.MethodName) prog_6_method_11_code (1 : Nat) (Option.some Jvm.ClassFile.FieldType.long)) ∈ mx_T := List.mem_filter.mpr ⟨List.mem_append_right _ ((List.mem_append_right _ (List.mem_append_right _ (List.mem_append_right _ (List.mem_append_left _ (List.mem_of_getElem? (l := tables_1_4) (i := 147) rfl)))))), rfl⟩
theorem k_875 : (Jvm.Cond.methodLink "LittleMix$Machine" (165 : Nat) ({ cls := "LittleMix$Machine", name := "dividedWithoutSigns", desc := "()J" } : Jvm.MethodName)) ∈ mx_T := List.mem_filter.mpr ⟨List.mem_append_right _ ((List.mem_append_right _ (List.mem_append_right _ (List.mem_append_right _ (List.mem_append_left _ (List.mem_of_getElem? (l := tables_1_4) (i := 155) (by decide +kernel))))))), rfl⟩
theorem k_877 : (Jvm.Cond.instanceMethod ({ cls := "LittleMix$Machine", name := "dividedWithoutSigns", desc := "()J" } : Jvm.MethodName)) ∈ mx_T := List.mem_filter.mpr ⟨List.mem_append_right _ ((List.mem_append_right _ (List.mem_append_right _ (List.mem_append_right _ (List.mem_append_left _ (List.mem_of_getElem? (l := tables_1_4) (i := 157) (by decide +kernel))))))), rfl⟩
theorem k_878 : (Jvm.Cond.code ({ cls := "LittleMix$Machine", name := "dividedWithoutSigns", desc := "()J" } : Jvm.MethodName) prog_6_method_12_code (5 : Nat) (Option.some Jvm.ClassFile.FieldType.long)) ∈ mx_T := List.mem_filter.mpr ⟨List.mem_append_right _ ((List.mem_append_right _ (List.mem_append_right _ (List.mem_append_right _ (List.mem_append_left _ (List.mem_of_getElem? (l := tables_1_4) (i := 158) rfl)))))), rfl⟩
theorem k_891 : (Jvm.Cond.methodLink "LittleMix$Machine" (185 : Nat) ({ cls := "LittleMix$Machine", name := "subtracted", desc := "()J" } : Jvm.MethodName)) ∈ mx_T := List.mem_filter.mpr ⟨List.mem_append_right _ ((List.mem_append_right _ (List.mem_append_right _ (List.mem_append_right _ (List.mem_append_left _ (List.mem_of_getElem? (l := tables_1_4) (i := 171) (by decide +kernel))))))), rfl⟩
theorem k_893 : (Jvm.Cond.instanceMethod ({ cls := "LittleMix$Machine", name := "subtracted", desc := "()J" } : Jvm.MethodName)) ∈ mx_T := List.mem_filter.mpr ⟨List.mem_append_right _ ((List.mem_append_right _ (List.mem_append_right _ (List.mem_append_right _ (List.mem_append_left _ (List.mem_of_getElem? (l := tables_1_4) (i := 173) (by decide +kernel))))))), rfl⟩
theorem k_894 : (Jvm.Cond.code ({ cls := "LittleMix$Machine", name := "subtracted", desc := "()J" } : Jvm.MethodName) prog_6_method_14_code (1 : Nat) (Option.some Jvm.ClassFile.FieldType.long)) ∈ mx_T := List.mem_filter.mpr ⟨List.mem_append_right _ ((List.mem_append_right _ (List.mem_append_right _ (List.mem_append_right _ (List.mem_append_left _ (List.mem_of_getElem? (l := tables_1_4) (i := 174) rfl)))))), rfl⟩
theorem k_895 : (Jvm.Cond.methodLink "LittleMix$Machine" (188 : Nat) ({ cls := "java/lang/Long", name := "compare", desc := "(JJ)I" } : Jvm.MethodName)) ∈ mx_T := List.mem_filter.mpr ⟨List.mem_append_right _ ((List.mem_append_right _ (List.mem_append_right _ (List.mem_append_right _ (List.mem_append_left _ (List.mem_of_getElem? (l := tables_1_4) (i := 175) (by decide +kernel))))))), rfl⟩
theorem k_902 : (Jvm.Cond.constantLong "LittleMix$Machine" (194 : Nat) (63 : Int64)) ∈ mx_T := List.mem_filter.mpr ⟨List.mem_append_right _ ((List.mem_append_right _ (List.mem_append_right _ (List.mem_append_right _ (List.mem_append_left _ (List.mem_of_getElem? (l := tables_1_4) (i := 182) (by decide +kernel))))))), rfl⟩
theorem k_907 : (Jvm.Cond.methodLink "LittleMix$Machine" (202 : Nat) ({ cls := "LittleMix$Arithmetic", name := "isSo", desc := "(IJ)Z" } : Jvm.MethodName)) ∈ mx_T := List.mem_filter.mpr ⟨List.mem_append_right _ ((List.mem_append_right _ (List.mem_append_right _ (List.mem_append_right _ (List.mem_append_left _ (List.mem_of_getElem? (l := tables_1_4) (i := 187) (by decide +kernel))))))), rfl⟩
theorem k_908 : (Jvm.Cond.static ({ cls := "LittleMix$Arithmetic", name := "isSo", desc := "(IJ)Z" } : Jvm.MethodName)) ∈ mx_T := List.mem_filter.mpr ⟨List.mem_append_right _ ((List.mem_append_right _ (List.mem_append_right _ (List.mem_append_right _ (List.mem_append_left _ (List.mem_of_getElem? (l := tables_1_4) (i := 188) (by decide +kernel))))))), rfl⟩
theorem k_909 : (Jvm.Cond.code ({ cls := "LittleMix$Arithmetic", name := "isSo", desc := "(IJ)Z" } : Jvm.MethodName) prog_2_method_8_code (4 : Nat) (Option.some Jvm.ClassFile.FieldType.boolean)) ∈ mx_T := List.mem_filter.mpr ⟨List.mem_append_right _ ((List.mem_append_right _ (List.mem_append_right _ (List.mem_append_right _ (List.mem_append_left _ (List.mem_of_getElem? (l := tables_1_4) (i := 189) rfl)))))), rfl⟩
theorem k_922 : (Jvm.Cond.methodLink "LittleMix$Machine" (218 : Nat) ({ cls := "java/lang/Long", name := "bitCount", desc := "(J)I" } : Jvm.MethodName)) ∈ mx_T := List.mem_filter.mpr ⟨List.mem_append_right _ ((List.mem_append_right _ (List.mem_append_right _ (List.mem_append_right _ (List.mem_append_left _ (List.mem_of_getElem? (l := tables_1_4) (i := 202) (by decide +kernel))))))), rfl⟩
theorem k_923 : (Jvm.Cond.static ({ cls := "java/lang/Long", name := "bitCount", desc := "(J)I" } : Jvm.MethodName)) ∈ mx_T := List.mem_filter.mpr ⟨List.mem_append_right _ ((List.mem_append_right _ (List.mem_append_right _ (List.mem_append_right _ (List.mem_append_left _ (List.mem_of_getElem? (l := tables_1_4) (i := 203) (by decide +kernel))))))), rfl⟩
theorem k_924 : (Jvm.Cond.code ({ cls := "java/lang/Long", name := "bitCount", desc := "(J)I" } : Jvm.MethodName) prog_16_method_50_code (2 : Nat) (Option.some Jvm.ClassFile.FieldType.int)) ∈ mx_T := List.mem_filter.mpr ⟨List.mem_append_right _ ((List.mem_append_right _ (List.mem_append_right _ (List.mem_append_right _ (List.mem_append_left _ (List.mem_of_getElem? (l := tables_1_4) (i := 204) rfl)))))), rfl⟩
theorem k_928 : (Jvm.Cond.methodLink "LittleMix$Machine" (221 : Nat) ({ cls := "LittleMix$Arithmetic", name := "matrix", desc := "(JJZ)J" } : Jvm.MethodName)) ∈ mx_T := List.mem_filter.mpr ⟨List.mem_append_right _ ((List.mem_append_right _ (List.mem_append_right _ (List.mem_append_right _ (List.mem_append_left _ (List.mem_of_getElem? (l := tables_1_4) (i := 208) (by decide +kernel))))))), rfl⟩
theorem k_929 : (Jvm.Cond.static ({ cls := "LittleMix$Arithmetic", name := "matrix", desc := "(JJZ)J" } : Jvm.MethodName)) ∈ mx_T := List.mem_filter.mpr ⟨List.mem_append_right _ ((List.mem_append_right _ (List.mem_append_right _ (List.mem_append_right _ (List.mem_append_left _ (List.mem_of_getElem? (l := tables_1_4) (i := 209) (by decide +kernel))))))), rfl⟩
theorem k_930 : (Jvm.Cond.code ({ cls := "LittleMix$Arithmetic", name := "matrix", desc := "(JJZ)J" } : Jvm.MethodName) prog_2_method_7_code (13 : Nat) (Option.some Jvm.ClassFile.FieldType.long)) ∈ mx_T := List.mem_filter.mpr ⟨List.mem_append_right _ ((List.mem_append_right _ (List.mem_append_right _ (List.mem_append_right _ (List.mem_append_left _ (List.mem_of_getElem? (l := tables_1_4) (i := 210) rfl)))))), rfl⟩
theorem k_932 : (Jvm.Cond.methodLink "LittleMix$Machine" (225 : Nat) ({ cls := "LittleMix$Arithmetic", name := "difference", desc := "(JJI)J" } : Jvm.MethodName)) ∈ mx_T := List.mem_filter.mpr ⟨List.mem_append_right _ ((List.mem_append_right _ (List.mem_append_right _ (List.mem_append_right _ (List.mem_append_left _ (List.mem_of_getElem? (l := tables_1_4) (i := 212) (by decide +kernel))))))), rfl⟩
theorem k_933 : (Jvm.Cond.static ({ cls := "LittleMix$Arithmetic", name := "difference", desc := "(JJI)J" } : Jvm.MethodName)) ∈ mx_T := List.mem_filter.mpr ⟨List.mem_append_right _ ((List.mem_append_right _ (List.mem_append_right _ (List.mem_append_right _ (List.mem_append_left _ (List.mem_of_getElem? (l := tables_1_4) (i := 213) (by decide +kernel))))))), rfl⟩
theorem k_934 : (Jvm.Cond.code ({ cls := "LittleMix$Arithmetic", name := "difference", desc := "(JJI)J" } : Jvm.MethodName) prog_2_method_6_code (14 : Nat) (Option.some Jvm.ClassFile.FieldType.long)) ∈ mx_T := List.mem_filter.mpr ⟨List.mem_append_right _ ((List.mem_append_right _ (List.mem_append_right _ (List.mem_append_right _ (List.mem_append_left _ (List.mem_of_getElem? (l := tables_1_4) (i := 214) rfl)))))), rfl⟩
theorem k_940 : (Jvm.Cond.constantLong "LittleMix$Machine" (229 : Nat) (65535 : Int64)) ∈ mx_T := List.mem_filter.mpr ⟨List.mem_append_right _ ((List.mem_append_right _ (List.mem_append_right _ (List.mem_append_right _ (List.mem_append_left _ (List.mem_of_getElem? (l := tables_1_4) (i := 220) (by decide +kernel))))))), rfl⟩
theorem sl_Mac_subtracted : Cond.selects y_Mac_subtracted.cls y_Mac_subtracted y_Mac_subtracted ∈ mx_T := List.mem_filter.mpr ⟨List.mem_append_left _ (by decide +kernel), by decide +kernel⟩
theorem sl_Mac_divided : Cond.selects y_Mac_divided.cls y_Mac_divided y_Mac_divided ∈ mx_T := List.mem_filter.mpr ⟨List.mem_append_left _ (by decide +kernel), by decide +kernel⟩
theorem sl_Mac_dividedWithoutSigns : Cond.selects y_Mac_dividedWithoutSigns.cls y_Mac_dividedWithoutSigns y_Mac_dividedWithoutSigns ∈ mx_T := List.mem_filter.mpr ⟨List.mem_append_left _ (by decide +kernel), by decide +kernel⟩
theorem sl_Mac_target : Cond.selects y_Mac_target.cls y_Mac_target y_Mac_target ∈ mx_T := List.mem_filter.mpr ⟨List.mem_append_left _ (by decide +kernel), by decide +kernel⟩
theorem sl_Mac_trip : Cond.selects y_Mac_trip.cls y_Mac_trip y_Mac_trip ∈ mx_T := List.mem_filter.mpr ⟨List.mem_append_left _ (by decide +kernel), by decide +kernel⟩
theorem d_Mac_added_0 : decode b_Mac_added 0 = .ok (.aload_n 0, 1) := by decide +kernel
theorem d_Mac_added_1 : decode b_Mac_added 1 = .ok (.getfield 73, 3) := by decide +kernel
theorem d_Mac_added_4 : decode b_Mac_added 4 = .ok (.iconst 1, 1) := by decide +kernel
theorem d_Mac_added_5 : decode b_Mac_added 5 = .ok (.ishr, 1) := by decide +kernel
theorem d_Mac_added_6 : decode b_Mac_added 6 = .ok (.tableswitch 216 16 27 #[62, 115, 125, 130, 216, 216, 216, 216, 140, 153, 191, 205], 62) := by decide +kernel
theorem d_Mac_added_68 : decode b_Mac_added 68 = .ok (.aload_n 0, 1) := by decide +kernel
theorem d_Mac_added_69 : decode b_Mac_added 69 = .ok (.aload_n 0, 1) := by decide +kernel
theorem d_Mac_added_70 : decode b_Mac_added 70 = .ok (.getfield 89, 3) := by decide +kernel
theorem d_Mac_added_73 : decode b_Mac_added 73 = .ok (.aload_n 0, 1) := by decide +kernel
theorem d_Mac_added_74 : decode b_Mac_added 74 = .ok (.getfield 89, 3) := by decide +kernel
theorem d_Mac_added_77 : decode b_Mac_added 77 = .ok (.aload_n 0, 1) := by decide +kernel
theorem d_Mac_added_78 : decode b_Mac_added 78 = .ok (.getfield 92, 3) := by decide +kernel
theorem d_Mac_added_81 : decode b_Mac_added 81 = .ok (.ladd, 1) := by decide +kernel
theorem d_Mac_added_82 : decode b_Mac_added 82 = .ok (.lxor, 1) := by decide +kernel
theorem d_Mac_added_83 : decode b_Mac_added 83 = .ok (.aload_n 0, 1) := by decide +kernel
theorem d_Mac_added_84 : decode b_Mac_added 84 = .ok (.getfield 92, 3) := by decide +kernel
theorem d_Mac_added_87 : decode b_Mac_added 87 = .ok (.aload_n 0, 1) := by decide +kernel
theorem d_Mac_added_88 : decode b_Mac_added 88 = .ok (.getfield 89, 3) := by decide +kernel
theorem d_Mac_added_91 : decode b_Mac_added 91 = .ok (.aload_n 0, 1) := by decide +kernel
theorem d_Mac_added_92 : decode b_Mac_added 92 = .ok (.getfield 92, 3) := by decide +kernel
theorem d_Mac_added_95 : decode b_Mac_added 95 = .ok (.ladd, 1) := by decide +kernel
theorem d_Mac_added_96 : decode b_Mac_added 96 = .ok (.lxor, 1) := by decide +kernel
theorem d_Mac_added_97 : decode b_Mac_added 97 = .ok (.land, 1) := by decide +kernel
theorem d_Mac_added_98 : decode b_Mac_added 98 = .ok (.lconst 0, 1) := by decide +kernel
theorem d_Mac_added_99 : decode b_Mac_added 99 = .ok (.lcmp, 1) := by decide +kernel
theorem d_Mac_added_100 : decode b_Mac_added 100 = .ok (.ifCond .ge 7, 3) := by decide +kernel
theorem d_Mac_added_103 : decode b_Mac_added 103 = .ok (.iconst 1, 1) := by decide +kernel
theorem d_Mac_added_104 : decode b_Mac_added 104 = .ok (.goto 4, 3) := by decide +kernel
theorem d_Mac_added_107 : decode b_Mac_added 107 = .ok (.iconst 0, 1) := by decide +kernel
theorem d_Mac_added_108 : decode b_Mac_added 108 = .ok (.invokevirtual 154, 3) := by decide +kernel
theorem d_Mac_added_111 : decode b_Mac_added 111 = .ok (.aload_n 0, 1) := by decide +kernel
theorem d_Mac_added_112 : decode b_Mac_added 112 = .ok (.getfield 89, 3) := by decide +kernel
theorem d_Mac_added_115 : decode b_Mac_added 115 = .ok (.aload_n 0, 1) := by decide +kernel
theorem d_Mac_added_116 : decode b_Mac_added 116 = .ok (.getfield 92, 3) := by decide +kernel
theorem d_Mac_added_119 : decode b_Mac_added 119 = .ok (.ladd, 1) := by decide +kernel
theorem d_Mac_added_120 : decode b_Mac_added 120 = .ok (.lreturn, 1) := by decide +kernel
theorem d_Mac_added_121 : decode b_Mac_added 121 = .ok (.aload_n 0, 1) := by decide +kernel
theorem d_Mac_added_122 : decode b_Mac_added 122 = .ok (.getfield 89, 3) := by decide +kernel
theorem d_Mac_added_125 : decode b_Mac_added 125 = .ok (.aload_n 0, 1) := by decide +kernel
theorem d_Mac_added_126 : decode b_Mac_added 126 = .ok (.getfield 92, 3) := by decide +kernel
theorem d_Mac_added_129 : decode b_Mac_added 129 = .ok (.ladd, 1) := by decide +kernel
theorem d_Mac_added_130 : decode b_Mac_added 130 = .ok (.lreturn, 1) := by decide +kernel
theorem d_Mac_added_131 : decode b_Mac_added 131 = .ok (.aload_n 0, 1) := by decide +kernel
theorem d_Mac_added_132 : decode b_Mac_added 132 = .ok (.invokevirtual 185, 3) := by decide +kernel
theorem d_Mac_added_135 : decode b_Mac_added 135 = .ok (.lreturn, 1) := by decide +kernel
theorem d_Mac_added_136 : decode b_Mac_added 136 = .ok (.aload_n 0, 1) := by decide +kernel
theorem d_Mac_added_137 : decode b_Mac_added 137 = .ok (.getfield 89, 3) := by decide +kernel
theorem d_Mac_added_140 : decode b_Mac_added 140 = .ok (.aload_n 0, 1) := by decide +kernel
theorem d_Mac_added_141 : decode b_Mac_added 141 = .ok (.getfield 92, 3) := by decide +kernel
theorem d_Mac_added_144 : decode b_Mac_added 144 = .ok (.lsub, 1) := by decide +kernel
theorem d_Mac_added_145 : decode b_Mac_added 145 = .ok (.lreturn, 1) := by decide +kernel
theorem d_Mac_added_146 : decode b_Mac_added 146 = .ok (.aload_n 0, 1) := by decide +kernel
theorem d_Mac_added_147 : decode b_Mac_added 147 = .ok (.getfield 89, 3) := by decide +kernel
theorem d_Mac_added_150 : decode b_Mac_added 150 = .ok (.aload_n 0, 1) := by decide +kernel
theorem d_Mac_added_151 : decode b_Mac_added 151 = .ok (.getfield 92, 3) := by decide +kernel
theorem d_Mac_added_154 : decode b_Mac_added 154 = .ok (.invokestatic 188, 3) := by decide +kernel
theorem d_Mac_added_157 : decode b_Mac_added 157 = .ok (.i2l, 1) := by decide +kernel
theorem d_Mac_added_158 : decode b_Mac_added 158 = .ok (.lreturn, 1) := by decide +kernel
theorem d_Mac_added_159 : decode b_Mac_added 159 = .ok (.aload_n 0, 1) := by decide +kernel
theorem d_Mac_added_160 : decode b_Mac_added 160 = .ok (.getfield 89, 3) := by decide +kernel
theorem d_Mac_added_163 : decode b_Mac_added 163 = .ok (.aload_n 0, 1) := by decide +kernel
theorem d_Mac_added_164 : decode b_Mac_added 164 = .ok (.getfield 92, 3) := by decide +kernel
theorem d_Mac_added_167 : decode b_Mac_added 167 = .ok (.lcmp, 1) := by decide +kernel
theorem d_Mac_added_168 : decode b_Mac_added 168 = .ok (.ifCond .ne 7, 3) := by decide +kernel
theorem d_Mac_added_171 : decode b_Mac_added 171 = .ok (.lconst 0, 1) := by decide +kernel
theorem d_Mac_added_172 : decode b_Mac_added 172 = .ok (.goto 24, 3) := by decide +kernel
theorem d_Mac_added_175 : decode b_Mac_added 175 = .ok (.aload_n 0, 1) := by decide +kernel
theorem d_Mac_added_176 : decode b_Mac_added 176 = .ok (.getfield 89, 3) := by decide +kernel
theorem d_Mac_added_179 : decode b_Mac_added 179 = .ok (.aload_n 0, 1) := by decide +kernel
theorem d_Mac_added_180 : decode b_Mac_added 180 = .ok (.getfield 92, 3) := by decide +kernel
theorem d_Mac_added_183 : decode b_Mac_added 183 = .ok (.invokestatic 178, 3) := by decide +kernel
theorem d_Mac_added_186 : decode b_Mac_added 186 = .ok (.ifCond .eq 9, 3) := by decide +kernel
theorem d_Mac_added_189 : decode b_Mac_added 189 = .ok (.ldc2_w 168, 3) := by decide +kernel
theorem d_Mac_added_192 : decode b_Mac_added 192 = .ok (.goto 4, 3) := by decide +kernel
theorem d_Mac_added_195 : decode b_Mac_added 195 = .ok (.lconst 1, 1) := by decide +kernel
theorem d_Mac_added_196 : decode b_Mac_added 196 = .ok (.lreturn, 1) := by decide +kernel
theorem d_Mac_added_197 : decode b_Mac_added 197 = .ok (.aload_n 0, 1) := by decide +kernel
theorem d_Mac_added_198 : decode b_Mac_added 198 = .ok (.aload_n 0, 1) := by decide +kernel
theorem d_Mac_added_199 : decode b_Mac_added 199 = .ok (.getfield 79, 3) := by decide +kernel
theorem d_Mac_added_202 : decode b_Mac_added 202 = .ok (.i2l, 1) := by decide +kernel
theorem d_Mac_added_203 : decode b_Mac_added 203 = .ok (.putfield 89, 3) := by decide +kernel
theorem d_Mac_added_206 : decode b_Mac_added 206 = .ok (.aload_n 0, 1) := by decide +kernel
theorem d_Mac_added_207 : decode b_Mac_added 207 = .ok (.invokevirtual 185, 3) := by decide +kernel
theorem d_Mac_added_210 : decode b_Mac_added 210 = .ok (.lreturn, 1) := by decide +kernel
theorem d_Mac_added_211 : decode b_Mac_added 211 = .ok (.aload_n 0, 1) := by decide +kernel
theorem d_Mac_added_212 : decode b_Mac_added 212 = .ok (.getfield 79, 3) := by decide +kernel
theorem d_Mac_added_215 : decode b_Mac_added 215 = .ok (.i2l, 1) := by decide +kernel
theorem d_Mac_added_216 : decode b_Mac_added 216 = .ok (.aload_n 0, 1) := by decide +kernel
theorem d_Mac_added_217 : decode b_Mac_added 217 = .ok (.getfield 92, 3) := by decide +kernel
theorem d_Mac_added_220 : decode b_Mac_added 220 = .ok (.lsub, 1) := by decide +kernel
theorem d_Mac_added_221 : decode b_Mac_added 221 = .ok (.lreturn, 1) := by decide +kernel
theorem d_Mac_added_222 : decode b_Mac_added 222 = .ok (.aload_n 0, 1) := by decide +kernel
theorem d_Mac_added_223 : decode b_Mac_added 223 = .ok (.getfield 89, 3) := by decide +kernel
theorem d_Mac_added_226 : decode b_Mac_added 226 = .ok (.aload_n 0, 1) := by decide +kernel
theorem d_Mac_added_227 : decode b_Mac_added 227 = .ok (.getfield 73, 3) := by decide +kernel
theorem d_Mac_added_230 : decode b_Mac_added 230 = .ok (.iconst 1, 1) := by decide +kernel
theorem d_Mac_added_231 : decode b_Mac_added 231 = .ok (.ishr, 1) := by decide +kernel
theorem d_Mac_added_232 : decode b_Mac_added 232 = .ok (.bipush 19, 2) := by decide +kernel
theorem d_Mac_added_234 : decode b_Mac_added 234 = .ok (.isub, 1) := by decide +kernel
theorem d_Mac_added_235 : decode b_Mac_added 235 = .ok (.lshl, 1) := by decide +kernel
theorem d_Mac_added_236 : decode b_Mac_added 236 = .ok (.aload_n 0, 1) := by decide +kernel
theorem d_Mac_added_237 : decode b_Mac_added 237 = .ok (.getfield 92, 3) := by decide +kernel
theorem d_Mac_added_240 : decode b_Mac_added 240 = .ok (.ladd, 1) := by decide +kernel
theorem d_Mac_added_241 : decode b_Mac_added 241 = .ok (.lreturn, 1) := by decide +kernel
theorem d_Mac_branch_0 : decode b_Mac_branch 0 = .ok (.aload_n 0, 1) := by decide +kernel
theorem d_Mac_branch_1 : decode b_Mac_branch 1 = .ok (.getfield 73, 3) := by decide +kernel
theorem d_Mac_branch_4 : decode b_Mac_branch 4 = .ok (.iconst 1, 1) := by decide +kernel
theorem d_Mac_branch_5 : decode b_Mac_branch 5 = .ok (.ishr, 1) := by decide +kernel
theorem d_Mac_branch_6 : decode b_Mac_branch 6 = .ok (.bipush 7, 2) := by decide +kernel
theorem d_Mac_branch_8 : decode b_Mac_branch 8 = .ok (.iand, 1) := by decide +kernel
theorem d_Mac_branch_9 : decode b_Mac_branch 9 = .ok (.aload_n 0, 1) := by decide +kernel
theorem d_Mac_branch_10 : decode b_Mac_branch 10 = .ok (.getfield 13, 3) := by decide +kernel
theorem d_Mac_branch_13 : decode b_Mac_branch 13 = .ok (.aload_n 0, 1) := by decide +kernel
theorem d_Mac_branch_14 : decode b_Mac_branch 14 = .ok (.getfield 76, 3) := by decide +kernel
theorem d_Mac_branch_17 : decode b_Mac_branch 17 = .ok (.invokevirtual 85, 3) := by decide +kernel
theorem d_Mac_branch_20 : decode b_Mac_branch 20 = .ok (.invokestatic 202, 3) := by decide +kernel
theorem d_Mac_branch_23 : decode b_Mac_branch 23 = .ok (.istore_n 1, 1) := by decide +kernel
theorem d_Mac_branch_24 : decode b_Mac_branch 24 = .ok (.aload_n 0, 1) := by decide +kernel
theorem d_Mac_branch_25 : decode b_Mac_branch 25 = .ok (.getfield 73, 3) := by decide +kernel
theorem d_Mac_branch_28 : decode b_Mac_branch 28 = .ok (.bipush 80, 2) := by decide +kernel
theorem d_Mac_branch_30 : decode b_Mac_branch 30 = .ok (.if_icmp .lt 7, 3) := by decide +kernel
theorem d_Mac_branch_33 : decode b_Mac_branch 33 = .ok (.iconst 1, 1) := by decide +kernel
theorem d_Mac_branch_34 : decode b_Mac_branch 34 = .ok (.goto 4, 3) := by decide +kernel
theorem d_Mac_branch_37 : decode b_Mac_branch 37 = .ok (.iconst 0, 1) := by decide +kernel
theorem d_Mac_branch_38 : decode b_Mac_branch 38 = .ok (.istore_n 2, 1) := by decide +kernel
theorem d_Mac_branch_39 : decode b_Mac_branch 39 = .ok (.iload_n 1, 1) := by decide +kernel
theorem d_Mac_branch_40 : decode b_Mac_branch 40 = .ok (.ifCond .eq 11, 3) := by decide +kernel
theorem d_Mac_branch_43 : decode b_Mac_branch 43 = .ok (.aload_n 0, 1) := by decide +kernel
theorem d_Mac_branch_44 : decode b_Mac_branch 44 = .ok (.aload_n 0, 1) := by decide +kernel
theorem d_Mac_branch_45 : decode b_Mac_branch 45 = .ok (.invokevirtual 206, 3) := by decide +kernel
theorem d_Mac_branch_48 : decode b_Mac_branch 48 = .ok (.putfield 60, 3) := by decide +kernel
theorem d_Mac_branch_51 : decode b_Mac_branch 51 = .ok (.iload_n 1, 1) := by decide +kernel
theorem d_Mac_branch_52 : decode b_Mac_branch 52 = .ok (.iload_n 2, 1) := by decide +kernel
theorem d_Mac_branch_53 : decode b_Mac_branch 53 = .ok (.if_icmp .eq 8, 3) := by decide +kernel
theorem d_Mac_branch_56 : decode b_Mac_branch 56 = .ok (.aload_n 0, 1) := by decide +kernel
theorem d_Mac_branch_57 : decode b_Mac_branch 57 = .ok (.iconst 3, 1) := by decide +kernel
theorem d_Mac_branch_58 : decode b_Mac_branch 58 = .ok (.putfield 63, 3) := by decide +kernel
theorem d_Mac_branch_61 : decode b_Mac_branch 61 = .ok (.return_, 1) := by decide +kernel
theorem d_Mac_choose_0 : decode b_Mac_choose 0 = .ok (.aload_n 0, 1) := by decide +kernel
theorem d_Mac_choose_1 : decode b_Mac_choose 1 = .ok (.getfield 73, 3) := by decide +kernel
theorem d_Mac_choose_4 : decode b_Mac_choose 4 = .ok (.iconst 1, 1) := by decide +kernel
theorem d_Mac_choose_5 : decode b_Mac_choose 5 = .ok (.ishr, 1) := by decide +kernel
theorem d_Mac_choose_6 : decode b_Mac_choose 6 = .ok (.bipush 7, 2) := by decide +kernel
theorem d_Mac_choose_8 : decode b_Mac_choose 8 = .ok (.iand, 1) := by decide +kernel
theorem d_Mac_choose_9 : decode b_Mac_choose 9 = .ok (.aload_n 0, 1) := by decide +kernel
theorem d_Mac_choose_10 : decode b_Mac_choose 10 = .ok (.getfield 89, 3) := by decide +kernel
theorem d_Mac_choose_13 : decode b_Mac_choose 13 = .ok (.invokestatic 202, 3) := by decide +kernel
theorem d_Mac_choose_16 : decode b_Mac_choose 16 = .ok (.ifCond .eq 21, 3) := by decide +kernel
theorem d_Mac_choose_19 : decode b_Mac_choose 19 = .ok (.aload_n 0, 1) := by decide +kernel
theorem d_Mac_choose_20 : decode b_Mac_choose 20 = .ok (.getfield 13, 3) := by decide +kernel
theorem d_Mac_choose_23 : decode b_Mac_choose 23 = .ok (.aload_n 0, 1) := by decide +kernel
theorem d_Mac_choose_24 : decode b_Mac_choose 24 = .ok (.getfield 76, 3) := by decide +kernel
theorem d_Mac_choose_27 : decode b_Mac_choose 27 = .ok (.aload_n 0, 1) := by decide +kernel
theorem d_Mac_choose_28 : decode b_Mac_choose 28 = .ok (.getfield 92, 3) := by decide +kernel
theorem d_Mac_choose_31 : decode b_Mac_choose 31 = .ok (.invokevirtual 110, 3) := by decide +kernel
theorem d_Mac_choose_34 : decode b_Mac_choose 34 = .ok (.goto 24, 3) := by decide +kernel
theorem d_Mac_choose_37 : decode b_Mac_choose 37 = .ok (.aload_n 0, 1) := by decide +kernel
theorem d_Mac_choose_38 : decode b_Mac_choose 38 = .ok (.getfield 73, 3) := by decide +kernel
theorem d_Mac_choose_41 : decode b_Mac_choose 41 = .ok (.bipush 112, 2) := by decide +kernel
theorem d_Mac_choose_43 : decode b_Mac_choose 43 = .ok (.if_icmp .lt 15, 3) := by decide +kernel
theorem d_Mac_choose_46 : decode b_Mac_choose 46 = .ok (.aload_n 0, 1) := by decide +kernel
theorem d_Mac_choose_47 : decode b_Mac_choose 47 = .ok (.getfield 13, 3) := by decide +kernel
theorem d_Mac_choose_50 : decode b_Mac_choose 50 = .ok (.aload_n 0, 1) := by decide +kernel
theorem d_Mac_choose_51 : decode b_Mac_choose 51 = .ok (.getfield 76, 3) := by decide +kernel
theorem d_Mac_choose_54 : decode b_Mac_choose 54 = .ok (.lconst 0, 1) := by decide +kernel
theorem d_Mac_choose_55 : decode b_Mac_choose 55 = .ok (.invokevirtual 110, 3) := by decide +kernel
theorem d_Mac_choose_58 : decode b_Mac_choose 58 = .ok (.return_, 1) := by decide +kernel
theorem d_Mac_combined_0 : decode b_Mac_combined 0 = .ok (.aload_n 0, 1) := by decide +kernel
theorem d_Mac_combined_1 : decode b_Mac_combined 1 = .ok (.getfield 73, 3) := by decide +kernel
theorem d_Mac_combined_4 : decode b_Mac_combined 4 = .ok (.iconst 1, 1) := by decide +kernel
theorem d_Mac_combined_5 : decode b_Mac_combined 5 = .ok (.ishr, 1) := by decide +kernel
theorem d_Mac_combined_6 : decode b_Mac_combined 6 = .ok (.tableswitch 128 96 102 #[42, 52, 66, 80, 90, 100, 114], 42) := by decide +kernel
theorem d_Mac_combined_48 : decode b_Mac_combined 48 = .ok (.aload_n 0, 1) := by decide +kernel
theorem d_Mac_combined_49 : decode b_Mac_combined 49 = .ok (.getfield 89, 3) := by decide +kernel
theorem d_Mac_combined_52 : decode b_Mac_combined 52 = .ok (.aload_n 0, 1) := by decide +kernel
theorem d_Mac_combined_53 : decode b_Mac_combined 53 = .ok (.getfield 92, 3) := by decide +kernel
theorem d_Mac_combined_56 : decode b_Mac_combined 56 = .ok (.lor, 1) := by decide +kernel
theorem d_Mac_combined_57 : decode b_Mac_combined 57 = .ok (.lreturn, 1) := by decide +kernel
theorem d_Mac_combined_58 : decode b_Mac_combined 58 = .ok (.aload_n 0, 1) := by decide +kernel
theorem d_Mac_combined_59 : decode b_Mac_combined 59 = .ok (.getfield 89, 3) := by decide +kernel
theorem d_Mac_combined_62 : decode b_Mac_combined 62 = .ok (.aload_n 0, 1) := by decide +kernel
theorem d_Mac_combined_63 : decode b_Mac_combined 63 = .ok (.getfield 92, 3) := by decide +kernel
theorem d_Mac_combined_66 : decode b_Mac_combined 66 = .ok (.ldc2_w 168, 3) := by decide +kernel
theorem d_Mac_combined_69 : decode b_Mac_combined 69 = .ok (.lxor, 1) := by decide +kernel
theorem d_Mac_combined_70 : decode b_Mac_combined 70 = .ok (.lor, 1) := by decide +kernel
theorem d_Mac_combined_71 : decode b_Mac_combined 71 = .ok (.lreturn, 1) := by decide +kernel
theorem d_Mac_combined_72 : decode b_Mac_combined 72 = .ok (.aload_n 0, 1) := by decide +kernel
