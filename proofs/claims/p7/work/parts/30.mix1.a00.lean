abbrev b_Mix_assemble : ByteArray := prog_1_method_4_code
abbrev b_Mix_feed : ByteArray := prog_1_method_2_code
abbrev b_Mix_punch : ByteArray := prog_1_method_3_code
abbrev y_Mix_assemble : MethodName := ⟨"LittleMix", "assemble", "(I)I"⟩
abbrev y_Mix_feed : MethodName := ⟨"LittleMix", "feed", "(IIIII)Z"⟩
abbrev y_Mix_punch : MethodName := ⟨"LittleMix", "punch", "(I)V"⟩
theorem p_Mix_punch : y_Mix_punch.cls ≠ "java/lang/invoke/MethodHandle" ∧ y_Mix_punch.cls ≠ "java/lang/invoke/VarHandle" ∧ (parseMethodDescriptor y_Mix_punch.desc).map (fun d => d.parameters.length) = some 1 := by decide +kernel
theorem p_Asm_translate : y_Asm_translate.cls ≠ "java/lang/invoke/MethodHandle" ∧ y_Asm_translate.cls ≠ "java/lang/invoke/VarHandle" ∧ (parseMethodDescriptor y_Asm_translate.desc).map (fun d => d.parameters.length) = some 1 := by decide +kernel
theorem p_Mac_setBack : y_Mac_setBack.cls ≠ "java/lang/invoke/MethodHandle" ∧ y_Mac_setBack.cls ≠ "java/lang/invoke/VarHandle" ∧ (parseMethodDescriptor y_Mac_setBack.desc).map (fun d => d.parameters.length) = some 0 := by decide +kernel
theorem p_Mem_become : y_Mem_become.cls ≠ "java/lang/invoke/MethodHandle" ∧ y_Mem_become.cls ≠ "java/lang/invoke/VarHandle" ∧ (parseMethodDescriptor y_Mem_become.desc).map (fun d => d.parameters.length) = some 1 := by decide +kernel
theorem k_1 : (Jvm.Cond.initialized "LittleMix") ∈ mx_T := List.mem_filter.mpr ⟨List.mem_append_right _ ((List.mem_append_left _ (List.mem_of_getElem? (l := tables_1_1) (i := 1) (by decide +kernel)))), rfl⟩
theorem k_294 : (Jvm.Cond.fieldLinkNest "LittleMix" (57 : Nat) "LittleMix$Assembler" "image" "LLittleMix$Memory;" "LittleMix") ∈ mx_Ns := List.mem_filter.mpr ⟨(List.mem_append_right _ (List.mem_append_left _ (List.mem_of_getElem? (l := tables_1_2) (i := 54) (by decide +kernel)))), rfl⟩
theorem k_386 : (Jvm.Cond.fieldLink "LittleMix" (45 : Nat) "LittleMix" "length" "I") ∈ mx_T := List.mem_filter.mpr ⟨List.mem_append_right _ ((List.mem_append_right _ (List.mem_append_left _ (List.mem_of_getElem? (l := tables_1_2) (i := 146) (by decide +kernel))))), rfl⟩
theorem k_404 : (Jvm.Cond.methodLink "LittleMix" (49 : Nat) ({ cls := "LittleMix", name := "punch", desc := "(I)V" } : Jvm.MethodName)) ∈ mx_T := List.mem_filter.mpr ⟨List.mem_append_right _ ((List.mem_append_right _ (List.mem_append_left _ (List.mem_of_getElem? (l := tables_1_2) (i := 164) (by decide +kernel))))), rfl⟩
theorem k_406 : (Jvm.Cond.instanceMethod ({ cls := "LittleMix", name := "punch", desc := "(I)V" } : Jvm.MethodName)) ∈ mx_T := List.mem_filter.mpr ⟨List.mem_append_right _ ((List.mem_append_right _ (List.mem_append_left _ (List.mem_of_getElem? (l := tables_1_2) (i := 166) (by decide +kernel))))), rfl⟩
theorem k_407 : (Jvm.Cond.code ({ cls := "LittleMix", name := "punch", desc := "(I)V" } : Jvm.MethodName) prog_1_method_3_code (3 : Nat) (Option.none : Option Jvm.ClassFile.FieldType)) ∈ mx_T := List.mem_filter.mpr ⟨List.mem_append_right _ ((List.mem_append_right _ (List.mem_append_left _ (List.mem_of_getElem? (l := tables_1_2) (i := 167) rfl)))), rfl⟩
theorem k_412 : (Jvm.Cond.methodLink "LittleMix" (53 : Nat) ({ cls := "LittleMix$Assembler", name := "translate", desc := "(I)Z" } : Jvm.MethodName)) ∈ mx_T := List.mem_filter.mpr ⟨List.mem_append_right _ ((List.mem_append_right _ (List.mem_append_left _ (List.mem_of_getElem? (l := tables_1_2) (i := 172) (by decide +kernel))))), rfl⟩
theorem k_413 : (Jvm.Cond.instanceMethod ({ cls := "LittleMix$Assembler", name := "translate", desc := "(I)Z" } : Jvm.MethodName)) ∈ mx_T := List.mem_filter.mpr ⟨List.mem_append_right _ ((List.mem_append_right _ (List.mem_append_left _ (List.mem_of_getElem? (l := tables_1_2) (i := 173) (by decide +kernel))))), rfl⟩
theorem k_414 : (Jvm.Cond.selects "LittleMix$Assembler" ({ cls := "LittleMix$Assembler", name := "translate", desc := "(I)Z" } : Jvm.MethodName) ({ cls := "LittleMix$Assembler", name := "translate", desc := "(I)Z" } : Jvm.MethodName)) ∈ mx_T := List.mem_filter.mpr ⟨List.mem_append_right _ ((List.mem_append_right _ (List.mem_append_left _ (List.mem_of_getElem? (l := tables_1_2) (i := 174) (by decide +kernel))))), rfl⟩
theorem k_415 : (Jvm.Cond.code ({ cls := "LittleMix$Assembler", name := "translate", desc := "(I)Z" } : Jvm.MethodName) prog_3_method_3_code (7 : Nat) (Option.some Jvm.ClassFile.FieldType.boolean)) ∈ mx_T := List.mem_filter.mpr ⟨List.mem_append_right _ ((List.mem_append_right _ (List.mem_append_left _ (List.mem_of_getElem? (l := tables_1_2) (i := 175) rfl)))), rfl⟩
theorem k_686 : (Jvm.Cond.methodLink "LittleMix" (60 : Nat) ({ cls := "LittleMix$Memory", name := "become", desc := "(LLittleMix$Memory;)V" } : Jvm.MethodName)) ∈ mx_T := List.mem_filter.mpr ⟨List.mem_append_right _ ((List.mem_append_right _ (List.mem_append_right _ (List.mem_append_left _ (List.mem_of_getElem? (l := tables_1_3) (i := 206) (by decide +kernel)))))), rfl⟩
theorem k_687 : (Jvm.Cond.instanceMethod ({ cls := "LittleMix$Memory", name := "become", desc := "(LLittleMix$Memory;)V" } : Jvm.MethodName)) ∈ mx_T := List.mem_filter.mpr ⟨List.mem_append_right _ ((List.mem_append_right _ (List.mem_append_right _ (List.mem_append_left _ (List.mem_of_getElem? (l := tables_1_3) (i := 207) (by decide +kernel)))))), rfl⟩
theorem k_688 : (Jvm.Cond.selects "LittleMix$Memory" ({ cls := "LittleMix$Memory", name := "become", desc := "(LLittleMix$Memory;)V" } : Jvm.MethodName) ({ cls := "LittleMix$Memory", name := "become", desc := "(LLittleMix$Memory;)V" } : Jvm.MethodName)) ∈ mx_T := List.mem_filter.mpr ⟨List.mem_append_right _ ((List.mem_append_right _ (List.mem_append_right _ (List.mem_append_left _ (List.mem_of_getElem? (l := tables_1_3) (i := 208) (by decide +kernel)))))), rfl⟩
theorem k_689 : (Jvm.Cond.code ({ cls := "LittleMix$Memory", name := "become", desc := "(LLittleMix$Memory;)V" } : Jvm.MethodName) prog_7_method_7_code (2 : Nat) (Option.none : Option Jvm.ClassFile.FieldType)) ∈ mx_T := List.mem_filter.mpr ⟨List.mem_append_right _ ((List.mem_append_right _ (List.mem_append_right _ (List.mem_append_left _ (List.mem_of_getElem? (l := tables_1_3) (i := 209) rfl))))), rfl⟩
theorem k_693 : (Jvm.Cond.methodLink "LittleMix" (64 : Nat) ({ cls := "LittleMix$Machine", name := "setBack", desc := "()V" } : Jvm.MethodName)) ∈ mx_T := List.mem_filter.mpr ⟨List.mem_append_right _ ((List.mem_append_right _ (List.mem_append_right _ (List.mem_append_left _ (List.mem_of_getElem? (l := tables_1_3) (i := 213) (by decide +kernel)))))), rfl⟩
theorem k_694 : (Jvm.Cond.instanceMethod ({ cls := "LittleMix$Machine", name := "setBack", desc := "()V" } : Jvm.MethodName)) ∈ mx_T := List.mem_filter.mpr ⟨List.mem_append_right _ ((List.mem_append_right _ (List.mem_append_right _ (List.mem_append_left _ (List.mem_of_getElem? (l := tables_1_3) (i := 214) (by decide +kernel)))))), rfl⟩
theorem k_695 : (Jvm.Cond.selects "LittleMix$Machine" ({ cls := "LittleMix$Machine", name := "setBack", desc := "()V" } : Jvm.MethodName) ({ cls := "LittleMix$Machine", name := "setBack", desc := "()V" } : Jvm.MethodName)) ∈ mx_T := List.mem_filter.mpr ⟨List.mem_append_right _ ((List.mem_append_right _ (List.mem_append_right _ (List.mem_append_left _ (List.mem_of_getElem? (l := tables_1_3) (i := 215) (by decide +kernel)))))), rfl⟩
theorem k_696 : (Jvm.Cond.code ({ cls := "LittleMix$Machine", name := "setBack", desc := "()V" } : Jvm.MethodName) prog_6_method_2_code (1 : Nat) (Option.none : Option Jvm.ClassFile.FieldType)) ∈ mx_T := List.mem_filter.mpr ⟨List.mem_append_right _ ((List.mem_append_right _ (List.mem_append_right _ (List.mem_append_left _ (List.mem_of_getElem? (l := tables_1_3) (i := 216) rfl))))), rfl⟩
theorem sl_Mix_punch : Cond.selects y_Mix_punch.cls y_Mix_punch y_Mix_punch ∈ mx_T := List.mem_filter.mpr ⟨List.mem_append_left _ (by decide +kernel), by decide +kernel⟩
theorem d_Mix_assemble_0 : decode b_Mix_assemble 0 = .ok (.iload_n 1, 1) := by decide +kernel
theorem d_Mix_assemble_1 : decode b_Mix_assemble 1 = .ok (.ifCond .lt 11, 3) := by decide +kernel
theorem d_Mix_assemble_4 : decode b_Mix_assemble 4 = .ok (.iload_n 1, 1) := by decide +kernel
theorem d_Mix_assemble_5 : decode b_Mix_assemble 5 = .ok (.aload_n 0, 1) := by decide +kernel
theorem d_Mix_assemble_6 : decode b_Mix_assemble 6 = .ok (.getfield 45, 3) := by decide +kernel
theorem d_Mix_assemble_9 : decode b_Mix_assemble 9 = .ok (.if_icmp .le 5, 3) := by decide +kernel
theorem d_Mix_assemble_12 : decode b_Mix_assemble 12 = .ok (.iconst (-1), 1) := by decide +kernel
theorem d_Mix_assemble_13 : decode b_Mix_assemble 13 = .ok (.ireturn, 1) := by decide +kernel
theorem d_Mix_assemble_14 : decode b_Mix_assemble 14 = .ok (.aload_n 0, 1) := by decide +kernel
theorem d_Mix_assemble_15 : decode b_Mix_assemble 15 = .ok (.iconst 0, 1) := by decide +kernel
theorem d_Mix_assemble_16 : decode b_Mix_assemble 16 = .ok (.putfield 45, 3) := by decide +kernel
theorem d_Mix_assemble_19 : decode b_Mix_assemble 19 = .ok (.aload_n 0, 1) := by decide +kernel
theorem d_Mix_assemble_20 : decode b_Mix_assemble 20 = .ok (.getfield 32, 3) := by decide +kernel
theorem d_Mix_assemble_23 : decode b_Mix_assemble 23 = .ok (.iload_n 1, 1) := by decide +kernel
theorem d_Mix_assemble_24 : decode b_Mix_assemble 24 = .ok (.invokevirtual 53, 3) := by decide +kernel
theorem d_Mix_assemble_27 : decode b_Mix_assemble 27 = .ok (.ifCond .ne 5, 3) := by decide +kernel
theorem d_Mix_assemble_30 : decode b_Mix_assemble 30 = .ok (.iconst 1, 1) := by decide +kernel
theorem d_Mix_assemble_31 : decode b_Mix_assemble 31 = .ok (.ireturn, 1) := by decide +kernel
theorem d_Mix_assemble_32 : decode b_Mix_assemble 32 = .ok (.aload_n 0, 1) := by decide +kernel
theorem d_Mix_assemble_33 : decode b_Mix_assemble 33 = .ok (.getfield 16, 3) := by decide +kernel
theorem d_Mix_assemble_36 : decode b_Mix_assemble 36 = .ok (.aload_n 0, 1) := by decide +kernel
theorem d_Mix_assemble_37 : decode b_Mix_assemble 37 = .ok (.getfield 32, 3) := by decide +kernel
theorem d_Mix_assemble_40 : decode b_Mix_assemble 40 = .ok (.getfield 57, 3) := by decide +kernel
theorem d_Mix_assemble_43 : decode b_Mix_assemble 43 = .ok (.invokevirtual 60, 3) := by decide +kernel
theorem d_Mix_assemble_46 : decode b_Mix_assemble 46 = .ok (.aload_n 0, 1) := by decide +kernel
theorem d_Mix_assemble_47 : decode b_Mix_assemble 47 = .ok (.getfield 41, 3) := by decide +kernel
theorem d_Mix_assemble_50 : decode b_Mix_assemble 50 = .ok (.invokevirtual 64, 3) := by decide +kernel
theorem d_Mix_assemble_53 : decode b_Mix_assemble 53 = .ok (.iconst 0, 1) := by decide +kernel
theorem d_Mix_assemble_54 : decode b_Mix_assemble 54 = .ok (.ireturn, 1) := by decide +kernel
theorem d_Mix_feed_0 : decode b_Mix_feed 0 = .ok (.aload_n 0, 1) := by decide +kernel
theorem d_Mix_feed_1 : decode b_Mix_feed 1 = .ok (.getfield 45, 3) := by decide +kernel
theorem d_Mix_feed_4 : decode b_Mix_feed 4 = .ok (.sipush 1580, 3) := by decide +kernel
theorem d_Mix_feed_7 : decode b_Mix_feed 7 = .ok (.if_icmp .le 5, 3) := by decide +kernel
theorem d_Mix_feed_10 : decode b_Mix_feed 10 = .ok (.iconst 0, 1) := by decide +kernel
theorem d_Mix_feed_11 : decode b_Mix_feed 11 = .ok (.ireturn, 1) := by decide +kernel
theorem d_Mix_feed_12 : decode b_Mix_feed 12 = .ok (.aload_n 0, 1) := by decide +kernel
theorem d_Mix_feed_13 : decode b_Mix_feed 13 = .ok (.iload_n 1, 1) := by decide +kernel
theorem d_Mix_feed_14 : decode b_Mix_feed 14 = .ok (.invokevirtual 49, 3) := by decide +kernel
theorem d_Mix_feed_17 : decode b_Mix_feed 17 = .ok (.aload_n 0, 1) := by decide +kernel
theorem d_Mix_feed_18 : decode b_Mix_feed 18 = .ok (.iload_n 2, 1) := by decide +kernel
theorem d_Mix_feed_19 : decode b_Mix_feed 19 = .ok (.invokevirtual 49, 3) := by decide +kernel
theorem d_Mix_feed_22 : decode b_Mix_feed 22 = .ok (.aload_n 0, 1) := by decide +kernel
theorem d_Mix_feed_23 : decode b_Mix_feed 23 = .ok (.iload_n 3, 1) := by decide +kernel
theorem d_Mix_feed_24 : decode b_Mix_feed 24 = .ok (.invokevirtual 49, 3) := by decide +kernel
theorem d_Mix_feed_27 : decode b_Mix_feed 27 = .ok (.aload_n 0, 1) := by decide +kernel
theorem d_Mix_feed_28 : decode b_Mix_feed 28 = .ok (.iload 4, 2) := by decide +kernel
theorem d_Mix_feed_30 : decode b_Mix_feed 30 = .ok (.invokevirtual 49, 3) := by decide +kernel
theorem d_Mix_feed_33 : decode b_Mix_feed 33 = .ok (.aload_n 0, 1) := by decide +kernel
theorem d_Mix_feed_34 : decode b_Mix_feed 34 = .ok (.iload 5, 2) := by decide +kernel
theorem d_Mix_feed_36 : decode b_Mix_feed 36 = .ok (.invokevirtual 49, 3) := by decide +kernel
theorem d_Mix_feed_39 : decode b_Mix_feed 39 = .ok (.iconst 1, 1) := by decide +kernel
theorem d_Mix_feed_40 : decode b_Mix_feed 40 = .ok (.ireturn, 1) := by decide +kernel
theorem d_Mix_punch_0 : decode b_Mix_punch 0 = .ok (.bipush 24, 2) := by decide +kernel
theorem d_Mix_punch_2 : decode b_Mix_punch 2 = .ok (.istore_n 2, 1) := by decide +kernel
theorem d_Mix_punch_3 : decode b_Mix_punch 3 = .ok (.iload_n 2, 1) := by decide +kernel
theorem d_Mix_punch_4 : decode b_Mix_punch 4 = .ok (.ifCond .lt 48, 3) := by decide +kernel
theorem d_Mix_punch_7 : decode b_Mix_punch 7 = .ok (.aload_n 0, 1) := by decide +kernel
theorem d_Mix_punch_8 : decode b_Mix_punch 8 = .ok (.getfield 45, 3) := by decide +kernel
theorem d_Mix_punch_11 : decode b_Mix_punch 11 = .ok (.aload_n 0, 1) := by decide +kernel
theorem d_Mix_punch_12 : decode b_Mix_punch 12 = .ok (.getfield 9, 3) := by decide +kernel
theorem d_Mix_punch_15 : decode b_Mix_punch 15 = .ok (.arraylength, 1) := by decide +kernel
theorem d_Mix_punch_16 : decode b_Mix_punch 16 = .ok (.if_icmp .ge 30, 3) := by decide +kernel
theorem d_Mix_punch_19 : decode b_Mix_punch 19 = .ok (.aload_n 0, 1) := by decide +kernel
theorem d_Mix_punch_20 : decode b_Mix_punch 20 = .ok (.getfield 9, 3) := by decide +kernel
theorem d_Mix_punch_23 : decode b_Mix_punch 23 = .ok (.aload_n 0, 1) := by decide +kernel
theorem d_Mix_punch_24 : decode b_Mix_punch 24 = .ok (.getfield 45, 3) := by decide +kernel
theorem d_Mix_punch_27 : decode b_Mix_punch 27 = .ok (.iload_n 1, 1) := by decide +kernel
theorem d_Mix_punch_28 : decode b_Mix_punch 28 = .ok (.iload_n 2, 1) := by decide +kernel
theorem d_Mix_punch_29 : decode b_Mix_punch 29 = .ok (.iushr, 1) := by decide +kernel
theorem d_Mix_punch_30 : decode b_Mix_punch 30 = .ok (.sipush 255, 3) := by decide +kernel
theorem d_Mix_punch_33 : decode b_Mix_punch 33 = .ok (.iand, 1) := by decide +kernel
theorem d_Mix_punch_34 : decode b_Mix_punch 34 = .ok (.i2c, 1) := by decide +kernel
theorem d_Mix_punch_35 : decode b_Mix_punch 35 = .ok (.castore, 1) := by decide +kernel
theorem d_Mix_punch_36 : decode b_Mix_punch 36 = .ok (.aload_n 0, 1) := by decide +kernel
theorem d_Mix_punch_37 : decode b_Mix_punch 37 = .ok (.dup, 1) := by decide +kernel
theorem d_Mix_punch_38 : decode b_Mix_punch 38 = .ok (.getfield 45, 3) := by decide +kernel
theorem d_Mix_punch_41 : decode b_Mix_punch 41 = .ok (.iconst 1, 1) := by decide +kernel
theorem d_Mix_punch_42 : decode b_Mix_punch 42 = .ok (.iadd, 1) := by decide +kernel
theorem d_Mix_punch_43 : decode b_Mix_punch 43 = .ok (.putfield 45, 3) := by decide +kernel
theorem d_Mix_punch_46 : decode b_Mix_punch 46 = .ok (.iinc 2 (-8), 3) := by decide +kernel
theorem d_Mix_punch_49 : decode b_Mix_punch 49 = .ok (.goto (-46), 3) := by decide +kernel
theorem d_Mix_punch_52 : decode b_Mix_punch 52 = .ok (.return_, 1) := by decide +kernel
