abbrev b_Mix_back : ByteArray := prog_1_method_9_code
abbrev b_Mix_byteAt : ByteArray := prog_1_method_7_code
abbrev b_Mix_illAt : ByteArray := prog_1_method_5_code
abbrev b_Mix_label : ByteArray := prog_1_method_6_code
abbrev b_Mix_place : ByteArray := prog_1_method_14_code
abbrev b_Mix_register : ByteArray := prog_1_method_12_code
abbrev b_Mix_run : ByteArray := prog_1_method_10_code
abbrev b_Mix_special : ByteArray := prog_1_method_13_code
abbrev b_Mix_stopped : ByteArray := prog_1_method_11_code
abbrev b_Mix_store : ByteArray := prog_1_method_8_code
abbrev b_Mix_taken : ByteArray := prog_1_method_15_code
abbrev y_Mix_back : MethodName := ⟨"LittleMix", "back", "()V"⟩
abbrev y_Mix_byteAt : MethodName := ⟨"LittleMix", "byteAt", "(I)I"⟩
abbrev y_Mix_illAt : MethodName := ⟨"LittleMix", "illAt", "()I"⟩
abbrev y_Mix_label : MethodName := ⟨"LittleMix", "label", "(I)J"⟩
abbrev y_Mix_place : MethodName := ⟨"LittleMix", "place", "()J"⟩
abbrev y_Mix_register : MethodName := ⟨"LittleMix", "register", "(I)J"⟩
abbrev y_Mix_run : MethodName := ⟨"LittleMix", "run", "(I)I"⟩
abbrev y_Mix_special : MethodName := ⟨"LittleMix", "special", "(I)J"⟩
abbrev y_Mix_stopped : MethodName := ⟨"LittleMix", "stopped", "()I"⟩
abbrev y_Mix_store : MethodName := ⟨"LittleMix", "store", "(III)Z"⟩
abbrev y_Mix_taken : MethodName := ⟨"LittleMix", "taken", "(I)I"⟩
theorem p_Asm_answer : y_Asm_answer.cls ≠ "java/lang/invoke/MethodHandle" ∧ y_Asm_answer.cls ≠ "java/lang/invoke/VarHandle" ∧ (parseMethodDescriptor y_Asm_answer.desc).map (fun d => d.parameters.length) = some 1 := by decide +kernel
theorem p_Mac_go : y_Mac_go.cls ≠ "java/lang/invoke/MethodHandle" ∧ y_Mac_go.cls ≠ "java/lang/invoke/VarHandle" ∧ (parseMethodDescriptor y_Mac_go.desc).map (fun d => d.parameters.length) = some 1 := by decide +kernel
theorem k_52 : (Jvm.Cond.fieldLinkNest "LittleMix" (110 : Nat) "LittleMix$Registers" "depth" "I" "LittleMix") ∈ mx_Ns := List.mem_filter.mpr ⟨(List.mem_append_left _ (List.mem_of_getElem? (l := tables_1_1) (i := 52) (by decide +kernel))), rfl⟩
theorem k_297 : (Jvm.Cond.fieldLinkNest "LittleMix" (67 : Nat) "LittleMix$Assembler" "illLine" "I" "LittleMix") ∈ mx_Ns := List.mem_filter.mpr ⟨(List.mem_append_right _ (List.mem_append_left _ (List.mem_of_getElem? (l := tables_1_2) (i := 57) (by decide +kernel)))), rfl⟩
theorem k_331 : (Jvm.Cond.fieldLinkNest "LittleMix" (100 : Nat) "LittleMix$Machine" "at" "J" "LittleMix") ∈ mx_Ns := List.mem_filter.mpr ⟨(List.mem_append_right _ (List.mem_append_left _ (List.mem_of_getElem? (l := tables_1_2) (i := 91) (by decide +kernel)))), rfl⟩
theorem k_333 : (Jvm.Cond.fieldLinkNest "LittleMix" (92 : Nat) "LittleMix$Machine" "stop" "I" "LittleMix") ∈ mx_Ns := List.mem_filter.mpr ⟨(List.mem_append_right _ (List.mem_append_left _ (List.mem_of_getElem? (l := tables_1_2) (i := 93) (by decide +kernel)))), rfl⟩
theorem k_335 : (Jvm.Cond.fieldLinkNest "LittleMix" (104 : Nat) "LittleMix$Machine" "oops" "I" "LittleMix") ∈ mx_Ns := List.mem_filter.mpr ⟨(List.mem_append_right _ (List.mem_append_left _ (List.mem_of_getElem? (l := tables_1_2) (i := 95) (by decide +kernel)))), rfl⟩
theorem k_337 : (Jvm.Cond.fieldLinkNest "LittleMix" (107 : Nat) "LittleMix$Machine" "mems" "I" "LittleMix") ∈ mx_Ns := List.mem_filter.mpr ⟨(List.mem_append_right _ (List.mem_append_left _ (List.mem_of_getElem? (l := tables_1_2) (i := 97) (by decide +kernel)))), rfl⟩
theorem k_713 : (Jvm.Cond.methodLink "LittleMix" (70 : Nat) ({ cls := "LittleMix$Assembler", name := "answer", desc := "(I)J" } : Jvm.MethodName)) ∈ mx_T := List.mem_filter.mpr ⟨List.mem_append_right _ ((List.mem_append_right _ (List.mem_append_right _ (List.mem_append_left _ (List.mem_of_getElem? (l := tables_1_3) (i := 233) (by decide +kernel)))))), rfl⟩
theorem k_714 : (Jvm.Cond.instanceMethod ({ cls := "LittleMix$Assembler", name := "answer", desc := "(I)J" } : Jvm.MethodName)) ∈ mx_T := List.mem_filter.mpr ⟨List.mem_append_right _ ((List.mem_append_right _ (List.mem_append_right _ (List.mem_append_left _ (List.mem_of_getElem? (l := tables_1_3) (i := 234) (by decide +kernel)))))), rfl⟩
theorem k_715 : (Jvm.Cond.selects "LittleMix$Assembler" ({ cls := "LittleMix$Assembler", name := "answer", desc := "(I)J" } : Jvm.MethodName) ({ cls := "LittleMix$Assembler", name := "answer", desc := "(I)J" } : Jvm.MethodName)) ∈ mx_T := List.mem_filter.mpr ⟨List.mem_append_right _ ((List.mem_append_right _ (List.mem_append_right _ (List.mem_append_left _ (List.mem_of_getElem? (l := tables_1_3) (i := 235) (by decide +kernel)))))), rfl⟩
theorem k_716 : (Jvm.Cond.code ({ cls := "LittleMix$Assembler", name := "answer", desc := "(I)J" } : Jvm.MethodName) prog_3_method_2_code (2 : Nat) (Option.some Jvm.ClassFile.FieldType.long)) ∈ mx_T := List.mem_filter.mpr ⟨List.mem_append_right _ ((List.mem_append_right _ (List.mem_append_right _ (List.mem_append_left _ (List.mem_of_getElem? (l := tables_1_3) (i := 236) rfl))))), rfl⟩
theorem k_722 : (Jvm.Cond.methodLink "LittleMix" (74 : Nat) ({ cls := "LittleMix$Memory", name := "holds", desc := "(JI)Z" } : Jvm.MethodName)) ∈ mx_T := List.mem_filter.mpr ⟨List.mem_append_right _ ((List.mem_append_right _ (List.mem_append_right _ (List.mem_append_right _ (List.mem_append_left _ (List.mem_of_getElem? (l := tables_1_4) (i := 2) (by decide +kernel))))))), rfl⟩
theorem k_723 : (Jvm.Cond.methodLink "LittleMix" (78 : Nat) ({ cls := "LittleMix$Memory", name := "read", desc := "(JI)J" } : Jvm.MethodName)) ∈ mx_T := List.mem_filter.mpr ⟨List.mem_append_right _ ((List.mem_append_right _ (List.mem_append_right _ (List.mem_append_right _ (List.mem_append_left _ (List.mem_of_getElem? (l := tables_1_4) (i := 3) (by decide +kernel))))))), rfl⟩
theorem k_731 : (Jvm.Cond.constantLong "LittleMix" (82 : Nat) (4294967295 : Int64)) ∈ mx_T := List.mem_filter.mpr ⟨List.mem_append_right _ ((List.mem_append_right _ (List.mem_append_right _ (List.mem_append_right _ (List.mem_append_left _ (List.mem_of_getElem? (l := tables_1_4) (i := 11) (by decide +kernel))))))), rfl⟩
theorem k_732 : (Jvm.Cond.methodLink "LittleMix" (84 : Nat) ({ cls := "LittleMix$Memory", name := "write", desc := "(JIJ)V" } : Jvm.MethodName)) ∈ mx_T := List.mem_filter.mpr ⟨List.mem_append_right _ ((List.mem_append_right _ (List.mem_append_right _ (List.mem_append_right _ (List.mem_append_left _ (List.mem_of_getElem? (l := tables_1_4) (i := 12) (by decide +kernel))))))), rfl⟩
theorem k_741 : (Jvm.Cond.methodLink "LittleMix" (88 : Nat) ({ cls := "LittleMix$Machine", name := "go", desc := "(I)I" } : Jvm.MethodName)) ∈ mx_T := List.mem_filter.mpr ⟨List.mem_append_right _ ((List.mem_append_right _ (List.mem_append_right _ (List.mem_append_right _ (List.mem_append_left _ (List.mem_of_getElem? (l := tables_1_4) (i := 21) (by decide +kernel))))))), rfl⟩
theorem k_742 : (Jvm.Cond.instanceMethod ({ cls := "LittleMix$Machine", name := "go", desc := "(I)I" } : Jvm.MethodName)) ∈ mx_T := List.mem_filter.mpr ⟨List.mem_append_right _ ((List.mem_append_right _ (List.mem_append_right _ (List.mem_append_right _ (List.mem_append_left _ (List.mem_of_getElem? (l := tables_1_4) (i := 22) (by decide +kernel))))))), rfl⟩
theorem k_743 : (Jvm.Cond.selects "LittleMix$Machine" ({ cls := "LittleMix$Machine", name := "go", desc := "(I)I" } : Jvm.MethodName) ({ cls := "LittleMix$Machine", name := "go", desc := "(I)I" } : Jvm.MethodName)) ∈ mx_T := List.mem_filter.mpr ⟨List.mem_append_right _ ((List.mem_append_right _ (List.mem_append_right _ (List.mem_append_right _ (List.mem_append_left _ (List.mem_of_getElem? (l := tables_1_4) (i := 23) (by decide +kernel))))))), rfl⟩
theorem k_744 : (Jvm.Cond.code ({ cls := "LittleMix$Machine", name := "go", desc := "(I)I" } : Jvm.MethodName) prog_6_method_3_code (4 : Nat) (Option.some Jvm.ClassFile.FieldType.int)) ∈ mx_T := List.mem_filter.mpr ⟨List.mem_append_right _ ((List.mem_append_right _ (List.mem_append_right _ (List.mem_append_right _ (List.mem_append_left _ (List.mem_of_getElem? (l := tables_1_4) (i := 24) rfl)))))), rfl⟩
theorem k_953 : (Jvm.Cond.methodLink "LittleMix" (95 : Nat) ({ cls := "LittleMix$Registers", name := "read", desc := "(I)J" } : Jvm.MethodName)) ∈ mx_T := List.mem_filter.mpr ⟨List.mem_append_right _ ((List.mem_append_right _ (List.mem_append_right _ (List.mem_append_right _ (List.mem_append_left _ (List.mem_of_getElem? (l := tables_1_4) (i := 233) (by decide +kernel))))))), rfl⟩
theorem k_958 : (Jvm.Cond.methodLink "LittleMix" (97 : Nat) ({ cls := "LittleMix$Registers", name := "get", desc := "(I)J" } : Jvm.MethodName)) ∈ mx_T := List.mem_filter.mpr ⟨List.mem_append_right _ ((List.mem_append_right _ (List.mem_append_right _ (List.mem_append_right _ (List.mem_append_left _ (List.mem_of_getElem? (l := tables_1_4) (i := 238) (by decide +kernel))))))), rfl⟩
theorem d_Mix_back_0 : decode b_Mix_back 0 = .ok (.aload_n 0, 1) := by decide +kernel
theorem d_Mix_back_1 : decode b_Mix_back 1 = .ok (.getfield 41, 3) := by decide +kernel
theorem d_Mix_back_4 : decode b_Mix_back 4 = .ok (.invokevirtual 64, 3) := by decide +kernel
theorem d_Mix_back_7 : decode b_Mix_back 7 = .ok (.return_, 1) := by decide +kernel
theorem d_Mix_byteAt_0 : decode b_Mix_byteAt 0 = .ok (.aload_n 0, 1) := by decide +kernel
theorem d_Mix_byteAt_1 : decode b_Mix_byteAt 1 = .ok (.getfield 16, 3) := by decide +kernel
theorem d_Mix_byteAt_4 : decode b_Mix_byteAt 4 = .ok (.iload_n 1, 1) := by decide +kernel
theorem d_Mix_byteAt_5 : decode b_Mix_byteAt 5 = .ok (.i2l, 1) := by decide +kernel
theorem d_Mix_byteAt_6 : decode b_Mix_byteAt 6 = .ok (.iconst 1, 1) := by decide +kernel
theorem d_Mix_byteAt_7 : decode b_Mix_byteAt 7 = .ok (.invokevirtual 74, 3) := by decide +kernel
theorem d_Mix_byteAt_10 : decode b_Mix_byteAt 10 = .ok (.ifCond .eq 17, 3) := by decide +kernel
theorem d_Mix_byteAt_13 : decode b_Mix_byteAt 13 = .ok (.aload_n 0, 1) := by decide +kernel
theorem d_Mix_byteAt_14 : decode b_Mix_byteAt 14 = .ok (.getfield 16, 3) := by decide +kernel
theorem d_Mix_byteAt_17 : decode b_Mix_byteAt 17 = .ok (.iload_n 1, 1) := by decide +kernel
theorem d_Mix_byteAt_18 : decode b_Mix_byteAt 18 = .ok (.i2l, 1) := by decide +kernel
theorem d_Mix_byteAt_19 : decode b_Mix_byteAt 19 = .ok (.iconst 1, 1) := by decide +kernel
theorem d_Mix_byteAt_20 : decode b_Mix_byteAt 20 = .ok (.invokevirtual 78, 3) := by decide +kernel
theorem d_Mix_byteAt_23 : decode b_Mix_byteAt 23 = .ok (.l2i, 1) := by decide +kernel
theorem d_Mix_byteAt_24 : decode b_Mix_byteAt 24 = .ok (.goto 4, 3) := by decide +kernel
theorem d_Mix_byteAt_27 : decode b_Mix_byteAt 27 = .ok (.iconst (-1), 1) := by decide +kernel
theorem d_Mix_byteAt_28 : decode b_Mix_byteAt 28 = .ok (.ireturn, 1) := by decide +kernel
theorem d_Mix_illAt_0 : decode b_Mix_illAt 0 = .ok (.aload_n 0, 1) := by decide +kernel
theorem d_Mix_illAt_1 : decode b_Mix_illAt 1 = .ok (.getfield 32, 3) := by decide +kernel
theorem d_Mix_illAt_4 : decode b_Mix_illAt 4 = .ok (.getfield 67, 3) := by decide +kernel
theorem d_Mix_illAt_7 : decode b_Mix_illAt 7 = .ok (.ireturn, 1) := by decide +kernel
theorem d_Mix_label_0 : decode b_Mix_label 0 = .ok (.aload_n 0, 1) := by decide +kernel
theorem d_Mix_label_1 : decode b_Mix_label 1 = .ok (.getfield 32, 3) := by decide +kernel
theorem d_Mix_label_4 : decode b_Mix_label 4 = .ok (.iload_n 1, 1) := by decide +kernel
theorem d_Mix_label_5 : decode b_Mix_label 5 = .ok (.invokevirtual 70, 3) := by decide +kernel
theorem d_Mix_label_8 : decode b_Mix_label 8 = .ok (.lreturn, 1) := by decide +kernel
theorem d_Mix_place_0 : decode b_Mix_place 0 = .ok (.aload_n 0, 1) := by decide +kernel
theorem d_Mix_place_1 : decode b_Mix_place 1 = .ok (.getfield 41, 3) := by decide +kernel
theorem d_Mix_place_4 : decode b_Mix_place 4 = .ok (.getfield 100, 3) := by decide +kernel
theorem d_Mix_place_7 : decode b_Mix_place 7 = .ok (.lreturn, 1) := by decide +kernel
theorem d_Mix_register_0 : decode b_Mix_register 0 = .ok (.aload_n 0, 1) := by decide +kernel
theorem d_Mix_register_1 : decode b_Mix_register 1 = .ok (.getfield 23, 3) := by decide +kernel
theorem d_Mix_register_4 : decode b_Mix_register 4 = .ok (.iload_n 1, 1) := by decide +kernel
theorem d_Mix_register_5 : decode b_Mix_register 5 = .ok (.invokevirtual 95, 3) := by decide +kernel
theorem d_Mix_register_8 : decode b_Mix_register 8 = .ok (.lreturn, 1) := by decide +kernel
theorem d_Mix_run_0 : decode b_Mix_run 0 = .ok (.iload_n 1, 1) := by decide +kernel
theorem d_Mix_run_1 : decode b_Mix_run 1 = .ok (.ifCond .lt 10, 3) := by decide +kernel
theorem d_Mix_run_4 : decode b_Mix_run 4 = .ok (.iload_n 1, 1) := by decide +kernel
theorem d_Mix_run_5 : decode b_Mix_run 5 = .ok (.sipush 5000, 3) := by decide +kernel
theorem d_Mix_run_8 : decode b_Mix_run 8 = .ok (.if_icmp .le 7, 3) := by decide +kernel
theorem d_Mix_run_11 : decode b_Mix_run 11 = .ok (.iconst 0, 1) := by decide +kernel
theorem d_Mix_run_12 : decode b_Mix_run 12 = .ok (.goto 11, 3) := by decide +kernel
theorem d_Mix_run_15 : decode b_Mix_run 15 = .ok (.aload_n 0, 1) := by decide +kernel
theorem d_Mix_run_16 : decode b_Mix_run 16 = .ok (.getfield 41, 3) := by decide +kernel
theorem d_Mix_run_19 : decode b_Mix_run 19 = .ok (.iload_n 1, 1) := by decide +kernel
theorem d_Mix_run_20 : decode b_Mix_run 20 = .ok (.invokevirtual 88, 3) := by decide +kernel
theorem d_Mix_run_23 : decode b_Mix_run 23 = .ok (.ireturn, 1) := by decide +kernel
theorem d_Mix_special_0 : decode b_Mix_special 0 = .ok (.aload_n 0, 1) := by decide +kernel
theorem d_Mix_special_1 : decode b_Mix_special 1 = .ok (.getfield 23, 3) := by decide +kernel
theorem d_Mix_special_4 : decode b_Mix_special 4 = .ok (.iload_n 1, 1) := by decide +kernel
theorem d_Mix_special_5 : decode b_Mix_special 5 = .ok (.invokevirtual 97, 3) := by decide +kernel
theorem d_Mix_special_8 : decode b_Mix_special 8 = .ok (.lreturn, 1) := by decide +kernel
theorem d_Mix_stopped_0 : decode b_Mix_stopped 0 = .ok (.aload_n 0, 1) := by decide +kernel
theorem d_Mix_stopped_1 : decode b_Mix_stopped 1 = .ok (.getfield 41, 3) := by decide +kernel
theorem d_Mix_stopped_4 : decode b_Mix_stopped 4 = .ok (.getfield 92, 3) := by decide +kernel
theorem d_Mix_stopped_7 : decode b_Mix_stopped 7 = .ok (.ireturn, 1) := by decide +kernel
theorem d_Mix_store_0 : decode b_Mix_store 0 = .ok (.aload_n 0, 1) := by decide +kernel
theorem d_Mix_store_1 : decode b_Mix_store 1 = .ok (.getfield 16, 3) := by decide +kernel
theorem d_Mix_store_4 : decode b_Mix_store 4 = .ok (.iload_n 1, 1) := by decide +kernel
theorem d_Mix_store_5 : decode b_Mix_store 5 = .ok (.i2l, 1) := by decide +kernel
theorem d_Mix_store_6 : decode b_Mix_store 6 = .ok (.bipush 8, 2) := by decide +kernel
theorem d_Mix_store_8 : decode b_Mix_store 8 = .ok (.invokevirtual 74, 3) := by decide +kernel
theorem d_Mix_store_11 : decode b_Mix_store 11 = .ok (.ifCond .eq 10, 3) := by decide +kernel
theorem d_Mix_store_14 : decode b_Mix_store 14 = .ok (.iload_n 1, 1) := by decide +kernel
theorem d_Mix_store_15 : decode b_Mix_store 15 = .ok (.bipush 7, 2) := by decide +kernel
theorem d_Mix_store_17 : decode b_Mix_store 17 = .ok (.iand, 1) := by decide +kernel
theorem d_Mix_store_18 : decode b_Mix_store 18 = .ok (.ifCond .eq 5, 3) := by decide +kernel
theorem d_Mix_store_21 : decode b_Mix_store 21 = .ok (.iconst 0, 1) := by decide +kernel
theorem d_Mix_store_22 : decode b_Mix_store 22 = .ok (.ireturn, 1) := by decide +kernel
theorem d_Mix_store_23 : decode b_Mix_store 23 = .ok (.aload_n 0, 1) := by decide +kernel
theorem d_Mix_store_24 : decode b_Mix_store 24 = .ok (.getfield 16, 3) := by decide +kernel
theorem d_Mix_store_27 : decode b_Mix_store 27 = .ok (.iload_n 1, 1) := by decide +kernel
theorem d_Mix_store_28 : decode b_Mix_store 28 = .ok (.i2l, 1) := by decide +kernel
theorem d_Mix_store_29 : decode b_Mix_store 29 = .ok (.bipush 8, 2) := by decide +kernel
theorem d_Mix_store_31 : decode b_Mix_store 31 = .ok (.iload_n 2, 1) := by decide +kernel
theorem d_Mix_store_32 : decode b_Mix_store 32 = .ok (.i2l, 1) := by decide +kernel
theorem d_Mix_store_33 : decode b_Mix_store 33 = .ok (.bipush 32, 2) := by decide +kernel
theorem d_Mix_store_35 : decode b_Mix_store 35 = .ok (.lshl, 1) := by decide +kernel
theorem d_Mix_store_36 : decode b_Mix_store 36 = .ok (.iload_n 3, 1) := by decide +kernel
theorem d_Mix_store_37 : decode b_Mix_store 37 = .ok (.i2l, 1) := by decide +kernel
theorem d_Mix_store_38 : decode b_Mix_store 38 = .ok (.ldc2_w 82, 3) := by decide +kernel
theorem d_Mix_store_41 : decode b_Mix_store 41 = .ok (.land, 1) := by decide +kernel
theorem d_Mix_store_42 : decode b_Mix_store 42 = .ok (.lor, 1) := by decide +kernel
theorem d_Mix_store_43 : decode b_Mix_store 43 = .ok (.invokevirtual 84, 3) := by decide +kernel
theorem d_Mix_store_46 : decode b_Mix_store 46 = .ok (.iconst 1, 1) := by decide +kernel
theorem d_Mix_store_47 : decode b_Mix_store 47 = .ok (.ireturn, 1) := by decide +kernel
theorem d_Mix_taken_0 : decode b_Mix_taken 0 = .ok (.iload_n 1, 1) := by decide +kernel
theorem d_Mix_taken_1 : decode b_Mix_taken 1 = .ok (.tableswitch 51 0 2 #[27, 35, 43], 27) := by decide +kernel
theorem d_Mix_taken_28 : decode b_Mix_taken 28 = .ok (.aload_n 0, 1) := by decide +kernel
theorem d_Mix_taken_29 : decode b_Mix_taken 29 = .ok (.getfield 41, 3) := by decide +kernel
theorem d_Mix_taken_32 : decode b_Mix_taken 32 = .ok (.getfield 104, 3) := by decide +kernel
theorem d_Mix_taken_35 : decode b_Mix_taken 35 = .ok (.ireturn, 1) := by decide +kernel
theorem d_Mix_taken_36 : decode b_Mix_taken 36 = .ok (.aload_n 0, 1) := by decide +kernel
theorem d_Mix_taken_37 : decode b_Mix_taken 37 = .ok (.getfield 41, 3) := by decide +kernel
theorem d_Mix_taken_40 : decode b_Mix_taken 40 = .ok (.getfield 107, 3) := by decide +kernel
theorem d_Mix_taken_43 : decode b_Mix_taken 43 = .ok (.ireturn, 1) := by decide +kernel
theorem d_Mix_taken_44 : decode b_Mix_taken 44 = .ok (.aload_n 0, 1) := by decide +kernel
theorem d_Mix_taken_45 : decode b_Mix_taken 45 = .ok (.getfield 23, 3) := by decide +kernel
theorem d_Mix_taken_48 : decode b_Mix_taken 48 = .ok (.getfield 110, 3) := by decide +kernel
theorem d_Mix_taken_51 : decode b_Mix_taken 51 = .ok (.ireturn, 1) := by decide +kernel
theorem d_Mix_taken_52 : decode b_Mix_taken 52 = .ok (.iconst (-1), 1) := by decide +kernel
theorem d_Mix_taken_53 : decode b_Mix_taken 53 = .ok (.ireturn, 1) := by decide +kernel
