abbrev b_Asm_answer : ByteArray := prog_3_method_2_code
abbrev b_Asm_gather : ByteArray := prog_3_method_5_code
abbrev b_Asm_goOn : ByteArray := prog_3_method_8_code
abbrev b_Asm_here : ByteArray := prog_3_method_4_code
abbrev b_Asm_locates : ByteArray := prog_3_method_7_code
abbrev y_Asm_answer : MethodName := ⟨"LittleMix$Assembler", "answer", "(I)J"⟩
abbrev y_Asm_gather : MethodName := ⟨"LittleMix$Assembler", "gather", "(Z)Z"⟩
abbrev y_Asm_goOn : MethodName := ⟨"LittleMix$Assembler", "goOn", "()V"⟩
abbrev y_Asm_here : MethodName := ⟨"LittleMix$Assembler", "here", "()I"⟩
abbrev y_Asm_locates : MethodName := ⟨"LittleMix$Assembler", "locates", "()Z"⟩
theorem p_Asm_here : y_Asm_here.cls ≠ "java/lang/invoke/MethodHandle" ∧ y_Asm_here.cls ≠ "java/lang/invoke/VarHandle" ∧ (parseMethodDescriptor y_Asm_here.desc).map (fun d => d.parameters.length) = some 0 := by decide +kernel
theorem p_Opd_add : y_Opd_add.cls ≠ "java/lang/invoke/MethodHandle" ∧ y_Opd_add.cls ≠ "java/lang/invoke/VarHandle" ∧ (parseMethodDescriptor y_Opd_add.desc).map (fun d => d.parameters.length) = some 1 := by decide +kernel
theorem p_Opd_clear : y_Opd_clear.cls ≠ "java/lang/invoke/MethodHandle" ∧ y_Opd_clear.cls ≠ "java/lang/invoke/VarHandle" ∧ (parseMethodDescriptor y_Opd_clear.desc).map (fun d => d.parameters.length) = some 0 := by decide +kernel
theorem p_Opn_isData : y_Opn_isData.cls ≠ "java/lang/invoke/MethodHandle" ∧ y_Opn_isData.cls ≠ "java/lang/invoke/VarHandle" ∧ (parseMethodDescriptor y_Opn_isData.desc).map (fun d => d.parameters.length) = some 1 := by decide +kernel
theorem p_Opn_sizeOf : y_Opn_sizeOf.cls ≠ "java/lang/invoke/MethodHandle" ∧ y_Opn_sizeOf.cls ≠ "java/lang/invoke/VarHandle" ∧ (parseMethodDescriptor y_Opn_sizeOf.desc).map (fun d => d.parameters.length) = some 1 := by decide +kernel
theorem p_Sum_read : y_Sum_read.cls ≠ "java/lang/invoke/MethodHandle" ∧ y_Sum_read.cls ≠ "java/lang/invoke/VarHandle" ∧ (parseMethodDescriptor y_Sum_read.desc).map (fun d => d.parameters.length) = some 3 := by decide +kernel
theorem k_81 : (Jvm.Cond.fieldLinkNest "LittleMix$Assembler" (144 : Nat) "LittleMix$Operands" "values" "[J" "LittleMix") ∈ mx_Ns := List.mem_filter.mpr ⟨(List.mem_append_left _ (List.mem_of_getElem? (l := tables_1_1) (i := 81) (by decide +kernel))), rfl⟩
theorem k_83 : (Jvm.Cond.fieldLinkNest "LittleMix$Assembler" (150 : Nat) "LittleMix$Operands" "registers" "[Z" "LittleMix") ∈ mx_Ns := List.mem_filter.mpr ⟨(List.mem_append_left _ (List.mem_of_getElem? (l := tables_1_1) (i := 83) (by decide +kernel))), rfl⟩
theorem k_89 : (Jvm.Cond.fieldLinkNest "LittleMix$Assembler" (162 : Nat) "LittleMix$Operands" "count" "I" "LittleMix") ∈ mx_Ns := List.mem_filter.mpr ⟨(List.mem_append_left _ (List.mem_of_getElem? (l := tables_1_1) (i := 89) (by decide +kernel))), rfl⟩
theorem k_224 : (Jvm.Cond.fieldLink "LittleMix$Assembler" (98 : Nat) "LittleMix$Line" "operation" "I") ∈ mx_T := List.mem_filter.mpr ⟨List.mem_append_right _ ((List.mem_append_left _ (List.mem_of_getElem? (l := tables_1_1) (i := 224) (by decide +kernel)))), rfl⟩
theorem k_226 : (Jvm.Cond.fieldLink "LittleMix$Assembler" (111 : Nat) "LittleMix$Line" "operandsAt" "I") ∈ mx_T := List.mem_filter.mpr ⟨List.mem_append_right _ ((List.mem_append_left _ (List.mem_of_getElem? (l := tables_1_1) (i := 226) (by decide +kernel)))), rfl⟩
theorem k_228 : (Jvm.Cond.fieldLink "LittleMix$Assembler" (91 : Nat) "LittleMix$Line" "end" "I") ∈ mx_T := List.mem_filter.mpr ⟨List.mem_append_right _ ((List.mem_append_left _ (List.mem_of_getElem? (l := tables_1_1) (i := 228) (by decide +kernel)))), rfl⟩
theorem k_264 : (Jvm.Cond.fieldLink "LittleMix$Assembler" (126 : Nat) "LittleMix$Sum" "value" "J") ∈ mx_T := List.mem_filter.mpr ⟨List.mem_append_right _ ((List.mem_append_right _ (List.mem_append_left _ (List.mem_of_getElem? (l := tables_1_2) (i := 24) (by decide +kernel))))), rfl⟩
theorem k_295 : (Jvm.Cond.fieldLink "LittleMix$Assembler" (58 : Nat) "LittleMix$Assembler" "answered" "I") ∈ mx_T := List.mem_filter.mpr ⟨List.mem_append_right _ ((List.mem_append_right _ (List.mem_append_left _ (List.mem_of_getElem? (l := tables_1_2) (i := 55) (by decide +kernel))))), rfl⟩
theorem k_298 : (Jvm.Cond.fieldLink "LittleMix$Assembler" (67 : Nat) "LittleMix$Assembler" "place" "I") ∈ mx_T := List.mem_filter.mpr ⟨List.mem_append_right _ ((List.mem_append_right _ (List.mem_append_left _ (List.mem_of_getElem? (l := tables_1_2) (i := 58) (by decide +kernel))))), rfl⟩
theorem k_299 : (Jvm.Cond.fieldLink "LittleMix$Assembler" (70 : Nat) "LittleMix$Assembler" "filled" "I") ∈ mx_T := List.mem_filter.mpr ⟨List.mem_append_right _ ((List.mem_append_right _ (List.mem_append_left _ (List.mem_of_getElem? (l := tables_1_2) (i := 59) (by decide +kernel))))), rfl⟩
theorem k_461 : (Jvm.Cond.methodLink "LittleMix$Assembler" (101 : Nat) ({ cls := "LittleMix$Operations", name := "sizeOf", desc := "(I)I" } : Jvm.MethodName)) ∈ mx_T := List.mem_filter.mpr ⟨List.mem_append_right _ ((List.mem_append_right _ (List.mem_append_left _ (List.mem_of_getElem? (l := tables_1_2) (i := 221) (by decide +kernel))))), rfl⟩
theorem k_462 : (Jvm.Cond.static ({ cls := "LittleMix$Operations", name := "sizeOf", desc := "(I)I" } : Jvm.MethodName)) ∈ mx_T := List.mem_filter.mpr ⟨List.mem_append_right _ ((List.mem_append_right _ (List.mem_append_left _ (List.mem_of_getElem? (l := tables_1_2) (i := 222) (by decide +kernel))))), rfl⟩
theorem k_463 : (Jvm.Cond.code ({ cls := "LittleMix$Operations", name := "sizeOf", desc := "(I)I" } : Jvm.MethodName) prog_9_method_5_code (1 : Nat) (Option.some Jvm.ClassFile.FieldType.int)) ∈ mx_T := List.mem_filter.mpr ⟨List.mem_append_right _ ((List.mem_append_right _ (List.mem_append_left _ (List.mem_of_getElem? (l := tables_1_2) (i := 223) rfl)))), rfl⟩
theorem k_464 : (Jvm.Cond.methodLink "LittleMix$Assembler" (107 : Nat) ({ cls := "LittleMix$Assembler", name := "here", desc := "()I" } : Jvm.MethodName)) ∈ mx_T := List.mem_filter.mpr ⟨List.mem_append_right _ ((List.mem_append_right _ (List.mem_append_left _ (List.mem_of_getElem? (l := tables_1_2) (i := 224) (by decide +kernel))))), rfl⟩
theorem k_466 : (Jvm.Cond.instanceMethod ({ cls := "LittleMix$Assembler", name := "here", desc := "()I" } : Jvm.MethodName)) ∈ mx_T := List.mem_filter.mpr ⟨List.mem_append_right _ ((List.mem_append_right _ (List.mem_append_left _ (List.mem_of_getElem? (l := tables_1_2) (i := 226) (by decide +kernel))))), rfl⟩
theorem k_467 : (Jvm.Cond.code ({ cls := "LittleMix$Assembler", name := "here", desc := "()I" } : Jvm.MethodName) prog_3_method_4_code (2 : Nat) (Option.some Jvm.ClassFile.FieldType.int)) ∈ mx_T := List.mem_filter.mpr ⟨List.mem_append_right _ ((List.mem_append_right _ (List.mem_append_left _ (List.mem_of_getElem? (l := tables_1_2) (i := 227) rfl)))), rfl⟩
theorem k_468 : (Jvm.Cond.methodLink "LittleMix$Assembler" (114 : Nat) ({ cls := "LittleMix$Operands", name := "clear", desc := "()V" } : Jvm.MethodName)) ∈ mx_T := List.mem_filter.mpr ⟨List.mem_append_right _ ((List.mem_append_right _ (List.mem_append_left _ (List.mem_of_getElem? (l := tables_1_2) (i := 228) (by decide +kernel))))), rfl⟩
theorem k_469 : (Jvm.Cond.instanceMethod ({ cls := "LittleMix$Operands", name := "clear", desc := "()V" } : Jvm.MethodName)) ∈ mx_T := List.mem_filter.mpr ⟨List.mem_append_right _ ((List.mem_append_right _ (List.mem_append_left _ (List.mem_of_getElem? (l := tables_1_2) (i := 229) (by decide +kernel))))), rfl⟩
theorem k_470 : (Jvm.Cond.selects "LittleMix$Operands" ({ cls := "LittleMix$Operands", name := "clear", desc := "()V" } : Jvm.MethodName) ({ cls := "LittleMix$Operands", name := "clear", desc := "()V" } : Jvm.MethodName)) ∈ mx_T := List.mem_filter.mpr ⟨List.mem_append_right _ ((List.mem_append_right _ (List.mem_append_left _ (List.mem_of_getElem? (l := tables_1_2) (i := 230) (by decide +kernel))))), rfl⟩
theorem k_471 : (Jvm.Cond.code ({ cls := "LittleMix$Operands", name := "clear", desc := "()V" } : Jvm.MethodName) prog_8_method_2_code (2 : Nat) (Option.none : Option Jvm.ClassFile.FieldType)) ∈ mx_T := List.mem_filter.mpr ⟨List.mem_append_right _ ((List.mem_append_right _ (List.mem_append_left _ (List.mem_of_getElem? (l := tables_1_2) (i := 231) rfl)))), rfl⟩
theorem k_472 : (Jvm.Cond.methodLink "LittleMix$Assembler" (115 : Nat) ({ cls := "LittleMix$Sum", name := "read", desc := "(IIJ)I" } : Jvm.MethodName)) ∈ mx_T := List.mem_filter.mpr ⟨List.mem_append_right _ ((List.mem_append_right _ (List.mem_append_left _ (List.mem_of_getElem? (l := tables_1_2) (i := 232) (by decide +kernel))))), rfl⟩
theorem k_473 : (Jvm.Cond.instanceMethod ({ cls := "LittleMix$Sum", name := "read", desc := "(IIJ)I" } : Jvm.MethodName)) ∈ mx_T := List.mem_filter.mpr ⟨List.mem_append_right _ ((List.mem_append_right _ (List.mem_append_left _ (List.mem_of_getElem? (l := tables_1_2) (i := 233) (by decide +kernel))))), rfl⟩
theorem k_474 : (Jvm.Cond.selects "LittleMix$Sum" ({ cls := "LittleMix$Sum", name := "read", desc := "(IIJ)I" } : Jvm.MethodName) ({ cls := "LittleMix$Sum", name := "read", desc := "(IIJ)I" } : Jvm.MethodName)) ∈ mx_T := List.mem_filter.mpr ⟨List.mem_append_right _ ((List.mem_append_right _ (List.mem_append_left _ (List.mem_of_getElem? (l := tables_1_2) (i := 234) (by decide +kernel))))), rfl⟩
theorem k_475 : (Jvm.Cond.code ({ cls := "LittleMix$Sum", name := "read", desc := "(IIJ)I" } : Jvm.MethodName) prog_12_method_2_code (8 : Nat) (Option.some Jvm.ClassFile.FieldType.int)) ∈ mx_T := List.mem_filter.mpr ⟨List.mem_append_right _ ((List.mem_append_right _ (List.mem_append_left _ (List.mem_of_getElem? (l := tables_1_2) (i := 235) rfl)))), rfl⟩
theorem k_593 : (Jvm.Cond.methodLink "LittleMix$Assembler" (118 : Nat) ({ cls := "LittleMix$Operands", name := "add", desc := "(LLittleMix$Sum;)V" } : Jvm.MethodName)) ∈ mx_T := List.mem_filter.mpr ⟨List.mem_append_right _ ((List.mem_append_right _ (List.mem_append_right _ (List.mem_append_left _ (List.mem_of_getElem? (l := tables_1_3) (i := 113) (by decide +kernel)))))), rfl⟩
theorem k_594 : (Jvm.Cond.instanceMethod ({ cls := "LittleMix$Operands", name := "add", desc := "(LLittleMix$Sum;)V" } : Jvm.MethodName)) ∈ mx_T := List.mem_filter.mpr ⟨List.mem_append_right _ ((List.mem_append_right _ (List.mem_append_right _ (List.mem_append_left _ (List.mem_of_getElem? (l := tables_1_3) (i := 114) (by decide +kernel)))))), rfl⟩
theorem k_595 : (Jvm.Cond.selects "LittleMix$Operands" ({ cls := "LittleMix$Operands", name := "add", desc := "(LLittleMix$Sum;)V" } : Jvm.MethodName) ({ cls := "LittleMix$Operands", name := "add", desc := "(LLittleMix$Sum;)V" } : Jvm.MethodName)) ∈ mx_T := List.mem_filter.mpr ⟨List.mem_append_right _ ((List.mem_append_right _ (List.mem_append_right _ (List.mem_append_left _ (List.mem_of_getElem? (l := tables_1_3) (i := 115) (by decide +kernel)))))), rfl⟩
theorem k_596 : (Jvm.Cond.code ({ cls := "LittleMix$Operands", name := "add", desc := "(LLittleMix$Sum;)V" } : Jvm.MethodName) prog_8_method_3_code (2 : Nat) (Option.none : Option Jvm.ClassFile.FieldType)) ∈ mx_T := List.mem_filter.mpr ⟨List.mem_append_right _ ((List.mem_append_right _ (List.mem_append_right _ (List.mem_append_left _ (List.mem_of_getElem? (l := tables_1_3) (i := 116) rfl))))), rfl⟩
theorem k_597 : (Jvm.Cond.methodLink "LittleMix$Assembler" (122 : Nat) ({ cls := "LittleMix$Operations", name := "isData", desc := "(I)Z" } : Jvm.MethodName)) ∈ mx_T := List.mem_filter.mpr ⟨List.mem_append_right _ ((List.mem_append_right _ (List.mem_append_right _ (List.mem_append_left _ (List.mem_of_getElem? (l := tables_1_3) (i := 117) (by decide +kernel)))))), rfl⟩
theorem k_598 : (Jvm.Cond.static ({ cls := "LittleMix$Operations", name := "isData", desc := "(I)Z" } : Jvm.MethodName)) ∈ mx_T := List.mem_filter.mpr ⟨List.mem_append_right _ ((List.mem_append_right _ (List.mem_append_right _ (List.mem_append_left _ (List.mem_of_getElem? (l := tables_1_3) (i := 118) (by decide +kernel)))))), rfl⟩
theorem k_599 : (Jvm.Cond.code ({ cls := "LittleMix$Operations", name := "isData", desc := "(I)Z" } : Jvm.MethodName) prog_9_method_4_code (1 : Nat) (Option.some Jvm.ClassFile.FieldType.boolean)) ∈ mx_T := List.mem_filter.mpr ⟨List.mem_append_right _ ((List.mem_append_right _ (List.mem_append_right _ (List.mem_append_left _ (List.mem_of_getElem? (l := tables_1_3) (i := 119) rfl))))), rfl⟩
theorem k_600 : (Jvm.Cond.methodLink "LittleMix$Assembler" (130 : Nat) ({ cls := "LittleMix$Memory", name := "write", desc := "(JIJ)V" } : Jvm.MethodName)) ∈ mx_T := List.mem_filter.mpr ⟨List.mem_append_right _ ((List.mem_append_right _ (List.mem_append_right _ (List.mem_append_left _ (List.mem_of_getElem? (l := tables_1_3) (i := 120) (by decide +kernel)))))), rfl⟩
theorem k_624 : (Jvm.Cond.constantLong "LittleMix$Assembler" (160 : Nat) (4096 : Int64)) ∈ mx_T := List.mem_filter.mpr ⟨List.mem_append_right _ ((List.mem_append_right _ (List.mem_append_right _ (List.mem_append_left _ (List.mem_of_getElem? (l := tables_1_3) (i := 144) (by decide +kernel)))))), rfl⟩
theorem k_717 : (Jvm.Cond.constantLong "LittleMix$Assembler" (61 : Nat) (-1 : Int64)) ∈ mx_T := List.mem_filter.mpr ⟨List.mem_append_right _ ((List.mem_append_right _ (List.mem_append_right _ (List.mem_append_left _ (List.mem_of_getElem? (l := tables_1_3) (i := 237) (by decide +kernel)))))), rfl⟩
theorem sl_Asm_here : Cond.selects y_Asm_here.cls y_Asm_here y_Asm_here ∈ mx_T := List.mem_filter.mpr ⟨List.mem_append_left _ (by decide +kernel), by decide +kernel⟩
theorem d_Asm_answer_0 : decode b_Asm_answer 0 = .ok (.iload_n 1, 1) := by decide +kernel
theorem d_Asm_answer_1 : decode b_Asm_answer 1 = .ok (.ifCond .lt 29, 3) := by decide +kernel
theorem d_Asm_answer_4 : decode b_Asm_answer 4 = .ok (.iload_n 1, 1) := by decide +kernel
theorem d_Asm_answer_5 : decode b_Asm_answer 5 = .ok (.aload_n 0, 1) := by decide +kernel
theorem d_Asm_answer_6 : decode b_Asm_answer 6 = .ok (.getfield 58, 3) := by decide +kernel
theorem d_Asm_answer_9 : decode b_Asm_answer 9 = .ok (.if_icmp .ge 21, 3) := by decide +kernel
theorem d_Asm_answer_12 : decode b_Asm_answer 12 = .ok (.iload_n 1, 1) := by decide +kernel
theorem d_Asm_answer_13 : decode b_Asm_answer 13 = .ok (.aload_n 0, 1) := by decide +kernel
theorem d_Asm_answer_14 : decode b_Asm_answer 14 = .ok (.getfield 20, 3) := by decide +kernel
theorem d_Asm_answer_17 : decode b_Asm_answer 17 = .ok (.arraylength, 1) := by decide +kernel
theorem d_Asm_answer_18 : decode b_Asm_answer 18 = .ok (.if_icmp .ge 12, 3) := by decide +kernel
theorem d_Asm_answer_21 : decode b_Asm_answer 21 = .ok (.aload_n 0, 1) := by decide +kernel
theorem d_Asm_answer_22 : decode b_Asm_answer 22 = .ok (.getfield 20, 3) := by decide +kernel
theorem d_Asm_answer_25 : decode b_Asm_answer 25 = .ok (.iload_n 1, 1) := by decide +kernel
theorem d_Asm_answer_26 : decode b_Asm_answer 26 = .ok (.laload, 1) := by decide +kernel
theorem d_Asm_answer_27 : decode b_Asm_answer 27 = .ok (.goto 6, 3) := by decide +kernel
theorem d_Asm_answer_30 : decode b_Asm_answer 30 = .ok (.ldc2_w 61, 3) := by decide +kernel
theorem d_Asm_answer_33 : decode b_Asm_answer 33 = .ok (.lreturn, 1) := by decide +kernel
theorem d_Asm_gather_0 : decode b_Asm_gather 0 = .ok (.aload_n 0, 1) := by decide +kernel
theorem d_Asm_gather_1 : decode b_Asm_gather 1 = .ok (.getfield 45, 3) := by decide +kernel
theorem d_Asm_gather_4 : decode b_Asm_gather 4 = .ok (.getfield 98, 3) := by decide +kernel
theorem d_Asm_gather_7 : decode b_Asm_gather 7 = .ok (.invokestatic 101, 3) := by decide +kernel
theorem d_Asm_gather_10 : decode b_Asm_gather 10 = .ok (.istore_n 2, 1) := by decide +kernel
theorem d_Asm_gather_11 : decode b_Asm_gather 11 = .ok (.aload_n 0, 1) := by decide +kernel
theorem d_Asm_gather_12 : decode b_Asm_gather 12 = .ok (.invokevirtual 107, 3) := by decide +kernel
theorem d_Asm_gather_15 : decode b_Asm_gather 15 = .ok (.istore_n 3, 1) := by decide +kernel
theorem d_Asm_gather_16 : decode b_Asm_gather 16 = .ok (.aload_n 0, 1) := by decide +kernel
theorem d_Asm_gather_17 : decode b_Asm_gather 17 = .ok (.getfield 45, 3) := by decide +kernel
theorem d_Asm_gather_20 : decode b_Asm_gather 20 = .ok (.getfield 111, 3) := by decide +kernel
theorem d_Asm_gather_23 : decode b_Asm_gather 23 = .ok (.istore 4, 2) := by decide +kernel
theorem d_Asm_gather_25 : decode b_Asm_gather 25 = .ok (.aload_n 0, 1) := by decide +kernel
theorem d_Asm_gather_26 : decode b_Asm_gather 26 = .ok (.getfield 12, 3) := by decide +kernel
theorem d_Asm_gather_29 : decode b_Asm_gather 29 = .ok (.invokevirtual 114, 3) := by decide +kernel
theorem d_Asm_gather_32 : decode b_Asm_gather 32 = .ok (.iconst 0, 1) := by decide +kernel
theorem d_Asm_gather_33 : decode b_Asm_gather 33 = .ok (.istore 5, 2) := by decide +kernel
theorem d_Asm_gather_35 : decode b_Asm_gather 35 = .ok (.iload 5, 2) := by decide +kernel
theorem d_Asm_gather_37 : decode b_Asm_gather 37 = .ok (.aload_n 0, 1) := by decide +kernel
theorem d_Asm_gather_38 : decode b_Asm_gather 38 = .ok (.getfield 45, 3) := by decide +kernel
theorem d_Asm_gather_41 : decode b_Asm_gather 41 = .ok (.getfield 91, 3) := by decide +kernel
theorem d_Asm_gather_44 : decode b_Asm_gather 44 = .ok (.if_icmp .ge 99, 3) := by decide +kernel
theorem d_Asm_gather_47 : decode b_Asm_gather 47 = .ok (.iload 4, 2) := by decide +kernel
theorem d_Asm_gather_49 : decode b_Asm_gather 49 = .ok (.aload_n 0, 1) := by decide +kernel
theorem d_Asm_gather_50 : decode b_Asm_gather 50 = .ok (.getfield 45, 3) := by decide +kernel
theorem d_Asm_gather_53 : decode b_Asm_gather 53 = .ok (.getfield 91, 3) := by decide +kernel
theorem d_Asm_gather_56 : decode b_Asm_gather 56 = .ok (.if_icmp .ge 87, 3) := by decide +kernel
theorem d_Asm_gather_59 : decode b_Asm_gather 59 = .ok (.aload_n 0, 1) := by decide +kernel
theorem d_Asm_gather_60 : decode b_Asm_gather 60 = .ok (.getfield 54, 3) := by decide +kernel
theorem d_Asm_gather_63 : decode b_Asm_gather 63 = .ok (.iload 4, 2) := by decide +kernel
theorem d_Asm_gather_65 : decode b_Asm_gather 65 = .ok (.aload_n 0, 1) := by decide +kernel
theorem d_Asm_gather_66 : decode b_Asm_gather 66 = .ok (.getfield 45, 3) := by decide +kernel
theorem d_Asm_gather_69 : decode b_Asm_gather 69 = .ok (.getfield 91, 3) := by decide +kernel
theorem d_Asm_gather_72 : decode b_Asm_gather 72 = .ok (.iload_n 3, 1) := by decide +kernel
theorem d_Asm_gather_73 : decode b_Asm_gather 73 = .ok (.i2l, 1) := by decide +kernel
theorem d_Asm_gather_74 : decode b_Asm_gather 74 = .ok (.invokevirtual 115, 3) := by decide +kernel
theorem d_Asm_gather_77 : decode b_Asm_gather 77 = .ok (.istore 4, 2) := by decide +kernel
theorem d_Asm_gather_79 : decode b_Asm_gather 79 = .ok (.iload 4, 2) := by decide +kernel
theorem d_Asm_gather_81 : decode b_Asm_gather 81 = .ok (.iconst (-1), 1) := by decide +kernel
theorem d_Asm_gather_82 : decode b_Asm_gather 82 = .ok (.if_icmp .ne 5, 3) := by decide +kernel
theorem d_Asm_gather_85 : decode b_Asm_gather 85 = .ok (.iconst 0, 1) := by decide +kernel
theorem d_Asm_gather_86 : decode b_Asm_gather 86 = .ok (.ireturn, 1) := by decide +kernel
theorem d_Asm_gather_87 : decode b_Asm_gather 87 = .ok (.aload_n 0, 1) := by decide +kernel
theorem d_Asm_gather_88 : decode b_Asm_gather 88 = .ok (.getfield 12, 3) := by decide +kernel
theorem d_Asm_gather_91 : decode b_Asm_gather 91 = .ok (.aload_n 0, 1) := by decide +kernel
theorem d_Asm_gather_92 : decode b_Asm_gather 92 = .ok (.getfield 54, 3) := by decide +kernel
theorem d_Asm_gather_95 : decode b_Asm_gather 95 = .ok (.invokevirtual 118, 3) := by decide +kernel
theorem d_Asm_gather_98 : decode b_Asm_gather 98 = .ok (.iload_n 1, 1) := by decide +kernel
theorem d_Asm_gather_99 : decode b_Asm_gather 99 = .ok (.ifCond .ne 38, 3) := by decide +kernel
theorem d_Asm_gather_102 : decode b_Asm_gather 102 = .ok (.aload_n 0, 1) := by decide +kernel
theorem d_Asm_gather_103 : decode b_Asm_gather 103 = .ok (.getfield 45, 3) := by decide +kernel
theorem d_Asm_gather_106 : decode b_Asm_gather 106 = .ok (.getfield 98, 3) := by decide +kernel
theorem d_Asm_gather_109 : decode b_Asm_gather 109 = .ok (.invokestatic 122, 3) := by decide +kernel
theorem d_Asm_gather_112 : decode b_Asm_gather 112 = .ok (.ifCond .eq 25, 3) := by decide +kernel
theorem d_Asm_gather_115 : decode b_Asm_gather 115 = .ok (.aload_n 0, 1) := by decide +kernel
theorem d_Asm_gather_116 : decode b_Asm_gather 116 = .ok (.getfield 27, 3) := by decide +kernel
theorem d_Asm_gather_119 : decode b_Asm_gather 119 = .ok (.iload_n 3, 1) := by decide +kernel
theorem d_Asm_gather_120 : decode b_Asm_gather 120 = .ok (.iload 5, 2) := by decide +kernel
theorem d_Asm_gather_122 : decode b_Asm_gather 122 = .ok (.iload_n 2, 1) := by decide +kernel
theorem d_Asm_gather_123 : decode b_Asm_gather 123 = .ok (.imul, 1) := by decide +kernel
theorem d_Asm_gather_124 : decode b_Asm_gather 124 = .ok (.iadd, 1) := by decide +kernel
theorem d_Asm_gather_125 : decode b_Asm_gather 125 = .ok (.i2l, 1) := by decide +kernel
theorem d_Asm_gather_126 : decode b_Asm_gather 126 = .ok (.iload_n 2, 1) := by decide +kernel
theorem d_Asm_gather_127 : decode b_Asm_gather 127 = .ok (.aload_n 0, 1) := by decide +kernel
theorem d_Asm_gather_128 : decode b_Asm_gather 128 = .ok (.getfield 54, 3) := by decide +kernel
theorem d_Asm_gather_131 : decode b_Asm_gather 131 = .ok (.getfield 126, 3) := by decide +kernel
theorem d_Asm_gather_134 : decode b_Asm_gather 134 = .ok (.invokevirtual 130, 3) := by decide +kernel
theorem d_Asm_gather_137 : decode b_Asm_gather 137 = .ok (.iinc 5 1, 3) := by decide +kernel
theorem d_Asm_gather_140 : decode b_Asm_gather 140 = .ok (.goto (-105), 3) := by decide +kernel
theorem d_Asm_gather_143 : decode b_Asm_gather 143 = .ok (.iconst 1, 1) := by decide +kernel
theorem d_Asm_gather_144 : decode b_Asm_gather 144 = .ok (.ireturn, 1) := by decide +kernel
theorem d_Asm_goOn_0 : decode b_Asm_goOn 0 = .ok (.aload_n 0, 1) := by decide +kernel
theorem d_Asm_goOn_1 : decode b_Asm_goOn 1 = .ok (.getfield 45, 3) := by decide +kernel
theorem d_Asm_goOn_4 : decode b_Asm_goOn 4 = .ok (.getfield 98, 3) := by decide +kernel
theorem d_Asm_goOn_7 : decode b_Asm_goOn 7 = .ok (.sipush 257, 3) := by decide +kernel
theorem d_Asm_goOn_10 : decode b_Asm_goOn 10 = .ok (.if_icmp .ne 37, 3) := by decide +kernel
theorem d_Asm_goOn_13 : decode b_Asm_goOn 13 = .ok (.aload_n 0, 1) := by decide +kernel
theorem d_Asm_goOn_14 : decode b_Asm_goOn 14 = .ok (.aload_n 0, 1) := by decide +kernel
theorem d_Asm_goOn_15 : decode b_Asm_goOn 15 = .ok (.getfield 12, 3) := by decide +kernel
theorem d_Asm_goOn_18 : decode b_Asm_goOn 18 = .ok (.getfield 162, 3) := by decide +kernel
theorem d_Asm_goOn_21 : decode b_Asm_goOn 21 = .ok (.ifCond .le 16, 3) := by decide +kernel
theorem d_Asm_goOn_24 : decode b_Asm_goOn 24 = .ok (.aload_n 0, 1) := by decide +kernel
theorem d_Asm_goOn_25 : decode b_Asm_goOn 25 = .ok (.getfield 12, 3) := by decide +kernel
theorem d_Asm_goOn_28 : decode b_Asm_goOn 28 = .ok (.getfield 144, 3) := by decide +kernel
theorem d_Asm_goOn_31 : decode b_Asm_goOn 31 = .ok (.iconst 0, 1) := by decide +kernel
theorem d_Asm_goOn_32 : decode b_Asm_goOn 32 = .ok (.laload, 1) := by decide +kernel
theorem d_Asm_goOn_33 : decode b_Asm_goOn 33 = .ok (.l2i, 1) := by decide +kernel
theorem d_Asm_goOn_34 : decode b_Asm_goOn 34 = .ok (.goto 7, 3) := by decide +kernel
theorem d_Asm_goOn_37 : decode b_Asm_goOn 37 = .ok (.aload_n 0, 1) := by decide +kernel
theorem d_Asm_goOn_38 : decode b_Asm_goOn 38 = .ok (.getfield 67, 3) := by decide +kernel
theorem d_Asm_goOn_41 : decode b_Asm_goOn 41 = .ok (.putfield 67, 3) := by decide +kernel
theorem d_Asm_goOn_44 : decode b_Asm_goOn 44 = .ok (.goto 72, 3) := by decide +kernel
theorem d_Asm_goOn_47 : decode b_Asm_goOn 47 = .ok (.aload_n 0, 1) := by decide +kernel
theorem d_Asm_goOn_48 : decode b_Asm_goOn 48 = .ok (.getfield 45, 3) := by decide +kernel
theorem d_Asm_goOn_51 : decode b_Asm_goOn 51 = .ok (.getfield 98, 3) := by decide +kernel
theorem d_Asm_goOn_54 : decode b_Asm_goOn 54 = .ok (.sipush 256, 3) := by decide +kernel
theorem d_Asm_goOn_57 : decode b_Asm_goOn 57 = .ok (.if_icmp .eq 59, 3) := by decide +kernel
theorem d_Asm_goOn_60 : decode b_Asm_goOn 60 = .ok (.aload_n 0, 1) := by decide +kernel
theorem d_Asm_goOn_61 : decode b_Asm_goOn 61 = .ok (.getfield 45, 3) := by decide +kernel
theorem d_Asm_goOn_64 : decode b_Asm_goOn 64 = .ok (.getfield 98, 3) := by decide +kernel
theorem d_Asm_goOn_67 : decode b_Asm_goOn 67 = .ok (.invokestatic 101, 3) := by decide +kernel
theorem d_Asm_goOn_70 : decode b_Asm_goOn 70 = .ok (.istore_n 1, 1) := by decide +kernel
theorem d_Asm_goOn_71 : decode b_Asm_goOn 71 = .ok (.aload_n 0, 1) := by decide +kernel
theorem d_Asm_goOn_72 : decode b_Asm_goOn 72 = .ok (.aload_n 0, 1) := by decide +kernel
theorem d_Asm_goOn_73 : decode b_Asm_goOn 73 = .ok (.invokevirtual 107, 3) := by decide +kernel
theorem d_Asm_goOn_76 : decode b_Asm_goOn 76 = .ok (.iload_n 1, 1) := by decide +kernel
theorem d_Asm_goOn_77 : decode b_Asm_goOn 77 = .ok (.aload_n 0, 1) := by decide +kernel
theorem d_Asm_goOn_78 : decode b_Asm_goOn 78 = .ok (.getfield 45, 3) := by decide +kernel
theorem d_Asm_goOn_81 : decode b_Asm_goOn 81 = .ok (.getfield 98, 3) := by decide +kernel
theorem d_Asm_goOn_84 : decode b_Asm_goOn 84 = .ok (.invokestatic 122, 3) := by decide +kernel
theorem d_Asm_goOn_87 : decode b_Asm_goOn 87 = .ok (.ifCond .eq 13, 3) := by decide +kernel
theorem d_Asm_goOn_90 : decode b_Asm_goOn 90 = .ok (.aload_n 0, 1) := by decide +kernel
theorem d_Asm_goOn_91 : decode b_Asm_goOn 91 = .ok (.getfield 12, 3) := by decide +kernel
theorem d_Asm_goOn_94 : decode b_Asm_goOn 94 = .ok (.getfield 162, 3) := by decide +kernel
theorem d_Asm_goOn_97 : decode b_Asm_goOn 97 = .ok (.goto 4, 3) := by decide +kernel
theorem d_Asm_goOn_100 : decode b_Asm_goOn 100 = .ok (.iconst 1, 1) := by decide +kernel
theorem d_Asm_goOn_101 : decode b_Asm_goOn 101 = .ok (.imul, 1) := by decide +kernel
theorem d_Asm_goOn_102 : decode b_Asm_goOn 102 = .ok (.iadd, 1) := by decide +kernel
theorem d_Asm_goOn_103 : decode b_Asm_goOn 103 = .ok (.putfield 67, 3) := by decide +kernel
theorem d_Asm_goOn_106 : decode b_Asm_goOn 106 = .ok (.aload_n 0, 1) := by decide +kernel
theorem d_Asm_goOn_107 : decode b_Asm_goOn 107 = .ok (.dup, 1) := by decide +kernel
theorem d_Asm_goOn_108 : decode b_Asm_goOn 108 = .ok (.getfield 70, 3) := by decide +kernel
theorem d_Asm_goOn_111 : decode b_Asm_goOn 111 = .ok (.iconst 1, 1) := by decide +kernel
theorem d_Asm_goOn_112 : decode b_Asm_goOn 112 = .ok (.iadd, 1) := by decide +kernel
theorem d_Asm_goOn_113 : decode b_Asm_goOn 113 = .ok (.putfield 70, 3) := by decide +kernel
theorem d_Asm_goOn_116 : decode b_Asm_goOn 116 = .ok (.return_, 1) := by decide +kernel
theorem d_Asm_here_0 : decode b_Asm_here 0 = .ok (.aload_n 0, 1) := by decide +kernel
theorem d_Asm_here_1 : decode b_Asm_here 1 = .ok (.getfield 45, 3) := by decide +kernel
theorem d_Asm_here_4 : decode b_Asm_here 4 = .ok (.getfield 98, 3) := by decide +kernel
theorem d_Asm_here_7 : decode b_Asm_here 7 = .ok (.invokestatic 101, 3) := by decide +kernel
theorem d_Asm_here_10 : decode b_Asm_here 10 = .ok (.istore_n 1, 1) := by decide +kernel
theorem d_Asm_here_11 : decode b_Asm_here 11 = .ok (.aload_n 0, 1) := by decide +kernel
theorem d_Asm_here_12 : decode b_Asm_here 12 = .ok (.getfield 67, 3) := by decide +kernel
theorem d_Asm_here_15 : decode b_Asm_here 15 = .ok (.iload_n 1, 1) := by decide +kernel
theorem d_Asm_here_16 : decode b_Asm_here 16 = .ok (.iadd, 1) := by decide +kernel
theorem d_Asm_here_17 : decode b_Asm_here 17 = .ok (.iconst 1, 1) := by decide +kernel
theorem d_Asm_here_18 : decode b_Asm_here 18 = .ok (.isub, 1) := by decide +kernel
theorem d_Asm_here_19 : decode b_Asm_here 19 = .ok (.iload_n 1, 1) := by decide +kernel
theorem d_Asm_here_20 : decode b_Asm_here 20 = .ok (.ineg, 1) := by decide +kernel
theorem d_Asm_here_21 : decode b_Asm_here 21 = .ok (.iand, 1) := by decide +kernel
theorem d_Asm_here_22 : decode b_Asm_here 22 = .ok (.ireturn, 1) := by decide +kernel
theorem d_Asm_locates_0 : decode b_Asm_locates 0 = .ok (.aload_n 0, 1) := by decide +kernel
theorem d_Asm_locates_1 : decode b_Asm_locates 1 = .ok (.getfield 12, 3) := by decide +kernel
theorem d_Asm_locates_4 : decode b_Asm_locates 4 = .ok (.getfield 150, 3) := by decide +kernel
theorem d_Asm_locates_7 : decode b_Asm_locates 7 = .ok (.iconst 0, 1) := by decide +kernel
theorem d_Asm_locates_8 : decode b_Asm_locates 8 = .ok (.baload, 1) := by decide +kernel
theorem d_Asm_locates_9 : decode b_Asm_locates 9 = .ok (.ifCond .ne 37, 3) := by decide +kernel
theorem d_Asm_locates_12 : decode b_Asm_locates 12 = .ok (.aload_n 0, 1) := by decide +kernel
theorem d_Asm_locates_13 : decode b_Asm_locates 13 = .ok (.getfield 12, 3) := by decide +kernel
theorem d_Asm_locates_16 : decode b_Asm_locates 16 = .ok (.getfield 144, 3) := by decide +kernel
theorem d_Asm_locates_19 : decode b_Asm_locates 19 = .ok (.iconst 0, 1) := by decide +kernel
theorem d_Asm_locates_20 : decode b_Asm_locates 20 = .ok (.laload, 1) := by decide +kernel
theorem d_Asm_locates_21 : decode b_Asm_locates 21 = .ok (.lconst 0, 1) := by decide +kernel
theorem d_Asm_locates_22 : decode b_Asm_locates 22 = .ok (.lcmp, 1) := by decide +kernel
theorem d_Asm_locates_23 : decode b_Asm_locates 23 = .ok (.ifCond .lt 23, 3) := by decide +kernel
theorem d_Asm_locates_26 : decode b_Asm_locates 26 = .ok (.aload_n 0, 1) := by decide +kernel
theorem d_Asm_locates_27 : decode b_Asm_locates 27 = .ok (.getfield 12, 3) := by decide +kernel
theorem d_Asm_locates_30 : decode b_Asm_locates 30 = .ok (.getfield 144, 3) := by decide +kernel
theorem d_Asm_locates_33 : decode b_Asm_locates 33 = .ok (.iconst 0, 1) := by decide +kernel
theorem d_Asm_locates_34 : decode b_Asm_locates 34 = .ok (.laload, 1) := by decide +kernel
theorem d_Asm_locates_35 : decode b_Asm_locates 35 = .ok (.ldc2_w 160, 3) := by decide +kernel
theorem d_Asm_locates_38 : decode b_Asm_locates 38 = .ok (.lcmp, 1) := by decide +kernel
theorem d_Asm_locates_39 : decode b_Asm_locates 39 = .ok (.ifCond .gt 7, 3) := by decide +kernel
theorem d_Asm_locates_42 : decode b_Asm_locates 42 = .ok (.iconst 1, 1) := by decide +kernel
theorem d_Asm_locates_43 : decode b_Asm_locates 43 = .ok (.goto 4, 3) := by decide +kernel
theorem d_Asm_locates_46 : decode b_Asm_locates 46 = .ok (.iconst 0, 1) := by decide +kernel
theorem d_Asm_locates_47 : decode b_Asm_locates 47 = .ok (.ireturn, 1) := by decide +kernel
