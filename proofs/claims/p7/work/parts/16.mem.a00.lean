abbrev b_Mem_become : ByteArray := prog_7_method_7_code
abbrev b_Mem_clear : ByteArray := prog_7_method_6_code
abbrev b_Mem_holds : ByteArray := prog_7_method_2_code
abbrev b_Mem_instruction : ByteArray := prog_7_method_5_code
abbrev b_Mem_mask : ByteArray := prog_7_method_9_code
abbrev b_Mem_read : ByteArray := prog_7_method_3_code
abbrev b_Mem_shift : ByteArray := prog_7_method_8_code
abbrev b_Mem_write : ByteArray := prog_7_method_4_code
abbrev y_Mem_become : MethodName := ⟨"LittleMix$Memory", "become", "(LLittleMix$Memory;)V"⟩
abbrev y_Mem_clear : MethodName := ⟨"LittleMix$Memory", "clear", "()V"⟩
abbrev y_Mem_holds : MethodName := ⟨"LittleMix$Memory", "holds", "(JI)Z"⟩
abbrev y_Mem_instruction : MethodName := ⟨"LittleMix$Memory", "instruction", "(J)I"⟩
abbrev y_Mem_mask : MethodName := ⟨"LittleMix$Memory", "mask", "(I)J"⟩
abbrev y_Mem_read : MethodName := ⟨"LittleMix$Memory", "read", "(JI)J"⟩
abbrev y_Mem_shift : MethodName := ⟨"LittleMix$Memory", "shift", "(JI)I"⟩
abbrev y_Mem_write : MethodName := ⟨"LittleMix$Memory", "write", "(JIJ)V"⟩
theorem p_Mem_holds : y_Mem_holds.cls ≠ "java/lang/invoke/MethodHandle" ∧ y_Mem_holds.cls ≠ "java/lang/invoke/VarHandle" ∧ (parseMethodDescriptor y_Mem_holds.desc).map (fun d => d.parameters.length) = some 2 := by decide +kernel
theorem p_Mem_mask : y_Mem_mask.cls ≠ "java/lang/invoke/MethodHandle" ∧ y_Mem_mask.cls ≠ "java/lang/invoke/VarHandle" ∧ (parseMethodDescriptor y_Mem_mask.desc).map (fun d => d.parameters.length) = some 1 := by decide +kernel
theorem p_Mem_read : y_Mem_read.cls ≠ "java/lang/invoke/MethodHandle" ∧ y_Mem_read.cls ≠ "java/lang/invoke/VarHandle" ∧ (parseMethodDescriptor y_Mem_read.desc).map (fun d => d.parameters.length) = some 2 := by decide +kernel
theorem p_Mem_shift : y_Mem_shift.cls ≠ "java/lang/invoke/MethodHandle" ∧ y_Mem_shift.cls ≠ "java/lang/invoke/VarHandle" ∧ (parseMethodDescriptor y_Mem_shift.desc).map (fun d => d.parameters.length) = some 2 := by decide +kernel
theorem k_19 : (Jvm.Cond.initialized "java/lang/System") ∈ mx_T := List.mem_filter.mpr ⟨List.mem_append_right _ ((List.mem_append_left _ (List.mem_of_getElem? (l := tables_1_1) (i := 19) (by decide +kernel)))), rfl⟩
theorem k_604 : (Jvm.Cond.methodLink "LittleMix$Memory" (13 : Nat) ({ cls := "LittleMix$Memory", name := "holds", desc := "(JI)Z" } : Jvm.MethodName)) ∈ mx_T := List.mem_filter.mpr ⟨List.mem_append_right _ ((List.mem_append_right _ (List.mem_append_right _ (List.mem_append_left _ (List.mem_of_getElem? (l := tables_1_3) (i := 124) (by decide +kernel)))))), rfl⟩
theorem k_605 : (Jvm.Cond.instanceMethod ({ cls := "LittleMix$Memory", name := "holds", desc := "(JI)Z" } : Jvm.MethodName)) ∈ mx_T := List.mem_filter.mpr ⟨List.mem_append_right _ ((List.mem_append_right _ (List.mem_append_right _ (List.mem_append_left _ (List.mem_of_getElem? (l := tables_1_3) (i := 125) (by decide +kernel)))))), rfl⟩
theorem k_606 : (Jvm.Cond.selects "LittleMix$Memory" ({ cls := "LittleMix$Memory", name := "holds", desc := "(JI)Z" } : Jvm.MethodName) ({ cls := "LittleMix$Memory", name := "holds", desc := "(JI)Z" } : Jvm.MethodName)) ∈ mx_T := List.mem_filter.mpr ⟨List.mem_append_right _ ((List.mem_append_right _ (List.mem_append_right _ (List.mem_append_left _ (List.mem_of_getElem? (l := tables_1_3) (i := 126) (by decide +kernel)))))), rfl⟩
theorem k_607 : (Jvm.Cond.code ({ cls := "LittleMix$Memory", name := "holds", desc := "(JI)Z" } : Jvm.MethodName) prog_7_method_2_code (4 : Nat) (Option.some Jvm.ClassFile.FieldType.boolean)) ∈ mx_T := List.mem_filter.mpr ⟨List.mem_append_right _ ((List.mem_append_right _ (List.mem_append_right _ (List.mem_append_left _ (List.mem_of_getElem? (l := tables_1_3) (i := 127) rfl))))), rfl⟩
theorem k_608 : (Jvm.Cond.methodLink "LittleMix$Memory" (17 : Nat) ({ cls := "LittleMix$Memory", name := "shift", desc := "(JI)I" } : Jvm.MethodName)) ∈ mx_T := List.mem_filter.mpr ⟨List.mem_append_right _ ((List.mem_append_right _ (List.mem_append_right _ (List.mem_append_left _ (List.mem_of_getElem? (l := tables_1_3) (i := 128) (by decide +kernel)))))), rfl⟩
theorem k_609 : (Jvm.Cond.static ({ cls := "LittleMix$Memory", name := "shift", desc := "(JI)I" } : Jvm.MethodName)) ∈ mx_T := List.mem_filter.mpr ⟨List.mem_append_right _ ((List.mem_append_right _ (List.mem_append_right _ (List.mem_append_left _ (List.mem_of_getElem? (l := tables_1_3) (i := 129) (by decide +kernel)))))), rfl⟩
theorem k_610 : (Jvm.Cond.code ({ cls := "LittleMix$Memory", name := "shift", desc := "(JI)I" } : Jvm.MethodName) prog_7_method_8_code (3 : Nat) (Option.some Jvm.ClassFile.FieldType.int)) ∈ mx_T := List.mem_filter.mpr ⟨List.mem_append_right _ ((List.mem_append_right _ (List.mem_append_right _ (List.mem_append_left _ (List.mem_of_getElem? (l := tables_1_3) (i := 130) rfl))))), rfl⟩
theorem k_611 : (Jvm.Cond.constantLong "LittleMix$Memory" (37 : Nat) (7 : Int64)) ∈ mx_T := List.mem_filter.mpr ⟨List.mem_append_right _ ((List.mem_append_right _ (List.mem_append_right _ (List.mem_append_left _ (List.mem_of_getElem? (l := tables_1_3) (i := 131) (by decide +kernel)))))), rfl⟩
theorem k_612 : (Jvm.Cond.methodLink "LittleMix$Memory" (21 : Nat) ({ cls := "LittleMix$Memory", name := "mask", desc := "(I)J" } : Jvm.MethodName)) ∈ mx_T := List.mem_filter.mpr ⟨List.mem_append_right _ ((List.mem_append_right _ (List.mem_append_right _ (List.mem_append_left _ (List.mem_of_getElem? (l := tables_1_3) (i := 132) (by decide +kernel)))))), rfl⟩
theorem k_613 : (Jvm.Cond.static ({ cls := "LittleMix$Memory", name := "mask", desc := "(I)J" } : Jvm.MethodName)) ∈ mx_T := List.mem_filter.mpr ⟨List.mem_append_right _ ((List.mem_append_right _ (List.mem_append_right _ (List.mem_append_left _ (List.mem_of_getElem? (l := tables_1_3) (i := 133) (by decide +kernel)))))), rfl⟩
theorem k_614 : (Jvm.Cond.code ({ cls := "LittleMix$Memory", name := "mask", desc := "(I)J" } : Jvm.MethodName) prog_7_method_9_code (1 : Nat) (Option.some Jvm.ClassFile.FieldType.long)) ∈ mx_T := List.mem_filter.mpr ⟨List.mem_append_right _ ((List.mem_append_right _ (List.mem_append_right _ (List.mem_append_left _ (List.mem_of_getElem? (l := tables_1_3) (i := 134) rfl))))), rfl⟩
theorem k_615 : (Jvm.Cond.constantLong "LittleMix$Memory" (25 : Nat) (-1 : Int64)) ∈ mx_T := List.mem_filter.mpr ⟨List.mem_append_right _ ((List.mem_append_right _ (List.mem_append_right _ (List.mem_append_left _ (List.mem_of_getElem? (l := tables_1_3) (i := 135) (by decide +kernel)))))), rfl⟩
theorem k_690 : (Jvm.Cond.methodLink "LittleMix$Memory" (31 : Nat) ({ cls := "java/lang/System", name := "arraycopy", desc := "(Ljava/lang/Object;ILjava/lang/Object;II)V" } : Jvm.MethodName)) ∈ mx_T := List.mem_filter.mpr ⟨List.mem_append_right _ ((List.mem_append_right _ (List.mem_append_right _ (List.mem_append_left _ (List.mem_of_getElem? (l := tables_1_3) (i := 210) (by decide +kernel)))))), rfl⟩
theorem k_691 : (Jvm.Cond.static ({ cls := "java/lang/System", name := "arraycopy", desc := "(Ljava/lang/Object;ILjava/lang/Object;II)V" } : Jvm.MethodName)) ∈ mx_T := List.mem_filter.mpr ⟨List.mem_append_right _ ((List.mem_append_right _ (List.mem_append_right _ (List.mem_append_left _ (List.mem_of_getElem? (l := tables_1_3) (i := 211) (by decide +kernel)))))), rfl⟩
theorem k_692 : (Jvm.Cond.native ({ cls := "java/lang/System", name := "arraycopy", desc := "(Ljava/lang/Object;ILjava/lang/Object;II)V" } : Jvm.MethodName)) ∈ mx_T := List.mem_filter.mpr ⟨List.mem_append_right _ ((List.mem_append_right _ (List.mem_append_right _ (List.mem_append_left _ (List.mem_of_getElem? (l := tables_1_3) (i := 212) (by decide +kernel)))))), rfl⟩
theorem k_724 : (Jvm.Cond.instanceMethod ({ cls := "LittleMix$Memory", name := "read", desc := "(JI)J" } : Jvm.MethodName)) ∈ mx_T := List.mem_filter.mpr ⟨List.mem_append_right _ ((List.mem_append_right _ (List.mem_append_right _ (List.mem_append_right _ (List.mem_append_left _ (List.mem_of_getElem? (l := tables_1_4) (i := 4) (by decide +kernel))))))), rfl⟩
theorem k_725 : (Jvm.Cond.selects "LittleMix$Memory" ({ cls := "LittleMix$Memory", name := "read", desc := "(JI)J" } : Jvm.MethodName) ({ cls := "LittleMix$Memory", name := "read", desc := "(JI)J" } : Jvm.MethodName)) ∈ mx_T := List.mem_filter.mpr ⟨List.mem_append_right _ ((List.mem_append_right _ (List.mem_append_right _ (List.mem_append_right _ (List.mem_append_left _ (List.mem_of_getElem? (l := tables_1_4) (i := 5) (by decide +kernel))))))), rfl⟩
theorem k_726 : (Jvm.Cond.code ({ cls := "LittleMix$Memory", name := "read", desc := "(JI)J" } : Jvm.MethodName) prog_7_method_3_code (4 : Nat) (Option.some Jvm.ClassFile.FieldType.long)) ∈ mx_T := List.mem_filter.mpr ⟨List.mem_append_right _ ((List.mem_append_right _ (List.mem_append_right _ (List.mem_append_right _ (List.mem_append_left _ (List.mem_of_getElem? (l := tables_1_4) (i := 6) rfl)))))), rfl⟩
theorem k_758 : (Jvm.Cond.methodLink "LittleMix$Memory" (27 : Nat) ({ cls := "LittleMix$Memory", name := "read", desc := "(JI)J" } : Jvm.MethodName)) ∈ mx_T := List.mem_filter.mpr ⟨List.mem_append_right _ ((List.mem_append_right _ (List.mem_append_right _ (List.mem_append_right _ (List.mem_append_left _ (List.mem_of_getElem? (l := tables_1_4) (i := 38) (by decide +kernel))))))), rfl⟩
theorem d_Mem_become_0 : decode b_Mem_become 0 = .ok (.aload_n 1, 1) := by decide +kernel
theorem d_Mem_become_1 : decode b_Mem_become 1 = .ok (.getfield 9, 3) := by decide +kernel
theorem d_Mem_become_4 : decode b_Mem_become 4 = .ok (.iconst 0, 1) := by decide +kernel
theorem d_Mem_become_5 : decode b_Mem_become 5 = .ok (.aload_n 0, 1) := by decide +kernel
theorem d_Mem_become_6 : decode b_Mem_become 6 = .ok (.getfield 9, 3) := by decide +kernel
theorem d_Mem_become_9 : decode b_Mem_become 9 = .ok (.iconst 0, 1) := by decide +kernel
theorem d_Mem_become_10 : decode b_Mem_become 10 = .ok (.aload_n 0, 1) := by decide +kernel
theorem d_Mem_become_11 : decode b_Mem_become 11 = .ok (.getfield 9, 3) := by decide +kernel
theorem d_Mem_become_14 : decode b_Mem_become 14 = .ok (.arraylength, 1) := by decide +kernel
theorem d_Mem_become_15 : decode b_Mem_become 15 = .ok (.invokestatic 31, 3) := by decide +kernel
theorem d_Mem_become_18 : decode b_Mem_become 18 = .ok (.return_, 1) := by decide +kernel
theorem d_Mem_clear_0 : decode b_Mem_clear 0 = .ok (.iconst 0, 1) := by decide +kernel
theorem d_Mem_clear_1 : decode b_Mem_clear 1 = .ok (.istore_n 1, 1) := by decide +kernel
theorem d_Mem_clear_2 : decode b_Mem_clear 2 = .ok (.iload_n 1, 1) := by decide +kernel
theorem d_Mem_clear_3 : decode b_Mem_clear 3 = .ok (.aload_n 0, 1) := by decide +kernel
theorem d_Mem_clear_4 : decode b_Mem_clear 4 = .ok (.getfield 9, 3) := by decide +kernel
theorem d_Mem_clear_7 : decode b_Mem_clear 7 = .ok (.arraylength, 1) := by decide +kernel
theorem d_Mem_clear_8 : decode b_Mem_clear 8 = .ok (.if_icmp .ge 16, 3) := by decide +kernel
theorem d_Mem_clear_11 : decode b_Mem_clear 11 = .ok (.aload_n 0, 1) := by decide +kernel
theorem d_Mem_clear_12 : decode b_Mem_clear 12 = .ok (.getfield 9, 3) := by decide +kernel
theorem d_Mem_clear_15 : decode b_Mem_clear 15 = .ok (.iload_n 1, 1) := by decide +kernel
theorem d_Mem_clear_16 : decode b_Mem_clear 16 = .ok (.lconst 0, 1) := by decide +kernel
theorem d_Mem_clear_17 : decode b_Mem_clear 17 = .ok (.lastore, 1) := by decide +kernel
theorem d_Mem_clear_18 : decode b_Mem_clear 18 = .ok (.iinc 1 1, 3) := by decide +kernel
theorem d_Mem_clear_21 : decode b_Mem_clear 21 = .ok (.goto (-19), 3) := by decide +kernel
theorem d_Mem_clear_24 : decode b_Mem_clear 24 = .ok (.return_, 1) := by decide +kernel
theorem d_Mem_holds_0 : decode b_Mem_holds 0 = .ok (.lload_n 1, 1) := by decide +kernel
theorem d_Mem_holds_1 : decode b_Mem_holds 1 = .ok (.lconst 0, 1) := by decide +kernel
theorem d_Mem_holds_2 : decode b_Mem_holds 2 = .ok (.lcmp, 1) := by decide +kernel
theorem d_Mem_holds_3 : decode b_Mem_holds 3 = .ok (.ifCond .lt 18, 3) := by decide +kernel
theorem d_Mem_holds_6 : decode b_Mem_holds 6 = .ok (.lload_n 1, 1) := by decide +kernel
theorem d_Mem_holds_7 : decode b_Mem_holds 7 = .ok (.sipush 4096, 3) := by decide +kernel
theorem d_Mem_holds_10 : decode b_Mem_holds 10 = .ok (.iload_n 3, 1) := by decide +kernel
theorem d_Mem_holds_11 : decode b_Mem_holds 11 = .ok (.isub, 1) := by decide +kernel
theorem d_Mem_holds_12 : decode b_Mem_holds 12 = .ok (.i2l, 1) := by decide +kernel
theorem d_Mem_holds_13 : decode b_Mem_holds 13 = .ok (.lcmp, 1) := by decide +kernel
theorem d_Mem_holds_14 : decode b_Mem_holds 14 = .ok (.ifCond .gt 7, 3) := by decide +kernel
theorem d_Mem_holds_17 : decode b_Mem_holds 17 = .ok (.iconst 1, 1) := by decide +kernel
theorem d_Mem_holds_18 : decode b_Mem_holds 18 = .ok (.goto 4, 3) := by decide +kernel
theorem d_Mem_holds_21 : decode b_Mem_holds 21 = .ok (.iconst 0, 1) := by decide +kernel
theorem d_Mem_holds_22 : decode b_Mem_holds 22 = .ok (.ireturn, 1) := by decide +kernel
theorem d_Mem_instruction_0 : decode b_Mem_instruction 0 = .ok (.iconst 0, 1) := by decide +kernel
theorem d_Mem_instruction_1 : decode b_Mem_instruction 1 = .ok (.istore_n 3, 1) := by decide +kernel
theorem d_Mem_instruction_2 : decode b_Mem_instruction 2 = .ok (.iconst 0, 1) := by decide +kernel
theorem d_Mem_instruction_3 : decode b_Mem_instruction 3 = .ok (.istore 4, 2) := by decide +kernel
theorem d_Mem_instruction_5 : decode b_Mem_instruction 5 = .ok (.iload 4, 2) := by decide +kernel
theorem d_Mem_instruction_7 : decode b_Mem_instruction 7 = .ok (.iconst 4, 1) := by decide +kernel
theorem d_Mem_instruction_8 : decode b_Mem_instruction 8 = .ok (.if_icmp .ge 26, 3) := by decide +kernel
theorem d_Mem_instruction_11 : decode b_Mem_instruction 11 = .ok (.iload_n 3, 1) := by decide +kernel
theorem d_Mem_instruction_12 : decode b_Mem_instruction 12 = .ok (.bipush 8, 2) := by decide +kernel
theorem d_Mem_instruction_14 : decode b_Mem_instruction 14 = .ok (.ishl, 1) := by decide +kernel
theorem d_Mem_instruction_15 : decode b_Mem_instruction 15 = .ok (.aload_n 0, 1) := by decide +kernel
theorem d_Mem_instruction_16 : decode b_Mem_instruction 16 = .ok (.lload_n 1, 1) := by decide +kernel
theorem d_Mem_instruction_17 : decode b_Mem_instruction 17 = .ok (.iload 4, 2) := by decide +kernel
theorem d_Mem_instruction_19 : decode b_Mem_instruction 19 = .ok (.i2l, 1) := by decide +kernel
theorem d_Mem_instruction_20 : decode b_Mem_instruction 20 = .ok (.ladd, 1) := by decide +kernel
theorem d_Mem_instruction_21 : decode b_Mem_instruction 21 = .ok (.iconst 1, 1) := by decide +kernel
theorem d_Mem_instruction_22 : decode b_Mem_instruction 22 = .ok (.invokevirtual 27, 3) := by decide +kernel
theorem d_Mem_instruction_25 : decode b_Mem_instruction 25 = .ok (.l2i, 1) := by decide +kernel
theorem d_Mem_instruction_26 : decode b_Mem_instruction 26 = .ok (.ior, 1) := by decide +kernel
theorem d_Mem_instruction_27 : decode b_Mem_instruction 27 = .ok (.istore_n 3, 1) := by decide +kernel
theorem d_Mem_instruction_28 : decode b_Mem_instruction 28 = .ok (.iinc 4 1, 3) := by decide +kernel
theorem d_Mem_instruction_31 : decode b_Mem_instruction 31 = .ok (.goto (-26), 3) := by decide +kernel
theorem d_Mem_instruction_34 : decode b_Mem_instruction 34 = .ok (.iload_n 3, 1) := by decide +kernel
theorem d_Mem_instruction_35 : decode b_Mem_instruction 35 = .ok (.ireturn, 1) := by decide +kernel
theorem d_Mem_mask_0 : decode b_Mem_mask 0 = .ok (.ldc2_w 25, 3) := by decide +kernel
theorem d_Mem_mask_3 : decode b_Mem_mask 3 = .ok (.bipush 64, 2) := by decide +kernel
theorem d_Mem_mask_5 : decode b_Mem_mask 5 = .ok (.bipush 8, 2) := by decide +kernel
theorem d_Mem_mask_7 : decode b_Mem_mask 7 = .ok (.iload_n 0, 1) := by decide +kernel
theorem d_Mem_mask_8 : decode b_Mem_mask 8 = .ok (.imul, 1) := by decide +kernel
theorem d_Mem_mask_9 : decode b_Mem_mask 9 = .ok (.isub, 1) := by decide +kernel
theorem d_Mem_mask_10 : decode b_Mem_mask 10 = .ok (.lushr, 1) := by decide +kernel
theorem d_Mem_mask_11 : decode b_Mem_mask 11 = .ok (.lreturn, 1) := by decide +kernel
theorem d_Mem_read_0 : decode b_Mem_read 0 = .ok (.aload_n 0, 1) := by decide +kernel
theorem d_Mem_read_1 : decode b_Mem_read 1 = .ok (.lload_n 1, 1) := by decide +kernel
theorem d_Mem_read_2 : decode b_Mem_read 2 = .ok (.iload_n 3, 1) := by decide +kernel
theorem d_Mem_read_3 : decode b_Mem_read 3 = .ok (.invokevirtual 13, 3) := by decide +kernel
theorem d_Mem_read_6 : decode b_Mem_read 6 = .ok (.ifCond .ne 5, 3) := by decide +kernel
theorem d_Mem_read_9 : decode b_Mem_read 9 = .ok (.lconst 0, 1) := by decide +kernel
theorem d_Mem_read_10 : decode b_Mem_read 10 = .ok (.lreturn, 1) := by decide +kernel
theorem d_Mem_read_11 : decode b_Mem_read 11 = .ok (.aload_n 0, 1) := by decide +kernel
theorem d_Mem_read_12 : decode b_Mem_read 12 = .ok (.getfield 9, 3) := by decide +kernel
theorem d_Mem_read_15 : decode b_Mem_read 15 = .ok (.lload_n 1, 1) := by decide +kernel
theorem d_Mem_read_16 : decode b_Mem_read 16 = .ok (.iconst 3, 1) := by decide +kernel
theorem d_Mem_read_17 : decode b_Mem_read 17 = .ok (.lshr, 1) := by decide +kernel
theorem d_Mem_read_18 : decode b_Mem_read 18 = .ok (.l2i, 1) := by decide +kernel
theorem d_Mem_read_19 : decode b_Mem_read 19 = .ok (.laload, 1) := by decide +kernel
theorem d_Mem_read_20 : decode b_Mem_read 20 = .ok (.lload_n 1, 1) := by decide +kernel
theorem d_Mem_read_21 : decode b_Mem_read 21 = .ok (.iload_n 3, 1) := by decide +kernel
theorem d_Mem_read_22 : decode b_Mem_read 22 = .ok (.invokestatic 17, 3) := by decide +kernel
theorem d_Mem_read_25 : decode b_Mem_read 25 = .ok (.lushr, 1) := by decide +kernel
theorem d_Mem_read_26 : decode b_Mem_read 26 = .ok (.iload_n 3, 1) := by decide +kernel
theorem d_Mem_read_27 : decode b_Mem_read 27 = .ok (.invokestatic 21, 3) := by decide +kernel
theorem d_Mem_read_30 : decode b_Mem_read 30 = .ok (.land, 1) := by decide +kernel
theorem d_Mem_read_31 : decode b_Mem_read 31 = .ok (.lreturn, 1) := by decide +kernel
theorem d_Mem_shift_0 : decode b_Mem_shift 0 = .ok (.bipush 64, 2) := by decide +kernel
theorem d_Mem_shift_2 : decode b_Mem_shift 2 = .ok (.bipush 8, 2) := by decide +kernel
theorem d_Mem_shift_4 : decode b_Mem_shift 4 = .ok (.iload_n 2, 1) := by decide +kernel
theorem d_Mem_shift_5 : decode b_Mem_shift 5 = .ok (.imul, 1) := by decide +kernel
theorem d_Mem_shift_6 : decode b_Mem_shift 6 = .ok (.isub, 1) := by decide +kernel
theorem d_Mem_shift_7 : decode b_Mem_shift 7 = .ok (.bipush 8, 2) := by decide +kernel
theorem d_Mem_shift_9 : decode b_Mem_shift 9 = .ok (.lload_n 0, 1) := by decide +kernel
theorem d_Mem_shift_10 : decode b_Mem_shift 10 = .ok (.ldc2_w 37, 3) := by decide +kernel
theorem d_Mem_shift_13 : decode b_Mem_shift 13 = .ok (.land, 1) := by decide +kernel
theorem d_Mem_shift_14 : decode b_Mem_shift 14 = .ok (.iload_n 2, 1) := by decide +kernel
theorem d_Mem_shift_15 : decode b_Mem_shift 15 = .ok (.ineg, 1) := by decide +kernel
theorem d_Mem_shift_16 : decode b_Mem_shift 16 = .ok (.i2l, 1) := by decide +kernel
theorem d_Mem_shift_17 : decode b_Mem_shift 17 = .ok (.land, 1) := by decide +kernel
theorem d_Mem_shift_18 : decode b_Mem_shift 18 = .ok (.l2i, 1) := by decide +kernel
theorem d_Mem_shift_19 : decode b_Mem_shift 19 = .ok (.imul, 1) := by decide +kernel
theorem d_Mem_shift_20 : decode b_Mem_shift 20 = .ok (.isub, 1) := by decide +kernel
theorem d_Mem_shift_21 : decode b_Mem_shift 21 = .ok (.ireturn, 1) := by decide +kernel
theorem d_Mem_write_0 : decode b_Mem_write 0 = .ok (.aload_n 0, 1) := by decide +kernel
theorem d_Mem_write_1 : decode b_Mem_write 1 = .ok (.lload_n 1, 1) := by decide +kernel
theorem d_Mem_write_2 : decode b_Mem_write 2 = .ok (.iload_n 3, 1) := by decide +kernel
theorem d_Mem_write_3 : decode b_Mem_write 3 = .ok (.invokevirtual 13, 3) := by decide +kernel
theorem d_Mem_write_6 : decode b_Mem_write 6 = .ok (.ifCond .ne 4, 3) := by decide +kernel
theorem d_Mem_write_9 : decode b_Mem_write 9 = .ok (.return_, 1) := by decide +kernel
theorem d_Mem_write_10 : decode b_Mem_write 10 = .ok (.lload_n 1, 1) := by decide +kernel
theorem d_Mem_write_11 : decode b_Mem_write 11 = .ok (.iconst 3, 1) := by decide +kernel
theorem d_Mem_write_12 : decode b_Mem_write 12 = .ok (.lshr, 1) := by decide +kernel
theorem d_Mem_write_13 : decode b_Mem_write 13 = .ok (.l2i, 1) := by decide +kernel
theorem d_Mem_write_14 : decode b_Mem_write 14 = .ok (.istore 6, 2) := by decide +kernel
theorem d_Mem_write_16 : decode b_Mem_write 16 = .ok (.lload_n 1, 1) := by decide +kernel
theorem d_Mem_write_17 : decode b_Mem_write 17 = .ok (.iload_n 3, 1) := by decide +kernel
theorem d_Mem_write_18 : decode b_Mem_write 18 = .ok (.invokestatic 17, 3) := by decide +kernel
theorem d_Mem_write_21 : decode b_Mem_write 21 = .ok (.istore 7, 2) := by decide +kernel
theorem d_Mem_write_23 : decode b_Mem_write 23 = .ok (.aload_n 0, 1) := by decide +kernel
theorem d_Mem_write_24 : decode b_Mem_write 24 = .ok (.getfield 9, 3) := by decide +kernel
theorem d_Mem_write_27 : decode b_Mem_write 27 = .ok (.iload 6, 2) := by decide +kernel
theorem d_Mem_write_29 : decode b_Mem_write 29 = .ok (.aload_n 0, 1) := by decide +kernel
theorem d_Mem_write_30 : decode b_Mem_write 30 = .ok (.getfield 9, 3) := by decide +kernel
theorem d_Mem_write_33 : decode b_Mem_write 33 = .ok (.iload 6, 2) := by decide +kernel
theorem d_Mem_write_35 : decode b_Mem_write 35 = .ok (.laload, 1) := by decide +kernel
theorem d_Mem_write_36 : decode b_Mem_write 36 = .ok (.iload_n 3, 1) := by decide +kernel
theorem d_Mem_write_37 : decode b_Mem_write 37 = .ok (.invokestatic 21, 3) := by decide +kernel
theorem d_Mem_write_40 : decode b_Mem_write 40 = .ok (.iload 7, 2) := by decide +kernel
theorem d_Mem_write_42 : decode b_Mem_write 42 = .ok (.lshl, 1) := by decide +kernel
theorem d_Mem_write_43 : decode b_Mem_write 43 = .ok (.ldc2_w 25, 3) := by decide +kernel
theorem d_Mem_write_46 : decode b_Mem_write 46 = .ok (.lxor, 1) := by decide +kernel
theorem d_Mem_write_47 : decode b_Mem_write 47 = .ok (.land, 1) := by decide +kernel
theorem d_Mem_write_48 : decode b_Mem_write 48 = .ok (.lload 4, 2) := by decide +kernel
theorem d_Mem_write_50 : decode b_Mem_write 50 = .ok (.iload_n 3, 1) := by decide +kernel
theorem d_Mem_write_51 : decode b_Mem_write 51 = .ok (.invokestatic 21, 3) := by decide +kernel
theorem d_Mem_write_54 : decode b_Mem_write 54 = .ok (.land, 1) := by decide +kernel
theorem d_Mem_write_55 : decode b_Mem_write 55 = .ok (.iload 7, 2) := by decide +kernel
theorem d_Mem_write_57 : decode b_Mem_write 57 = .ok (.lshl, 1) := by decide +kernel
theorem d_Mem_write_58 : decode b_Mem_write 58 = .ok (.lor, 1) := by decide +kernel
theorem d_Mem_write_59 : decode b_Mem_write 59 = .ok (.lastore, 1) := by decide +kernel
theorem d_Mem_write_60 : decode b_Mem_write 60 = .ok (.return_, 1) := by decide +kernel
