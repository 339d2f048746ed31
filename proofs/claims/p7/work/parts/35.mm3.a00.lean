abbrev b_Mod_memoryStep : ByteArray := prog_14_method_65_code
abbrev b_Mod_pop : ByteArray := prog_14_method_67_code
abbrev b_Mod_push : ByteArray := prog_14_method_66_code
abbrev b_Mod_reckon : ByteArray := prog_14_method_59_code
abbrev b_Mod_trip : ByteArray := prog_14_method_63_code
abbrev b_Mod_wide : ByteArray := prog_14_method_64_code
abbrev y_Mod_memoryStep : MethodName := ⟨"LittleMixModel", "memoryStep", "(IIJJ)I"⟩
abbrev y_Mod_pop : MethodName := ⟨"LittleMixModel", "pop", "(I)V"⟩
abbrev y_Mod_push : MethodName := ⟨"LittleMixModel", "push", "(I)Z"⟩
abbrev y_Mod_reckon : MethodName := ⟨"LittleMixModel", "reckon", "(IJJ)J"⟩
abbrev y_Mod_trip : MethodName := ⟨"LittleMixModel", "trip", "(JJJJ)J"⟩
abbrev y_Mod_wide : MethodName := ⟨"LittleMixModel", "wide", "(IIJ)V"⟩
theorem p_Mod_get : y_Mod_get.cls ≠ "java/lang/invoke/MethodHandle" ∧ y_Mod_get.cls ≠ "java/lang/invoke/VarHandle" ∧ (parseMethodDescriptor y_Mod_get.desc).map (fun d => d.parameters.length) = some 1 := by decide +kernel
theorem p_Mod_left : y_Mod_left.cls ≠ "java/lang/invoke/MethodHandle" ∧ y_Mod_left.cls ≠ "java/lang/invoke/VarHandle" ∧ (parseMethodDescriptor y_Mod_left.desc).map (fun d => d.parameters.length) = some 3 := by decide +kernel
theorem p_Mod_logic : y_Mod_logic.cls ≠ "java/lang/invoke/MethodHandle" ∧ y_Mod_logic.cls ≠ "java/lang/invoke/VarHandle" ∧ (parseMethodDescriptor y_Mod_logic.desc).map (fun d => d.parameters.length) = some 3 := by decide +kernel
theorem p_Mod_product : y_Mod_product.cls ≠ "java/lang/invoke/MethodHandle" ∧ y_Mod_product.cls ≠ "java/lang/invoke/VarHandle" ∧ (parseMethodDescriptor y_Mod_product.desc).map (fun d => d.parameters.length) = some 2 := by decide +kernel
theorem p_Mod_quotient : y_Mod_quotient.cls ≠ "java/lang/invoke/MethodHandle" ∧ y_Mod_quotient.cls ≠ "java/lang/invoke/VarHandle" ∧ (parseMethodDescriptor y_Mod_quotient.desc).map (fun d => d.parameters.length) = some 2 := by decide +kernel
theorem p_Mod_right : y_Mod_right.cls ≠ "java/lang/invoke/MethodHandle" ∧ y_Mod_right.cls ≠ "java/lang/invoke/VarHandle" ∧ (parseMethodDescriptor y_Mod_right.desc).map (fun d => d.parameters.length) = some 3 := by decide +kernel
theorem p_Mod_set : y_Mod_set.cls ≠ "java/lang/invoke/MethodHandle" ∧ y_Mod_set.cls ≠ "java/lang/invoke/VarHandle" ∧ (parseMethodDescriptor y_Mod_set.desc).map (fun d => d.parameters.length) = some 2 := by decide +kernel
theorem p_Mod_sum : y_Mod_sum.cls ≠ "java/lang/invoke/MethodHandle" ∧ y_Mod_sum.cls ≠ "java/lang/invoke/VarHandle" ∧ (parseMethodDescriptor y_Mod_sum.desc).map (fun d => d.parameters.length) = some 3 := by decide +kernel
theorem p_Mod_unsignedQuotient : y_Mod_unsignedQuotient.cls ≠ "java/lang/invoke/MethodHandle" ∧ y_Mod_unsignedQuotient.cls ≠ "java/lang/invoke/VarHandle" ∧ (parseMethodDescriptor y_Mod_unsignedQuotient.desc).map (fun d => d.parameters.length) = some 2 := by decide +kernel
theorem k_1021 : (Jvm.Cond.fieldLink "LittleMixModel" (382 : Nat) "LittleMixModel" "executed" "J") ∈ mx_T := List.mem_filter.mpr ⟨List.mem_append_right _ ((List.mem_append_right _ (List.mem_append_right _ (List.mem_append_right _ (List.mem_append_right _ (List.mem_append_left _ (List.mem_of_getElem? (l := tables_1_5) (i := 61) (by decide +kernel)))))))), rfl⟩
theorem k_1297 : (Jvm.Cond.methodLink "LittleMixModel" (385 : Nat) ({ cls := "LittleMixModel", name := "get", desc := "(I)J" } : Jvm.MethodName)) ∈ mx_T := List.mem_filter.mpr ⟨List.mem_append_right _ ((List.mem_append_right _ (List.mem_append_right _ (List.mem_append_right _ (List.mem_append_right _ (List.mem_append_right _ (List.mem_of_getElem? (l := tables_1_6) (i := 97) (by decide +kernel)))))))), rfl⟩
theorem k_1299 : (Jvm.Cond.instanceMethod ({ cls := "LittleMixModel", name := "get", desc := "(I)J" } : Jvm.MethodName)) ∈ mx_T := List.mem_filter.mpr ⟨List.mem_append_right _ ((List.mem_append_right _ (List.mem_append_right _ (List.mem_append_right _ (List.mem_append_right _ (List.mem_append_right _ (List.mem_of_getElem? (l := tables_1_6) (i := 99) (by decide +kernel)))))))), rfl⟩
theorem k_1300 : (Jvm.Cond.code ({ cls := "LittleMixModel", name := "get", desc := "(I)J" } : Jvm.MethodName) prog_14_method_41_code (2 : Nat) (Option.some Jvm.ClassFile.FieldType.long)) ∈ mx_T := List.mem_filter.mpr ⟨List.mem_append_right _ ((List.mem_append_right _ (List.mem_append_right _ (List.mem_append_right _ (List.mem_append_right _ (List.mem_append_right _ (List.mem_of_getElem? (l := tables_1_6) (i := 100) rfl))))))), rfl⟩
theorem k_1305 : (Jvm.Cond.methodLink "LittleMixModel" (393 : Nat) ({ cls := "LittleMixModel", name := "set", desc := "(IJ)V" } : Jvm.MethodName)) ∈ mx_T := List.mem_filter.mpr ⟨List.mem_append_right _ ((List.mem_append_right _ (List.mem_append_right _ (List.mem_append_right _ (List.mem_append_right _ (List.mem_append_right _ (List.mem_of_getElem? (l := tables_1_6) (i := 105) (by decide +kernel)))))))), rfl⟩
theorem k_1307 : (Jvm.Cond.instanceMethod ({ cls := "LittleMixModel", name := "set", desc := "(IJ)V" } : Jvm.MethodName)) ∈ mx_T := List.mem_filter.mpr ⟨List.mem_append_right _ ((List.mem_append_right _ (List.mem_append_right _ (List.mem_append_right _ (List.mem_append_right _ (List.mem_append_right _ (List.mem_of_getElem? (l := tables_1_6) (i := 107) (by decide +kernel)))))))), rfl⟩
theorem k_1308 : (Jvm.Cond.code ({ cls := "LittleMixModel", name := "set", desc := "(IJ)V" } : Jvm.MethodName) prog_14_method_42_code (4 : Nat) (Option.none : Option Jvm.ClassFile.FieldType)) ∈ mx_T := List.mem_filter.mpr ⟨List.mem_append_right _ ((List.mem_append_right _ (List.mem_append_right _ (List.mem_append_right _ (List.mem_append_right _ (List.mem_append_right _ (List.mem_of_getElem? (l := tables_1_6) (i := 108) rfl))))))), rfl⟩
theorem k_1313 : (Jvm.Cond.methodLink "LittleMixModel" (365 : Nat) ({ cls := "LittleMixModel", name := "sum", desc := "(JJZ)J" } : Jvm.MethodName)) ∈ mx_T := List.mem_filter.mpr ⟨List.mem_append_right _ ((List.mem_append_right _ (List.mem_append_right _ (List.mem_append_right _ (List.mem_append_right _ (List.mem_append_right _ (List.mem_of_getElem? (l := tables_1_6) (i := 113) (by decide +kernel)))))))), rfl⟩
theorem k_1315 : (Jvm.Cond.instanceMethod ({ cls := "LittleMixModel", name := "sum", desc := "(JJZ)J" } : Jvm.MethodName)) ∈ mx_T := List.mem_filter.mpr ⟨List.mem_append_right _ ((List.mem_append_right _ (List.mem_append_right _ (List.mem_append_right _ (List.mem_append_right _ (List.mem_append_right _ (List.mem_of_getElem? (l := tables_1_6) (i := 115) (by decide +kernel)))))))), rfl⟩
theorem k_1316 : (Jvm.Cond.code ({ cls := "LittleMixModel", name := "sum", desc := "(JJZ)J" } : Jvm.MethodName) prog_14_method_52_code (9 : Nat) (Option.some Jvm.ClassFile.FieldType.long)) ∈ mx_T := List.mem_filter.mpr ⟨List.mem_append_right _ ((List.mem_append_right _ (List.mem_append_right _ (List.mem_append_right _ (List.mem_append_right _ (List.mem_append_right _ (List.mem_of_getElem? (l := tables_1_6) (i := 116) rfl))))))), rfl⟩
theorem k_1321 : (Jvm.Cond.methodLink "LittleMixModel" (356 : Nat) ({ cls := "LittleMixModel", name := "product", desc := "(JJ)J" } : Jvm.MethodName)) ∈ mx_T := List.mem_filter.mpr ⟨List.mem_append_right _ ((List.mem_append_right _ (List.mem_append_right _ (List.mem_append_right _ (List.mem_append_right _ (List.mem_append_right _ (List.mem_of_getElem? (l := tables_1_6) (i := 121) (by decide +kernel)))))))), rfl⟩
theorem k_1323 : (Jvm.Cond.instanceMethod ({ cls := "LittleMixModel", name := "product", desc := "(JJ)J" } : Jvm.MethodName)) ∈ mx_T := List.mem_filter.mpr ⟨List.mem_append_right _ ((List.mem_append_right _ (List.mem_append_right _ (List.mem_append_right _ (List.mem_append_right _ (List.mem_append_right _ (List.mem_of_getElem? (l := tables_1_6) (i := 123) (by decide +kernel)))))))), rfl⟩
theorem k_1324 : (Jvm.Cond.code ({ cls := "LittleMixModel", name := "product", desc := "(JJ)J" } : Jvm.MethodName) prog_14_method_49_code (9 : Nat) (Option.some Jvm.ClassFile.FieldType.long)) ∈ mx_T := List.mem_filter.mpr ⟨List.mem_append_right _ ((List.mem_append_right _ (List.mem_append_right _ (List.mem_append_right _ (List.mem_append_right _ (List.mem_append_right _ (List.mem_of_getElem? (l := tables_1_6) (i := 124) rfl))))))), rfl⟩
theorem k_1337 : (Jvm.Cond.methodLink "LittleMixModel" (359 : Nat) ({ cls := "LittleMixModel", name := "quotient", desc := "(JJ)J" } : Jvm.MethodName)) ∈ mx_T := List.mem_filter.mpr ⟨List.mem_append_right _ ((List.mem_append_right _ (List.mem_append_right _ (List.mem_append_right _ (List.mem_append_right _ (List.mem_append_right _ (List.mem_of_getElem? (l := tables_1_6) (i := 137) (by decide +kernel)))))))), rfl⟩
theorem k_1339 : (Jvm.Cond.instanceMethod ({ cls := "LittleMixModel", name := "quotient", desc := "(JJ)J" } : Jvm.MethodName)) ∈ mx_T := List.mem_filter.mpr ⟨List.mem_append_right _ ((List.mem_append_right _ (List.mem_append_right _ (List.mem_append_right _ (List.mem_append_right _ (List.mem_append_right _ (List.mem_of_getElem? (l := tables_1_6) (i := 139) (by decide +kernel)))))))), rfl⟩
theorem k_1340 : (Jvm.Cond.code ({ cls := "LittleMixModel", name := "quotient", desc := "(JJ)J" } : Jvm.MethodName) prog_14_method_50_code (9 : Nat) (Option.some Jvm.ClassFile.FieldType.long)) ∈ mx_T := List.mem_filter.mpr ⟨List.mem_append_right _ ((List.mem_append_right _ (List.mem_append_right _ (List.mem_append_right _ (List.mem_append_right _ (List.mem_append_right _ (List.mem_of_getElem? (l := tables_1_6) (i := 140) rfl))))))), rfl⟩
theorem k_1346 : (Jvm.Cond.methodLink "LittleMixModel" (362 : Nat) ({ cls := "LittleMixModel", name := "unsignedQuotient", desc := "(JJ)J" } : Jvm.MethodName)) ∈ mx_T := List.mem_filter.mpr ⟨List.mem_append_right _ ((List.mem_append_right _ (List.mem_append_right _ (List.mem_append_right _ (List.mem_append_right _ (List.mem_append_right _ (List.mem_of_getElem? (l := tables_1_6) (i := 146) (by decide +kernel)))))))), rfl⟩
theorem k_1348 : (Jvm.Cond.instanceMethod ({ cls := "LittleMixModel", name := "unsignedQuotient", desc := "(JJ)J" } : Jvm.MethodName)) ∈ mx_T := List.mem_filter.mpr ⟨List.mem_append_right _ ((List.mem_append_right _ (List.mem_append_right _ (List.mem_append_right _ (List.mem_append_right _ (List.mem_append_right _ (List.mem_of_getElem? (l := tables_1_6) (i := 148) (by decide +kernel)))))))), rfl⟩
theorem k_1349 : (Jvm.Cond.code ({ cls := "LittleMixModel", name := "unsignedQuotient", desc := "(JJ)J" } : Jvm.MethodName) prog_14_method_51_code (9 : Nat) (Option.some Jvm.ClassFile.FieldType.long)) ∈ mx_T := List.mem_filter.mpr ⟨List.mem_append_right _ ((List.mem_append_right _ (List.mem_append_right _ (List.mem_append_right _ (List.mem_append_right _ (List.mem_append_right _ (List.mem_of_getElem? (l := tables_1_6) (i := 149) rfl))))))), rfl⟩
theorem k_1350 : (Jvm.Cond.methodLink "LittleMixModel" (368 : Nat) ({ cls := "LittleMixModel", name := "left", desc := "(JJZ)J" } : Jvm.MethodName)) ∈ mx_T := List.mem_filter.mpr ⟨List.mem_append_right _ ((List.mem_append_right _ (List.mem_append_right _ (List.mem_append_right _ (List.mem_append_right _ (List.mem_append_right _ (List.mem_of_getElem? (l := tables_1_6) (i := 150) (by decide +kernel)))))))), rfl⟩
theorem k_1352 : (Jvm.Cond.instanceMethod ({ cls := "LittleMixModel", name := "left", desc := "(JJZ)J" } : Jvm.MethodName)) ∈ mx_T := List.mem_filter.mpr ⟨List.mem_append_right _ ((List.mem_append_right _ (List.mem_append_right _ (List.mem_append_right _ (List.mem_append_right _ (List.mem_append_right _ (List.mem_of_getElem? (l := tables_1_6) (i := 152) (by decide +kernel)))))))), rfl⟩
theorem k_1353 : (Jvm.Cond.code ({ cls := "LittleMixModel", name := "left", desc := "(JJZ)J" } : Jvm.MethodName) prog_14_method_53_code (9 : Nat) (Option.some Jvm.ClassFile.FieldType.long)) ∈ mx_T := List.mem_filter.mpr ⟨List.mem_append_right _ ((List.mem_append_right _ (List.mem_append_right _ (List.mem_append_right _ (List.mem_append_right _ (List.mem_append_right _ (List.mem_of_getElem? (l := tables_1_6) (i := 153) rfl))))))), rfl⟩
theorem k_1355 : (Jvm.Cond.methodLink "LittleMixModel" (371 : Nat) ({ cls := "LittleMixModel", name := "right", desc := "(JJZ)J" } : Jvm.MethodName)) ∈ mx_T := List.mem_filter.mpr ⟨List.mem_append_right _ ((List.mem_append_right _ (List.mem_append_right _ (List.mem_append_right _ (List.mem_append_right _ (List.mem_append_right _ (List.mem_of_getElem? (l := tables_1_6) (i := 155) (by decide +kernel)))))))), rfl⟩
theorem k_1356 : (Jvm.Cond.static ({ cls := "LittleMixModel", name := "right", desc := "(JJZ)J" } : Jvm.MethodName)) ∈ mx_T := List.mem_filter.mpr ⟨List.mem_append_right _ ((List.mem_append_right _ (List.mem_append_right _ (List.mem_append_right _ (List.mem_append_right _ (List.mem_append_right _ (List.mem_of_getElem? (l := tables_1_6) (i := 156) (by decide +kernel)))))))), rfl⟩
theorem k_1357 : (Jvm.Cond.code ({ cls := "LittleMixModel", name := "right", desc := "(JJZ)J" } : Jvm.MethodName) prog_14_method_54_code (9 : Nat) (Option.some Jvm.ClassFile.FieldType.long)) ∈ mx_T := List.mem_filter.mpr ⟨List.mem_append_right _ ((List.mem_append_right _ (List.mem_append_right _ (List.mem_append_right _ (List.mem_append_right _ (List.mem_append_right _ (List.mem_of_getElem? (l := tables_1_6) (i := 157) rfl))))))), rfl⟩
theorem k_1358 : (Jvm.Cond.methodLink "LittleMixModel" (373 : Nat) ({ cls := "LittleMixModel", name := "logic", desc := "(IJJ)J" } : Jvm.MethodName)) ∈ mx_T := List.mem_filter.mpr ⟨List.mem_append_right _ ((List.mem_append_right _ (List.mem_append_right _ (List.mem_append_right _ (List.mem_append_right _ (List.mem_append_right _ (List.mem_of_getElem? (l := tables_1_6) (i := 158) (by decide +kernel)))))))), rfl⟩
theorem k_1360 : (Jvm.Cond.instanceMethod ({ cls := "LittleMixModel", name := "logic", desc := "(IJJ)J" } : Jvm.MethodName)) ∈ mx_T := List.mem_filter.mpr ⟨List.mem_append_right _ ((List.mem_append_right _ (List.mem_append_right _ (List.mem_append_right _ (List.mem_append_right _ (List.mem_append_right _ (List.mem_of_getElem? (l := tables_1_6) (i := 160) (by decide +kernel)))))))), rfl⟩
theorem k_1361 : (Jvm.Cond.code ({ cls := "LittleMixModel", name := "logic", desc := "(IJJ)J" } : Jvm.MethodName) prog_14_method_58_code (9 : Nat) (Option.some Jvm.ClassFile.FieldType.long)) ∈ mx_T := List.mem_filter.mpr ⟨List.mem_append_right _ ((List.mem_append_right _ (List.mem_append_right _ (List.mem_append_right _ (List.mem_append_right _ (List.mem_append_right _ (List.mem_of_getElem? (l := tables_1_6) (i := 161) rfl))))))), rfl⟩
theorem sl_Mod_product : Cond.selects y_Mod_product.cls y_Mod_product y_Mod_product ∈ mx_T := List.mem_filter.mpr ⟨List.mem_append_left _ (by decide +kernel), by decide +kernel⟩
theorem sl_Mod_logic : Cond.selects y_Mod_logic.cls y_Mod_logic y_Mod_logic ∈ mx_T := List.mem_filter.mpr ⟨List.mem_append_left _ (by decide +kernel), by decide +kernel⟩
theorem sl_Mod_quotient : Cond.selects y_Mod_quotient.cls y_Mod_quotient y_Mod_quotient ∈ mx_T := List.mem_filter.mpr ⟨List.mem_append_left _ (by decide +kernel), by decide +kernel⟩
theorem sl_Mod_unsignedQuotient : Cond.selects y_Mod_unsignedQuotient.cls y_Mod_unsignedQuotient y_Mod_unsignedQuotient ∈ mx_T := List.mem_filter.mpr ⟨List.mem_append_left _ (by decide +kernel), by decide +kernel⟩
theorem sl_Mod_sum : Cond.selects y_Mod_sum.cls y_Mod_sum y_Mod_sum ∈ mx_T := List.mem_filter.mpr ⟨List.mem_append_left _ (by decide +kernel), by decide +kernel⟩
theorem sl_Mod_left : Cond.selects y_Mod_left.cls y_Mod_left y_Mod_left ∈ mx_T := List.mem_filter.mpr ⟨List.mem_append_left _ (by decide +kernel), by decide +kernel⟩
theorem sl_Mod_get : Cond.selects y_Mod_get.cls y_Mod_get y_Mod_get ∈ mx_T := List.mem_filter.mpr ⟨List.mem_append_left _ (by decide +kernel), by decide +kernel⟩
theorem sl_Mod_set : Cond.selects y_Mod_set.cls y_Mod_set y_Mod_set ∈ mx_T := List.mem_filter.mpr ⟨List.mem_append_left _ (by decide +kernel), by decide +kernel⟩
theorem d_Mod_memoryStep_0 : decode b_Mod_memoryStep 0 = .ok (.iload_n 1, 1) := by decide +kernel
theorem d_Mod_memoryStep_1 : decode b_Mod_memoryStep 1 = .ok (.sipush 160, 3) := by decide +kernel
theorem d_Mod_memoryStep_4 : decode b_Mod_memoryStep 4 = .ok (.if_icmp .ge 7, 3) := by decide +kernel
theorem d_Mod_memoryStep_7 : decode b_Mod_memoryStep 7 = .ok (.iconst 1, 1) := by decide +kernel
theorem d_Mod_memoryStep_8 : decode b_Mod_memoryStep 8 = .ok (.goto 4, 3) := by decide +kernel
theorem d_Mod_memoryStep_11 : decode b_Mod_memoryStep 11 = .ok (.iconst 0, 1) := by decide +kernel
theorem d_Mod_memoryStep_12 : decode b_Mod_memoryStep 12 = .ok (.istore 7, 2) := by decide +kernel
theorem d_Mod_memoryStep_14 : decode b_Mod_memoryStep 14 = .ok (.iload_n 1, 1) := by decide +kernel
theorem d_Mod_memoryStep_15 : decode b_Mod_memoryStep 15 = .ok (.sipush 180, 3) := by decide +kernel
theorem d_Mod_memoryStep_18 : decode b_Mod_memoryStep 18 = .ok (.if_icmp .ne 8, 3) := by decide +kernel
theorem d_Mod_memoryStep_21 : decode b_Mod_memoryStep 21 = .ok (.bipush 8, 2) := by decide +kernel
theorem d_Mod_memoryStep_23 : decode b_Mod_memoryStep 23 = .ok (.goto 23, 3) := by decide +kernel
theorem d_Mod_memoryStep_26 : decode b_Mod_memoryStep 26 = .ok (.iconst 1, 1) := by decide +kernel
theorem d_Mod_memoryStep_27 : decode b_Mod_memoryStep 27 = .ok (.iload_n 1, 1) := by decide +kernel
theorem d_Mod_memoryStep_28 : decode b_Mod_memoryStep 28 = .ok (.iload 7, 2) := by decide +kernel
theorem d_Mod_memoryStep_30 : decode b_Mod_memoryStep 30 = .ok (.ifCond .eq 9, 3) := by decide +kernel
theorem d_Mod_memoryStep_33 : decode b_Mod_memoryStep 33 = .ok (.sipush 128, 3) := by decide +kernel
theorem d_Mod_memoryStep_36 : decode b_Mod_memoryStep 36 = .ok (.goto 6, 3) := by decide +kernel
theorem d_Mod_memoryStep_39 : decode b_Mod_memoryStep 39 = .ok (.sipush 160, 3) := by decide +kernel
theorem d_Mod_memoryStep_42 : decode b_Mod_memoryStep 42 = .ok (.isub, 1) := by decide +kernel
theorem d_Mod_memoryStep_43 : decode b_Mod_memoryStep 43 = .ok (.iconst 4, 1) := by decide +kernel
theorem d_Mod_memoryStep_44 : decode b_Mod_memoryStep 44 = .ok (.idiv, 1) := by decide +kernel
theorem d_Mod_memoryStep_45 : decode b_Mod_memoryStep 45 = .ok (.ishl, 1) := by decide +kernel
theorem d_Mod_memoryStep_46 : decode b_Mod_memoryStep 46 = .ok (.istore 8, 2) := by decide +kernel
theorem d_Mod_memoryStep_48 : decode b_Mod_memoryStep 48 = .ok (.iload_n 1, 1) := by decide +kernel
theorem d_Mod_memoryStep_49 : decode b_Mod_memoryStep 49 = .ok (.sipush 180, 3) := by decide +kernel
theorem d_Mod_memoryStep_52 : decode b_Mod_memoryStep 52 = .ok (.if_icmp .eq 20, 3) := by decide +kernel
theorem d_Mod_memoryStep_55 : decode b_Mod_memoryStep 55 = .ok (.iload_n 1, 1) := by decide +kernel
theorem d_Mod_memoryStep_56 : decode b_Mod_memoryStep 56 = .ok (.iconst 4, 1) := by decide +kernel
theorem d_Mod_memoryStep_57 : decode b_Mod_memoryStep 57 = .ok (.irem, 1) := by decide +kernel
theorem d_Mod_memoryStep_58 : decode b_Mod_memoryStep 58 = .ok (.ifCond .ne 14, 3) := by decide +kernel
theorem d_Mod_memoryStep_61 : decode b_Mod_memoryStep 61 = .ok (.iload 8, 2) := by decide +kernel
theorem d_Mod_memoryStep_63 : decode b_Mod_memoryStep 63 = .ok (.bipush 8, 2) := by decide +kernel
theorem d_Mod_memoryStep_65 : decode b_Mod_memoryStep 65 = .ok (.if_icmp .ge 7, 3) := by decide +kernel
theorem d_Mod_memoryStep_68 : decode b_Mod_memoryStep 68 = .ok (.iconst 1, 1) := by decide +kernel
theorem d_Mod_memoryStep_69 : decode b_Mod_memoryStep 69 = .ok (.goto 4, 3) := by decide +kernel
theorem d_Mod_memoryStep_72 : decode b_Mod_memoryStep 72 = .ok (.iconst 0, 1) := by decide +kernel
theorem d_Mod_memoryStep_73 : decode b_Mod_memoryStep 73 = .ok (.istore 9, 2) := by decide +kernel
theorem d_Mod_memoryStep_75 : decode b_Mod_memoryStep 75 = .ok (.lload_n 3, 1) := by decide +kernel
theorem d_Mod_memoryStep_76 : decode b_Mod_memoryStep 76 = .ok (.lload 5, 2) := by decide +kernel
theorem d_Mod_memoryStep_78 : decode b_Mod_memoryStep 78 = .ok (.ladd, 1) := by decide +kernel
theorem d_Mod_memoryStep_79 : decode b_Mod_memoryStep 79 = .ok (.iload 8, 2) := by decide +kernel
theorem d_Mod_memoryStep_81 : decode b_Mod_memoryStep 81 = .ok (.ineg, 1) := by decide +kernel
theorem d_Mod_memoryStep_82 : decode b_Mod_memoryStep 82 = .ok (.i2l, 1) := by decide +kernel
theorem d_Mod_memoryStep_83 : decode b_Mod_memoryStep 83 = .ok (.land, 1) := by decide +kernel
theorem d_Mod_memoryStep_84 : decode b_Mod_memoryStep 84 = .ok (.lstore 10, 2) := by decide +kernel
theorem d_Mod_memoryStep_86 : decode b_Mod_memoryStep 86 = .ok (.lload 10, 2) := by decide +kernel
theorem d_Mod_memoryStep_88 : decode b_Mod_memoryStep 88 = .ok (.lconst 0, 1) := by decide +kernel
theorem d_Mod_memoryStep_89 : decode b_Mod_memoryStep 89 = .ok (.lcmp, 1) := by decide +kernel
theorem d_Mod_memoryStep_90 : decode b_Mod_memoryStep 90 = .ok (.ifCond .lt 16, 3) := by decide +kernel
theorem d_Mod_memoryStep_93 : decode b_Mod_memoryStep 93 = .ok (.lload 10, 2) := by decide +kernel
theorem d_Mod_memoryStep_95 : decode b_Mod_memoryStep 95 = .ok (.sipush 4096, 3) := by decide +kernel
theorem d_Mod_memoryStep_98 : decode b_Mod_memoryStep 98 = .ok (.iload 8, 2) := by decide +kernel
theorem d_Mod_memoryStep_100 : decode b_Mod_memoryStep 100 = .ok (.isub, 1) := by decide +kernel
theorem d_Mod_memoryStep_101 : decode b_Mod_memoryStep 101 = .ok (.i2l, 1) := by decide +kernel
theorem d_Mod_memoryStep_102 : decode b_Mod_memoryStep 102 = .ok (.lcmp, 1) := by decide +kernel
theorem d_Mod_memoryStep_103 : decode b_Mod_memoryStep 103 = .ok (.ifCond .le 5, 3) := by decide +kernel
theorem d_Mod_memoryStep_106 : decode b_Mod_memoryStep 106 = .ok (.iconst 4, 1) := by decide +kernel
theorem d_Mod_memoryStep_107 : decode b_Mod_memoryStep 107 = .ok (.ireturn, 1) := by decide +kernel
theorem d_Mod_memoryStep_108 : decode b_Mod_memoryStep 108 = .ok (.lload 10, 2) := by decide +kernel
theorem d_Mod_memoryStep_110 : decode b_Mod_memoryStep 110 = .ok (.l2i, 1) := by decide +kernel
theorem d_Mod_memoryStep_111 : decode b_Mod_memoryStep 111 = .ok (.istore 12, 2) := by decide +kernel
theorem d_Mod_memoryStep_113 : decode b_Mod_memoryStep 113 = .ok (.iload 7, 2) := by decide +kernel
theorem d_Mod_memoryStep_115 : decode b_Mod_memoryStep 115 = .ok (.ifCond .eq 74, 3) := by decide +kernel
theorem d_Mod_memoryStep_118 : decode b_Mod_memoryStep 118 = .ok (.iload 9, 2) := by decide +kernel
theorem d_Mod_memoryStep_120 : decode b_Mod_memoryStep 120 = .ok (.ifCond .eq 21, 3) := by decide +kernel
theorem d_Mod_memoryStep_123 : decode b_Mod_memoryStep 123 = .ok (.aload_n 0, 1) := by decide +kernel
theorem d_Mod_memoryStep_124 : decode b_Mod_memoryStep 124 = .ok (.getfield 37, 3) := by decide +kernel
theorem d_Mod_memoryStep_127 : decode b_Mod_memoryStep 127 = .ok (.iload 12, 2) := by decide +kernel
theorem d_Mod_memoryStep_129 : decode b_Mod_memoryStep 129 = .ok (.iaload, 1) := by decide +kernel
theorem d_Mod_memoryStep_130 : decode b_Mod_memoryStep 130 = .ok (.bipush 127, 2) := by decide +kernel
theorem d_Mod_memoryStep_132 : decode b_Mod_memoryStep 132 = .ok (.if_icmp .le 9, 3) := by decide +kernel
theorem d_Mod_memoryStep_135 : decode b_Mod_memoryStep 135 = .ok (.ldc2_w 301, 3) := by decide +kernel
theorem d_Mod_memoryStep_138 : decode b_Mod_memoryStep 138 = .ok (.goto 4, 3) := by decide +kernel
theorem d_Mod_memoryStep_141 : decode b_Mod_memoryStep 141 = .ok (.lconst 0, 1) := by decide +kernel
theorem d_Mod_memoryStep_142 : decode b_Mod_memoryStep 142 = .ok (.lstore 13, 2) := by decide +kernel
theorem d_Mod_memoryStep_144 : decode b_Mod_memoryStep 144 = .ok (.iconst 0, 1) := by decide +kernel
theorem d_Mod_memoryStep_145 : decode b_Mod_memoryStep 145 = .ok (.istore 15, 2) := by decide +kernel
theorem d_Mod_memoryStep_147 : decode b_Mod_memoryStep 147 = .ok (.iload 15, 2) := by decide +kernel
theorem d_Mod_memoryStep_149 : decode b_Mod_memoryStep 149 = .ok (.iload 8, 2) := by decide +kernel
theorem d_Mod_memoryStep_151 : decode b_Mod_memoryStep 151 = .ok (.if_icmp .ge 28, 3) := by decide +kernel
theorem d_Mod_memoryStep_154 : decode b_Mod_memoryStep 154 = .ok (.lload 13, 2) := by decide +kernel
theorem d_Mod_memoryStep_156 : decode b_Mod_memoryStep 156 = .ok (.bipush 8, 2) := by decide +kernel
theorem d_Mod_memoryStep_158 : decode b_Mod_memoryStep 158 = .ok (.lshl, 1) := by decide +kernel
theorem d_Mod_memoryStep_159 : decode b_Mod_memoryStep 159 = .ok (.aload_n 0, 1) := by decide +kernel
theorem d_Mod_memoryStep_160 : decode b_Mod_memoryStep 160 = .ok (.getfield 37, 3) := by decide +kernel
theorem d_Mod_memoryStep_163 : decode b_Mod_memoryStep 163 = .ok (.iload 12, 2) := by decide +kernel
theorem d_Mod_memoryStep_165 : decode b_Mod_memoryStep 165 = .ok (.iload 15, 2) := by decide +kernel
theorem d_Mod_memoryStep_167 : decode b_Mod_memoryStep 167 = .ok (.iadd, 1) := by decide +kernel
theorem d_Mod_memoryStep_168 : decode b_Mod_memoryStep 168 = .ok (.iaload, 1) := by decide +kernel
theorem d_Mod_memoryStep_169 : decode b_Mod_memoryStep 169 = .ok (.i2l, 1) := by decide +kernel
theorem d_Mod_memoryStep_170 : decode b_Mod_memoryStep 170 = .ok (.lor, 1) := by decide +kernel
theorem d_Mod_memoryStep_171 : decode b_Mod_memoryStep 171 = .ok (.lstore 13, 2) := by decide +kernel
theorem d_Mod_memoryStep_173 : decode b_Mod_memoryStep 173 = .ok (.iinc 15 1, 3) := by decide +kernel
theorem d_Mod_memoryStep_176 : decode b_Mod_memoryStep 176 = .ok (.goto (-29), 3) := by decide +kernel
theorem d_Mod_memoryStep_179 : decode b_Mod_memoryStep 179 = .ok (.aload_n 0, 1) := by decide +kernel
theorem d_Mod_memoryStep_180 : decode b_Mod_memoryStep 180 = .ok (.iload_n 2, 1) := by decide +kernel
theorem d_Mod_memoryStep_181 : decode b_Mod_memoryStep 181 = .ok (.lload 13, 2) := by decide +kernel
theorem d_Mod_memoryStep_183 : decode b_Mod_memoryStep 183 = .ok (.invokevirtual 393, 3) := by decide +kernel
theorem d_Mod_memoryStep_186 : decode b_Mod_memoryStep 186 = .ok (.goto 112, 3) := by decide +kernel
theorem d_Mod_memoryStep_189 : decode b_Mod_memoryStep 189 = .ok (.iload_n 1, 1) := by decide +kernel
theorem d_Mod_memoryStep_190 : decode b_Mod_memoryStep 190 = .ok (.sipush 180, 3) := by decide +kernel
theorem d_Mod_memoryStep_193 : decode b_Mod_memoryStep 193 = .ok (.if_icmp .ne 8, 3) := by decide +kernel
theorem d_Mod_memoryStep_196 : decode b_Mod_memoryStep 196 = .ok (.iload_n 2, 1) := by decide +kernel
theorem d_Mod_memoryStep_197 : decode b_Mod_memoryStep 197 = .ok (.i2l, 1) := by decide +kernel
theorem d_Mod_memoryStep_198 : decode b_Mod_memoryStep 198 = .ok (.goto 8, 3) := by decide +kernel
theorem d_Mod_memoryStep_201 : decode b_Mod_memoryStep 201 = .ok (.aload_n 0, 1) := by decide +kernel
theorem d_Mod_memoryStep_202 : decode b_Mod_memoryStep 202 = .ok (.iload_n 2, 1) := by decide +kernel
theorem d_Mod_memoryStep_203 : decode b_Mod_memoryStep 203 = .ok (.invokevirtual 385, 3) := by decide +kernel
theorem d_Mod_memoryStep_206 : decode b_Mod_memoryStep 206 = .ok (.lstore 13, 2) := by decide +kernel
theorem d_Mod_memoryStep_208 : decode b_Mod_memoryStep 208 = .ok (.iconst 0, 1) := by decide +kernel
theorem d_Mod_memoryStep_209 : decode b_Mod_memoryStep 209 = .ok (.istore 15, 2) := by decide +kernel
theorem d_Mod_memoryStep_211 : decode b_Mod_memoryStep 211 = .ok (.iload 15, 2) := by decide +kernel
theorem d_Mod_memoryStep_213 : decode b_Mod_memoryStep 213 = .ok (.iload 8, 2) := by decide +kernel
theorem d_Mod_memoryStep_215 : decode b_Mod_memoryStep 215 = .ok (.if_icmp .ge 37, 3) := by decide +kernel
theorem d_Mod_memoryStep_218 : decode b_Mod_memoryStep 218 = .ok (.aload_n 0, 1) := by decide +kernel
theorem d_Mod_memoryStep_219 : decode b_Mod_memoryStep 219 = .ok (.getfield 37, 3) := by decide +kernel
theorem d_Mod_memoryStep_222 : decode b_Mod_memoryStep 222 = .ok (.iload 12, 2) := by decide +kernel
theorem d_Mod_memoryStep_224 : decode b_Mod_memoryStep 224 = .ok (.iload 15, 2) := by decide +kernel
theorem d_Mod_memoryStep_226 : decode b_Mod_memoryStep 226 = .ok (.iadd, 1) := by decide +kernel
theorem d_Mod_memoryStep_227 : decode b_Mod_memoryStep 227 = .ok (.lload 13, 2) := by decide +kernel
theorem d_Mod_memoryStep_229 : decode b_Mod_memoryStep 229 = .ok (.bipush 8, 2) := by decide +kernel
theorem d_Mod_memoryStep_231 : decode b_Mod_memoryStep 231 = .ok (.iload 8, 2) := by decide +kernel
theorem d_Mod_memoryStep_233 : decode b_Mod_memoryStep 233 = .ok (.iconst 1, 1) := by decide +kernel
theorem d_Mod_memoryStep_234 : decode b_Mod_memoryStep 234 = .ok (.isub, 1) := by decide +kernel
theorem d_Mod_memoryStep_235 : decode b_Mod_memoryStep 235 = .ok (.iload 15, 2) := by decide +kernel
theorem d_Mod_memoryStep_237 : decode b_Mod_memoryStep 237 = .ok (.isub, 1) := by decide +kernel
theorem d_Mod_memoryStep_238 : decode b_Mod_memoryStep 238 = .ok (.imul, 1) := by decide +kernel
theorem d_Mod_memoryStep_239 : decode b_Mod_memoryStep 239 = .ok (.lshr, 1) := by decide +kernel
theorem d_Mod_memoryStep_240 : decode b_Mod_memoryStep 240 = .ok (.l2i, 1) := by decide +kernel
theorem d_Mod_memoryStep_241 : decode b_Mod_memoryStep 241 = .ok (.sipush 255, 3) := by decide +kernel
theorem d_Mod_memoryStep_244 : decode b_Mod_memoryStep 244 = .ok (.iand, 1) := by decide +kernel
theorem d_Mod_memoryStep_245 : decode b_Mod_memoryStep 245 = .ok (.iastore, 1) := by decide +kernel
theorem d_Mod_memoryStep_246 : decode b_Mod_memoryStep 246 = .ok (.iinc 15 1, 3) := by decide +kernel
theorem d_Mod_memoryStep_249 : decode b_Mod_memoryStep 249 = .ok (.goto (-38), 3) := by decide +kernel
theorem d_Mod_memoryStep_252 : decode b_Mod_memoryStep 252 = .ok (.iload 9, 2) := by decide +kernel
theorem d_Mod_memoryStep_254 : decode b_Mod_memoryStep 254 = .ok (.ifCond .eq 44, 3) := by decide +kernel
theorem d_Mod_memoryStep_257 : decode b_Mod_memoryStep 257 = .ok (.lload 13, 2) := by decide +kernel
theorem d_Mod_memoryStep_259 : decode b_Mod_memoryStep 259 = .ok (.lconst 1, 1) := by decide +kernel
theorem d_Mod_memoryStep_260 : decode b_Mod_memoryStep 260 = .ok (.bipush 8, 2) := by decide +kernel
theorem d_Mod_memoryStep_262 : decode b_Mod_memoryStep 262 = .ok (.iload 8, 2) := by decide +kernel
theorem d_Mod_memoryStep_264 : decode b_Mod_memoryStep 264 = .ok (.imul, 1) := by decide +kernel
theorem d_Mod_memoryStep_265 : decode b_Mod_memoryStep 265 = .ok (.iconst 1, 1) := by decide +kernel
theorem d_Mod_memoryStep_266 : decode b_Mod_memoryStep 266 = .ok (.isub, 1) := by decide +kernel
theorem d_Mod_memoryStep_267 : decode b_Mod_memoryStep 267 = .ok (.lshl, 1) := by decide +kernel
theorem d_Mod_memoryStep_268 : decode b_Mod_memoryStep 268 = .ok (.lcmp, 1) := by decide +kernel
theorem d_Mod_memoryStep_269 : decode b_Mod_memoryStep 269 = .ok (.ifCond .ge 19, 3) := by decide +kernel
theorem d_Mod_memoryStep_272 : decode b_Mod_memoryStep 272 = .ok (.lload 13, 2) := by decide +kernel
theorem d_Mod_memoryStep_274 : decode b_Mod_memoryStep 274 = .ok (.lconst 1, 1) := by decide +kernel
theorem d_Mod_memoryStep_275 : decode b_Mod_memoryStep 275 = .ok (.bipush 8, 2) := by decide +kernel
theorem d_Mod_memoryStep_277 : decode b_Mod_memoryStep 277 = .ok (.iload 8, 2) := by decide +kernel
theorem d_Mod_memoryStep_279 : decode b_Mod_memoryStep 279 = .ok (.imul, 1) := by decide +kernel
theorem d_Mod_memoryStep_280 : decode b_Mod_memoryStep 280 = .ok (.iconst 1, 1) := by decide +kernel
theorem d_Mod_memoryStep_281 : decode b_Mod_memoryStep 281 = .ok (.isub, 1) := by decide +kernel
theorem d_Mod_memoryStep_282 : decode b_Mod_memoryStep 282 = .ok (.lshl, 1) := by decide +kernel
theorem d_Mod_memoryStep_283 : decode b_Mod_memoryStep 283 = .ok (.lneg, 1) := by decide +kernel
theorem d_Mod_memoryStep_284 : decode b_Mod_memoryStep 284 = .ok (.lcmp, 1) := by decide +kernel
theorem d_Mod_memoryStep_285 : decode b_Mod_memoryStep 285 = .ok (.ifCond .ge 13, 3) := by decide +kernel
theorem d_Mod_memoryStep_288 : decode b_Mod_memoryStep 288 = .ok (.aload_n 0, 1) := by decide +kernel
theorem d_Mod_memoryStep_289 : decode b_Mod_memoryStep 289 = .ok (.bipush 64, 2) := by decide +kernel
theorem d_Mod_memoryStep_291 : decode b_Mod_memoryStep 291 = .ok (.lload 10, 2) := by decide +kernel
theorem d_Mod_memoryStep_293 : decode b_Mod_memoryStep 293 = .ok (.lload 13, 2) := by decide +kernel
theorem d_Mod_memoryStep_295 : decode b_Mod_memoryStep 295 = .ok (.invokevirtual 336, 3) := by decide +kernel
theorem d_Mod_memoryStep_298 : decode b_Mod_memoryStep 298 = .ok (.aload_n 0, 1) := by decide +kernel
theorem d_Mod_memoryStep_299 : decode b_Mod_memoryStep 299 = .ok (.dup, 1) := by decide +kernel
theorem d_Mod_memoryStep_300 : decode b_Mod_memoryStep 300 = .ok (.getfield 73, 3) := by decide +kernel
theorem d_Mod_memoryStep_303 : decode b_Mod_memoryStep 303 = .ok (.iconst 1, 1) := by decide +kernel
theorem d_Mod_memoryStep_304 : decode b_Mod_memoryStep 304 = .ok (.iadd, 1) := by decide +kernel
theorem d_Mod_memoryStep_305 : decode b_Mod_memoryStep 305 = .ok (.putfield 73, 3) := by decide +kernel
theorem d_Mod_memoryStep_308 : decode b_Mod_memoryStep 308 = .ok (.iconst 0, 1) := by decide +kernel
theorem d_Mod_memoryStep_309 : decode b_Mod_memoryStep 309 = .ok (.ireturn, 1) := by decide +kernel
theorem d_Mod_pop_0 : decode b_Mod_pop 0 = .ok (.iload_n 1, 1) := by decide +kernel
theorem d_Mod_pop_1 : decode b_Mod_pop 1 = .ok (.aload_n 0, 1) := by decide +kernel
theorem d_Mod_pop_2 : decode b_Mod_pop 2 = .ok (.getfield 64, 3) := by decide +kernel
theorem d_Mod_pop_5 : decode b_Mod_pop 5 = .ok (.iconst 1, 1) := by decide +kernel
theorem d_Mod_pop_6 : decode b_Mod_pop 6 = .ok (.iadd, 1) := by decide +kernel
theorem d_Mod_pop_7 : decode b_Mod_pop 7 = .ok (.if_icmp .ge 7, 3) := by decide +kernel
theorem d_Mod_pop_10 : decode b_Mod_pop 10 = .ok (.iload_n 1, 1) := by decide +kernel
theorem d_Mod_pop_11 : decode b_Mod_pop 11 = .ok (.goto 9, 3) := by decide +kernel
theorem d_Mod_pop_14 : decode b_Mod_pop 14 = .ok (.aload_n 0, 1) := by decide +kernel
theorem d_Mod_pop_15 : decode b_Mod_pop 15 = .ok (.getfield 64, 3) := by decide +kernel
theorem d_Mod_pop_18 : decode b_Mod_pop 18 = .ok (.iconst 1, 1) := by decide +kernel
theorem d_Mod_pop_19 : decode b_Mod_pop 19 = .ok (.iadd, 1) := by decide +kernel
theorem d_Mod_pop_20 : decode b_Mod_pop 20 = .ok (.istore_n 2, 1) := by decide +kernel
theorem d_Mod_pop_21 : decode b_Mod_pop 21 = .ok (.aload_n 0, 1) := by decide +kernel
theorem d_Mod_pop_22 : decode b_Mod_pop 22 = .ok (.getfield 49, 3) := by decide +kernel
theorem d_Mod_pop_25 : decode b_Mod_pop 25 = .ok (.aload_n 0, 1) := by decide +kernel
theorem d_Mod_pop_26 : decode b_Mod_pop 26 = .ok (.getfield 61, 3) := by decide +kernel
theorem d_Mod_pop_29 : decode b_Mod_pop 29 = .ok (.iconst 1, 1) := by decide +kernel
theorem d_Mod_pop_30 : decode b_Mod_pop 30 = .ok (.isub, 1) := by decide +kernel
theorem d_Mod_pop_31 : decode b_Mod_pop 31 = .ok (.laload, 1) := by decide +kernel
theorem d_Mod_pop_32 : decode b_Mod_pop 32 = .ok (.l2i, 1) := by decide +kernel
theorem d_Mod_pop_33 : decode b_Mod_pop 33 = .ok (.istore_n 3, 1) := by decide +kernel
theorem d_Mod_pop_34 : decode b_Mod_pop 34 = .ok (.iconst 0, 1) := by decide +kernel
theorem d_Mod_pop_35 : decode b_Mod_pop 35 = .ok (.istore 4, 2) := by decide +kernel
theorem d_Mod_pop_37 : decode b_Mod_pop 37 = .ok (.iconst 0, 1) := by decide +kernel
theorem d_Mod_pop_38 : decode b_Mod_pop 38 = .ok (.istore 5, 2) := by decide +kernel
theorem d_Mod_pop_40 : decode b_Mod_pop 40 = .ok (.iload 5, 2) := by decide +kernel
theorem d_Mod_pop_42 : decode b_Mod_pop 42 = .ok (.iload_n 3, 1) := by decide +kernel
theorem d_Mod_pop_43 : decode b_Mod_pop 43 = .ok (.if_icmp .ge 35, 3) := by decide +kernel
theorem d_Mod_pop_46 : decode b_Mod_pop 46 = .ok (.aload_n 0, 1) := by decide +kernel
theorem d_Mod_pop_47 : decode b_Mod_pop 47 = .ok (.getfield 52, 3) := by decide +kernel
theorem d_Mod_pop_50 : decode b_Mod_pop 50 = .ok (.iload 4, 2) := by decide +kernel
theorem d_Mod_pop_52 : decode b_Mod_pop 52 = .ok (.aload_n 0, 1) := by decide +kernel
theorem d_Mod_pop_53 : decode b_Mod_pop 53 = .ok (.getfield 49, 3) := by decide +kernel
theorem d_Mod_pop_56 : decode b_Mod_pop 56 = .ok (.aload_n 0, 1) := by decide +kernel
theorem d_Mod_pop_57 : decode b_Mod_pop 57 = .ok (.getfield 61, 3) := by decide +kernel
theorem d_Mod_pop_60 : decode b_Mod_pop 60 = .ok (.iconst 1, 1) := by decide +kernel
theorem d_Mod_pop_61 : decode b_Mod_pop 61 = .ok (.isub, 1) := by decide +kernel
theorem d_Mod_pop_62 : decode b_Mod_pop 62 = .ok (.iload_n 3, 1) := by decide +kernel
theorem d_Mod_pop_63 : decode b_Mod_pop 63 = .ok (.isub, 1) := by decide +kernel
theorem d_Mod_pop_64 : decode b_Mod_pop 64 = .ok (.iload 5, 2) := by decide +kernel
theorem d_Mod_pop_66 : decode b_Mod_pop 66 = .ok (.iadd, 1) := by decide +kernel
theorem d_Mod_pop_67 : decode b_Mod_pop 67 = .ok (.laload, 1) := by decide +kernel
theorem d_Mod_pop_68 : decode b_Mod_pop 68 = .ok (.lastore, 1) := by decide +kernel
theorem d_Mod_pop_69 : decode b_Mod_pop 69 = .ok (.iinc 4 1, 3) := by decide +kernel
theorem d_Mod_pop_72 : decode b_Mod_pop 72 = .ok (.iinc 5 1, 3) := by decide +kernel
theorem d_Mod_pop_75 : decode b_Mod_pop 75 = .ok (.goto (-35), 3) := by decide +kernel
theorem d_Mod_pop_78 : decode b_Mod_pop 78 = .ok (.iload_n 2, 1) := by decide +kernel
theorem d_Mod_pop_79 : decode b_Mod_pop 79 = .ok (.ifCond .le 35, 3) := by decide +kernel
theorem d_Mod_pop_82 : decode b_Mod_pop 82 = .ok (.aload_n 0, 1) := by decide +kernel
theorem d_Mod_pop_83 : decode b_Mod_pop 83 = .ok (.getfield 52, 3) := by decide +kernel
theorem d_Mod_pop_86 : decode b_Mod_pop 86 = .ok (.iload 4, 2) := by decide +kernel
theorem d_Mod_pop_88 : decode b_Mod_pop 88 = .ok (.iload_n 2, 1) := by decide +kernel
theorem d_Mod_pop_89 : decode b_Mod_pop 89 = .ok (.iconst 1, 1) := by decide +kernel
theorem d_Mod_pop_90 : decode b_Mod_pop 90 = .ok (.isub, 1) := by decide +kernel
theorem d_Mod_pop_91 : decode b_Mod_pop 91 = .ok (.aload_n 0, 1) := by decide +kernel
theorem d_Mod_pop_92 : decode b_Mod_pop 92 = .ok (.getfield 64, 3) := by decide +kernel
theorem d_Mod_pop_95 : decode b_Mod_pop 95 = .ok (.if_icmp .ge 14, 3) := by decide +kernel
theorem d_Mod_pop_98 : decode b_Mod_pop 98 = .ok (.aload_n 0, 1) := by decide +kernel
theorem d_Mod_pop_99 : decode b_Mod_pop 99 = .ok (.getfield 43, 3) := by decide +kernel
theorem d_Mod_pop_102 : decode b_Mod_pop 102 = .ok (.iload_n 2, 1) := by decide +kernel
theorem d_Mod_pop_103 : decode b_Mod_pop 103 = .ok (.iconst 1, 1) := by decide +kernel
theorem d_Mod_pop_104 : decode b_Mod_pop 104 = .ok (.isub, 1) := by decide +kernel
theorem d_Mod_pop_105 : decode b_Mod_pop 105 = .ok (.laload, 1) := by decide +kernel
theorem d_Mod_pop_106 : decode b_Mod_pop 106 = .ok (.goto 4, 3) := by decide +kernel
theorem d_Mod_pop_109 : decode b_Mod_pop 109 = .ok (.lconst 0, 1) := by decide +kernel
theorem d_Mod_pop_110 : decode b_Mod_pop 110 = .ok (.lastore, 1) := by decide +kernel
theorem d_Mod_pop_111 : decode b_Mod_pop 111 = .ok (.iinc 4 1, 3) := by decide +kernel
theorem d_Mod_pop_114 : decode b_Mod_pop 114 = .ok (.iconst 0, 1) := by decide +kernel
theorem d_Mod_pop_115 : decode b_Mod_pop 115 = .ok (.istore 5, 2) := by decide +kernel
theorem d_Mod_pop_117 : decode b_Mod_pop 117 = .ok (.iload 5, 2) := by decide +kernel
theorem d_Mod_pop_119 : decode b_Mod_pop 119 = .ok (.iload_n 2, 1) := by decide +kernel
