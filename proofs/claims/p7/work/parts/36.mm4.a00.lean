abbrev b_Mod_step : ByteArray := prog_14_method_61_code
abbrev y_Mod_step : MethodName := ⟨"LittleMixModel", "step", "()I"⟩
theorem p_Mod_away : y_Mod_away.cls ≠ "java/lang/invoke/MethodHandle" ∧ y_Mod_away.cls ≠ "java/lang/invoke/VarHandle" ∧ (parseMethodDescriptor y_Mod_away.desc).map (fun d => d.parameters.length) = some 3 := by decide +kernel
theorem p_Mod_getSpecial : y_Mod_getSpecial.cls ≠ "java/lang/invoke/MethodHandle" ∧ y_Mod_getSpecial.cls ≠ "java/lang/invoke/VarHandle" ∧ (parseMethodDescriptor y_Mod_getSpecial.desc).map (fun d => d.parameters.length) = some 1 := by decide +kernel
theorem p_Mod_holds : y_Mod_holds.cls ≠ "java/lang/invoke/MethodHandle" ∧ y_Mod_holds.cls ≠ "java/lang/invoke/VarHandle" ∧ (parseMethodDescriptor y_Mod_holds.desc).map (fun d => d.parameters.length) = some 2 := by decide +kernel
theorem p_Mod_isOp : y_Mod_isOp.cls ≠ "java/lang/invoke/MethodHandle" ∧ y_Mod_isOp.cls ≠ "java/lang/invoke/VarHandle" ∧ (parseMethodDescriptor y_Mod_isOp.desc).map (fun d => d.parameters.length) = some 1 := by decide +kernel
theorem p_Mod_isSpecial : y_Mod_isSpecial.cls ≠ "java/lang/invoke/MethodHandle" ∧ y_Mod_isSpecial.cls ≠ "java/lang/invoke/VarHandle" ∧ (parseMethodDescriptor y_Mod_isSpecial.desc).map (fun d => d.parameters.length) = some 1 := by decide +kernel
theorem p_Mod_memoryStep : y_Mod_memoryStep.cls ≠ "java/lang/invoke/MethodHandle" ∧ y_Mod_memoryStep.cls ≠ "java/lang/invoke/VarHandle" ∧ (parseMethodDescriptor y_Mod_memoryStep.desc).map (fun d => d.parameters.length) = some 4 := by decide +kernel
theorem p_Mod_pop : y_Mod_pop.cls ≠ "java/lang/invoke/MethodHandle" ∧ y_Mod_pop.cls ≠ "java/lang/invoke/VarHandle" ∧ (parseMethodDescriptor y_Mod_pop.desc).map (fun d => d.parameters.length) = some 1 := by decide +kernel
theorem p_Mod_push : y_Mod_push.cls ≠ "java/lang/invoke/MethodHandle" ∧ y_Mod_push.cls ≠ "java/lang/invoke/VarHandle" ∧ (parseMethodDescriptor y_Mod_push.desc).map (fun d => d.parameters.length) = some 1 := by decide +kernel
theorem p_Mod_putSpecial : y_Mod_putSpecial.cls ≠ "java/lang/invoke/MethodHandle" ∧ y_Mod_putSpecial.cls ≠ "java/lang/invoke/VarHandle" ∧ (parseMethodDescriptor y_Mod_putSpecial.desc).map (fun d => d.parameters.length) = some 2 := by decide +kernel
theorem p_Mod_reckon : y_Mod_reckon.cls ≠ "java/lang/invoke/MethodHandle" ∧ y_Mod_reckon.cls ≠ "java/lang/invoke/VarHandle" ∧ (parseMethodDescriptor y_Mod_reckon.desc).map (fun d => d.parameters.length) = some 3 := by decide +kernel
theorem p_Mod_trip : y_Mod_trip.cls ≠ "java/lang/invoke/MethodHandle" ∧ y_Mod_trip.cls ≠ "java/lang/invoke/VarHandle" ∧ (parseMethodDescriptor y_Mod_trip.desc).map (fun d => d.parameters.length) = some 4 := by decide +kernel
theorem p_Mod_wide : y_Mod_wide.cls ≠ "java/lang/invoke/MethodHandle" ∧ y_Mod_wide.cls ≠ "java/lang/invoke/VarHandle" ∧ (parseMethodDescriptor y_Mod_wide.desc).map (fun d => d.parameters.length) = some 3 := by decide +kernel
theorem k_1250 : (Jvm.Cond.methodLink "LittleMixModel" (285 : Nat) ({ cls := "LittleMixModel", name := "isSpecial", desc := "(J)Z" } : Jvm.MethodName)) ∈ mx_T := List.mem_filter.mpr ⟨List.mem_append_right _ ((List.mem_append_right _ (List.mem_append_right _ (List.mem_append_right _ (List.mem_append_right _ (List.mem_append_right _ (List.mem_of_getElem? (l := tables_1_6) (i := 50) (by decide +kernel)))))))), rfl⟩
theorem k_1251 : (Jvm.Cond.static ({ cls := "LittleMixModel", name := "isSpecial", desc := "(J)Z" } : Jvm.MethodName)) ∈ mx_T := List.mem_filter.mpr ⟨List.mem_append_right _ ((List.mem_append_right _ (List.mem_append_right _ (List.mem_append_right _ (List.mem_append_right _ (List.mem_append_right _ (List.mem_of_getElem? (l := tables_1_6) (i := 51) (by decide +kernel)))))))), rfl⟩
theorem k_1252 : (Jvm.Cond.code ({ cls := "LittleMixModel", name := "isSpecial", desc := "(J)Z" } : Jvm.MethodName) prog_14_method_13_code (2 : Nat) (Option.some Jvm.ClassFile.FieldType.boolean)) ∈ mx_T := List.mem_filter.mpr ⟨List.mem_append_right _ ((List.mem_append_right _ (List.mem_append_right _ (List.mem_append_right _ (List.mem_append_right _ (List.mem_append_right _ (List.mem_of_getElem? (l := tables_1_6) (i := 52) rfl))))))), rfl⟩
theorem k_1292 : (Jvm.Cond.constantLong "LittleMixModel" (377 : Nat) (4092 : Int64)) ∈ mx_T := List.mem_filter.mpr ⟨List.mem_append_right _ ((List.mem_append_right _ (List.mem_append_right _ (List.mem_append_right _ (List.mem_append_right _ (List.mem_append_right _ (List.mem_of_getElem? (l := tables_1_6) (i := 92) (by decide +kernel)))))))), rfl⟩
theorem k_1293 : (Jvm.Cond.methodLink "LittleMixModel" (379 : Nat) ({ cls := "LittleMixModel", name := "isOp", desc := "(I)Z" } : Jvm.MethodName)) ∈ mx_T := List.mem_filter.mpr ⟨List.mem_append_right _ ((List.mem_append_right _ (List.mem_append_right _ (List.mem_append_right _ (List.mem_append_right _ (List.mem_append_right _ (List.mem_of_getElem? (l := tables_1_6) (i := 93) (by decide +kernel)))))))), rfl⟩
theorem k_1295 : (Jvm.Cond.instanceMethod ({ cls := "LittleMixModel", name := "isOp", desc := "(I)Z" } : Jvm.MethodName)) ∈ mx_T := List.mem_filter.mpr ⟨List.mem_append_right _ ((List.mem_append_right _ (List.mem_append_right _ (List.mem_append_right _ (List.mem_append_right _ (List.mem_append_right _ (List.mem_of_getElem? (l := tables_1_6) (i := 95) (by decide +kernel)))))))), rfl⟩
theorem k_1296 : (Jvm.Cond.code ({ cls := "LittleMixModel", name := "isOp", desc := "(I)Z" } : Jvm.MethodName) prog_14_method_60_code (2 : Nat) (Option.some Jvm.ClassFile.FieldType.boolean)) ∈ mx_T := List.mem_filter.mpr ⟨List.mem_append_right _ ((List.mem_append_right _ (List.mem_append_right _ (List.mem_append_right _ (List.mem_append_right _ (List.mem_append_right _ (List.mem_of_getElem? (l := tables_1_6) (i := 96) rfl))))))), rfl⟩
theorem k_1301 : (Jvm.Cond.methodLink "LittleMixModel" (389 : Nat) ({ cls := "LittleMixModel", name := "memoryStep", desc := "(IIJJ)I" } : Jvm.MethodName)) ∈ mx_T := List.mem_filter.mpr ⟨List.mem_append_right _ ((List.mem_append_right _ (List.mem_append_right _ (List.mem_append_right _ (List.mem_append_right _ (List.mem_append_right _ (List.mem_of_getElem? (l := tables_1_6) (i := 101) (by decide +kernel)))))))), rfl⟩
theorem k_1303 : (Jvm.Cond.instanceMethod ({ cls := "LittleMixModel", name := "memoryStep", desc := "(IIJJ)I" } : Jvm.MethodName)) ∈ mx_T := List.mem_filter.mpr ⟨List.mem_append_right _ ((List.mem_append_right _ (List.mem_append_right _ (List.mem_append_right _ (List.mem_append_right _ (List.mem_append_right _ (List.mem_of_getElem? (l := tables_1_6) (i := 103) (by decide +kernel)))))))), rfl⟩
theorem k_1304 : (Jvm.Cond.code ({ cls := "LittleMixModel", name := "memoryStep", desc := "(IIJJ)I" } : Jvm.MethodName) prog_14_method_65_code (16 : Nat) (Option.some Jvm.ClassFile.FieldType.int)) ∈ mx_T := List.mem_filter.mpr ⟨List.mem_append_right _ ((List.mem_append_right _ (List.mem_append_right _ (List.mem_append_right _ (List.mem_append_right _ (List.mem_append_right _ (List.mem_of_getElem? (l := tables_1_6) (i := 104) rfl))))))), rfl⟩
theorem k_1317 : (Jvm.Cond.methodLink "LittleMixModel" (396 : Nat) ({ cls := "LittleMixModel", name := "reckon", desc := "(IJJ)J" } : Jvm.MethodName)) ∈ mx_T := List.mem_filter.mpr ⟨List.mem_append_right _ ((List.mem_append_right _ (List.mem_append_right _ (List.mem_append_right _ (List.mem_append_right _ (List.mem_append_right _ (List.mem_of_getElem? (l := tables_1_6) (i := 117) (by decide +kernel)))))))), rfl⟩
theorem k_1319 : (Jvm.Cond.instanceMethod ({ cls := "LittleMixModel", name := "reckon", desc := "(IJJ)J" } : Jvm.MethodName)) ∈ mx_T := List.mem_filter.mpr ⟨List.mem_append_right _ ((List.mem_append_right _ (List.mem_append_right _ (List.mem_append_right _ (List.mem_append_right _ (List.mem_append_right _ (List.mem_of_getElem? (l := tables_1_6) (i := 119) (by decide +kernel)))))))), rfl⟩
theorem k_1320 : (Jvm.Cond.code ({ cls := "LittleMixModel", name := "reckon", desc := "(IJJ)J" } : Jvm.MethodName) prog_14_method_59_code (9 : Nat) (Option.some Jvm.ClassFile.FieldType.long)) ∈ mx_T := List.mem_filter.mpr ⟨List.mem_append_right _ ((List.mem_append_right _ (List.mem_append_right _ (List.mem_append_right _ (List.mem_append_right _ (List.mem_append_right _ (List.mem_of_getElem? (l := tables_1_6) (i := 120) rfl))))))), rfl⟩
theorem k_1368 : (Jvm.Cond.methodLink "LittleMixModel" (399 : Nat) ({ cls := "LittleMixModel", name := "holds", desc := "(IJ)Z" } : Jvm.MethodName)) ∈ mx_T := List.mem_filter.mpr ⟨List.mem_append_right _ ((List.mem_append_right _ (List.mem_append_right _ (List.mem_append_right _ (List.mem_append_right _ (List.mem_append_right _ (List.mem_of_getElem? (l := tables_1_6) (i := 168) (by decide +kernel)))))))), rfl⟩
theorem k_1369 : (Jvm.Cond.static ({ cls := "LittleMixModel", name := "holds", desc := "(IJ)Z" } : Jvm.MethodName)) ∈ mx_T := List.mem_filter.mpr ⟨List.mem_append_right _ ((List.mem_append_right _ (List.mem_append_right _ (List.mem_append_right _ (List.mem_append_right _ (List.mem_append_right _ (List.mem_of_getElem? (l := tables_1_6) (i := 169) (by decide +kernel)))))))), rfl⟩
theorem k_1370 : (Jvm.Cond.code ({ cls := "LittleMixModel", name := "holds", desc := "(IJ)Z" } : Jvm.MethodName) prog_14_method_57_code (4 : Nat) (Option.some Jvm.ClassFile.FieldType.boolean)) ∈ mx_T := List.mem_filter.mpr ⟨List.mem_append_right _ ((List.mem_append_right _ (List.mem_append_right _ (List.mem_append_right _ (List.mem_append_right _ (List.mem_append_right _ (List.mem_of_getElem? (l := tables_1_6) (i := 170) rfl))))))), rfl⟩
theorem k_1371 : (Jvm.Cond.methodLink "LittleMixModel" (403 : Nat) ({ cls := "LittleMixModel", name := "away", desc := "(III)J" } : Jvm.MethodName)) ∈ mx_T := List.mem_filter.mpr ⟨List.mem_append_right _ ((List.mem_append_right _ (List.mem_append_right _ (List.mem_append_right _ (List.mem_append_right _ (List.mem_append_right _ (List.mem_of_getElem? (l := tables_1_6) (i := 171) (by decide +kernel)))))))), rfl⟩
theorem k_1373 : (Jvm.Cond.instanceMethod ({ cls := "LittleMixModel", name := "away", desc := "(III)J" } : Jvm.MethodName)) ∈ mx_T := List.mem_filter.mpr ⟨List.mem_append_right _ ((List.mem_append_right _ (List.mem_append_right _ (List.mem_append_right _ (List.mem_append_right _ (List.mem_append_right _ (List.mem_of_getElem? (l := tables_1_6) (i := 173) (by decide +kernel)))))))), rfl⟩
theorem k_1374 : (Jvm.Cond.code ({ cls := "LittleMixModel", name := "away", desc := "(III)J" } : Jvm.MethodName) prog_14_method_62_code (4 : Nat) (Option.some Jvm.ClassFile.FieldType.long)) ∈ mx_T := List.mem_filter.mpr ⟨List.mem_append_right _ ((List.mem_append_right _ (List.mem_append_right _ (List.mem_append_right _ (List.mem_append_right _ (List.mem_append_right _ (List.mem_of_getElem? (l := tables_1_6) (i := 174) rfl))))))), rfl⟩
theorem k_1375 : (Jvm.Cond.methodLink "LittleMixModel" (407 : Nat) ({ cls := "LittleMixModel", name := "wide", desc := "(IIJ)V" } : Jvm.MethodName)) ∈ mx_T := List.mem_filter.mpr ⟨List.mem_append_right _ ((List.mem_append_right _ (List.mem_append_right _ (List.mem_append_right _ (List.mem_append_right _ (List.mem_append_right _ (List.mem_of_getElem? (l := tables_1_6) (i := 175) (by decide +kernel)))))))), rfl⟩
theorem k_1377 : (Jvm.Cond.instanceMethod ({ cls := "LittleMixModel", name := "wide", desc := "(IIJ)V" } : Jvm.MethodName)) ∈ mx_T := List.mem_filter.mpr ⟨List.mem_append_right _ ((List.mem_append_right _ (List.mem_append_right _ (List.mem_append_right _ (List.mem_append_right _ (List.mem_append_right _ (List.mem_of_getElem? (l := tables_1_6) (i := 177) (by decide +kernel)))))))), rfl⟩
theorem k_1378 : (Jvm.Cond.code ({ cls := "LittleMixModel", name := "wide", desc := "(IIJ)V" } : Jvm.MethodName) prog_14_method_64_code (8 : Nat) (Option.none : Option Jvm.ClassFile.FieldType)) ∈ mx_T := List.mem_filter.mpr ⟨List.mem_append_right _ ((List.mem_append_right _ (List.mem_append_right _ (List.mem_append_right _ (List.mem_append_right _ (List.mem_append_right _ (List.mem_of_getElem? (l := tables_1_6) (i := 178) rfl))))))), rfl⟩
theorem k_1379 : (Jvm.Cond.constant "LittleMixModel" (411 : Nat) (65536 : Int32)) ∈ mx_T := List.mem_filter.mpr ⟨List.mem_append_right _ ((List.mem_append_right _ (List.mem_append_right _ (List.mem_append_right _ (List.mem_append_right _ (List.mem_append_right _ (List.mem_of_getElem? (l := tables_1_6) (i := 179) (by decide +kernel)))))))), rfl⟩
theorem k_1380 : (Jvm.Cond.methodLink "LittleMixModel" (412 : Nat) ({ cls := "LittleMixModel", name := "push", desc := "(I)Z" } : Jvm.MethodName)) ∈ mx_T := List.mem_filter.mpr ⟨List.mem_append_right _ ((List.mem_append_right _ (List.mem_append_right _ (List.mem_append_right _ (List.mem_append_right _ (List.mem_append_right _ (List.mem_of_getElem? (l := tables_1_6) (i := 180) (by decide +kernel)))))))), rfl⟩
theorem k_1382 : (Jvm.Cond.instanceMethod ({ cls := "LittleMixModel", name := "push", desc := "(I)Z" } : Jvm.MethodName)) ∈ mx_T := List.mem_filter.mpr ⟨List.mem_append_right _ ((List.mem_append_right _ (List.mem_append_right _ (List.mem_append_right _ (List.mem_append_right _ (List.mem_append_right _ (List.mem_of_getElem? (l := tables_1_6) (i := 182) (by decide +kernel)))))))), rfl⟩
theorem k_1383 : (Jvm.Cond.code ({ cls := "LittleMixModel", name := "push", desc := "(I)Z" } : Jvm.MethodName) prog_14_method_66_code (5 : Nat) (Option.some Jvm.ClassFile.FieldType.boolean)) ∈ mx_T := List.mem_filter.mpr ⟨List.mem_append_right _ ((List.mem_append_right _ (List.mem_append_right _ (List.mem_append_right _ (List.mem_append_right _ (List.mem_append_right _ (List.mem_of_getElem? (l := tables_1_6) (i := 183) rfl))))))), rfl⟩
theorem k_1384 : (Jvm.Cond.methodLink "LittleMixModel" (415 : Nat) ({ cls := "LittleMixModel", name := "putSpecial", desc := "(IJ)V" } : Jvm.MethodName)) ∈ mx_T := List.mem_filter.mpr ⟨List.mem_append_right _ ((List.mem_append_right _ (List.mem_append_right _ (List.mem_append_right _ (List.mem_append_right _ (List.mem_append_right _ (List.mem_of_getElem? (l := tables_1_6) (i := 184) (by decide +kernel)))))))), rfl⟩
theorem k_1386 : (Jvm.Cond.instanceMethod ({ cls := "LittleMixModel", name := "putSpecial", desc := "(IJ)V" } : Jvm.MethodName)) ∈ mx_T := List.mem_filter.mpr ⟨List.mem_append_right _ ((List.mem_append_right _ (List.mem_append_right _ (List.mem_append_right _ (List.mem_append_right _ (List.mem_append_right _ (List.mem_of_getElem? (l := tables_1_6) (i := 186) (by decide +kernel)))))))), rfl⟩
theorem k_1387 : (Jvm.Cond.code ({ cls := "LittleMixModel", name := "putSpecial", desc := "(IJ)V" } : Jvm.MethodName) prog_14_method_44_code (5 : Nat) (Option.none : Option Jvm.ClassFile.FieldType)) ∈ mx_T := List.mem_filter.mpr ⟨List.mem_append_right _ ((List.mem_append_right _ (List.mem_append_right _ (List.mem_append_right _ (List.mem_append_right _ (List.mem_append_right _ (List.mem_of_getElem? (l := tables_1_6) (i := 187) rfl))))))), rfl⟩
theorem k_1390 : (Jvm.Cond.methodLink "LittleMixModel" (418 : Nat) ({ cls := "LittleMixModel", name := "pop", desc := "(I)V" } : Jvm.MethodName)) ∈ mx_T := List.mem_filter.mpr ⟨List.mem_append_right _ ((List.mem_append_right _ (List.mem_append_right _ (List.mem_append_right _ (List.mem_append_right _ (List.mem_append_right _ (List.mem_of_getElem? (l := tables_1_6) (i := 190) (by decide +kernel)))))))), rfl⟩
theorem k_1392 : (Jvm.Cond.instanceMethod ({ cls := "LittleMixModel", name := "pop", desc := "(I)V" } : Jvm.MethodName)) ∈ mx_T := List.mem_filter.mpr ⟨List.mem_append_right _ ((List.mem_append_right _ (List.mem_append_right _ (List.mem_append_right _ (List.mem_append_right _ (List.mem_append_right _ (List.mem_of_getElem? (l := tables_1_6) (i := 192) (by decide +kernel)))))))), rfl⟩
theorem k_1393 : (Jvm.Cond.code ({ cls := "LittleMixModel", name := "pop", desc := "(I)V" } : Jvm.MethodName) prog_14_method_67_code (6 : Nat) (Option.none : Option Jvm.ClassFile.FieldType)) ∈ mx_T := List.mem_filter.mpr ⟨List.mem_append_right _ ((List.mem_append_right _ (List.mem_append_right _ (List.mem_append_right _ (List.mem_append_right _ (List.mem_append_right _ (List.mem_of_getElem? (l := tables_1_6) (i := 193) rfl))))))), rfl⟩
theorem k_1394 : (Jvm.Cond.methodLink "LittleMixModel" (422 : Nat) ({ cls := "LittleMixModel", name := "getSpecial", desc := "(I)J" } : Jvm.MethodName)) ∈ mx_T := List.mem_filter.mpr ⟨List.mem_append_right _ ((List.mem_append_right _ (List.mem_append_right _ (List.mem_append_right _ (List.mem_append_right _ (List.mem_append_right _ (List.mem_of_getElem? (l := tables_1_6) (i := 194) (by decide +kernel)))))))), rfl⟩
theorem k_1396 : (Jvm.Cond.instanceMethod ({ cls := "LittleMixModel", name := "getSpecial", desc := "(I)J" } : Jvm.MethodName)) ∈ mx_T := List.mem_filter.mpr ⟨List.mem_append_right _ ((List.mem_append_right _ (List.mem_append_right _ (List.mem_append_right _ (List.mem_append_right _ (List.mem_append_right _ (List.mem_of_getElem? (l := tables_1_6) (i := 196) (by decide +kernel)))))))), rfl⟩
theorem k_1397 : (Jvm.Cond.code ({ cls := "LittleMixModel", name := "getSpecial", desc := "(I)J" } : Jvm.MethodName) prog_14_method_43_code (2 : Nat) (Option.some Jvm.ClassFile.FieldType.long)) ∈ mx_T := List.mem_filter.mpr ⟨List.mem_append_right _ ((List.mem_append_right _ (List.mem_append_right _ (List.mem_append_right _ (List.mem_append_right _ (List.mem_append_right _ (List.mem_of_getElem? (l := tables_1_6) (i := 197) rfl))))))), rfl⟩
theorem k_1398 : (Jvm.Cond.methodLink "LittleMixModel" (425 : Nat) ({ cls := "LittleMixModel", name := "trip", desc := "(JJJJ)J" } : Jvm.MethodName)) ∈ mx_T := List.mem_filter.mpr ⟨List.mem_append_right _ ((List.mem_append_right _ (List.mem_append_right _ (List.mem_append_right _ (List.mem_append_right _ (List.mem_append_right _ (List.mem_of_getElem? (l := tables_1_6) (i := 198) (by decide +kernel)))))))), rfl⟩
theorem k_1400 : (Jvm.Cond.instanceMethod ({ cls := "LittleMixModel", name := "trip", desc := "(JJJJ)J" } : Jvm.MethodName)) ∈ mx_T := List.mem_filter.mpr ⟨List.mem_append_right _ ((List.mem_append_right _ (List.mem_append_right _ (List.mem_append_right _ (List.mem_append_right _ (List.mem_append_right _ (List.mem_of_getElem? (l := tables_1_6) (i := 200) (by decide +kernel)))))))), rfl⟩
theorem k_1401 : (Jvm.Cond.code ({ cls := "LittleMixModel", name := "trip", desc := "(JJJJ)J" } : Jvm.MethodName) prog_14_method_63_code (9 : Nat) (Option.some Jvm.ClassFile.FieldType.long)) ∈ mx_T := List.mem_filter.mpr ⟨List.mem_append_right _ ((List.mem_append_right _ (List.mem_append_right _ (List.mem_append_right _ (List.mem_append_right _ (List.mem_append_right _ (List.mem_of_getElem? (l := tables_1_6) (i := 201) rfl))))))), rfl⟩
theorem k_1402 : (Jvm.Cond.constantLong "LittleMixModel" (429 : Nat) (16 : Int64)) ∈ mx_T := List.mem_filter.mpr ⟨List.mem_append_right _ ((List.mem_append_right _ (List.mem_append_right _ (List.mem_append_right _ (List.mem_append_right _ (List.mem_append_right _ (List.mem_of_getElem? (l := tables_1_6) (i := 202) (by decide +kernel)))))))), rfl⟩
theorem sl_Mod_isOp : Cond.selects y_Mod_isOp.cls y_Mod_isOp y_Mod_isOp ∈ mx_T := List.mem_filter.mpr ⟨List.mem_append_left _ (by decide +kernel), by decide +kernel⟩
theorem sl_Mod_memoryStep : Cond.selects y_Mod_memoryStep.cls y_Mod_memoryStep y_Mod_memoryStep ∈ mx_T := List.mem_filter.mpr ⟨List.mem_append_left _ (by decide +kernel), by decide +kernel⟩
theorem sl_Mod_reckon : Cond.selects y_Mod_reckon.cls y_Mod_reckon y_Mod_reckon ∈ mx_T := List.mem_filter.mpr ⟨List.mem_append_left _ (by decide +kernel), by decide +kernel⟩
theorem sl_Mod_away : Cond.selects y_Mod_away.cls y_Mod_away y_Mod_away ∈ mx_T := List.mem_filter.mpr ⟨List.mem_append_left _ (by decide +kernel), by decide +kernel⟩
theorem sl_Mod_wide : Cond.selects y_Mod_wide.cls y_Mod_wide y_Mod_wide ∈ mx_T := List.mem_filter.mpr ⟨List.mem_append_left _ (by decide +kernel), by decide +kernel⟩
theorem sl_Mod_trip : Cond.selects y_Mod_trip.cls y_Mod_trip y_Mod_trip ∈ mx_T := List.mem_filter.mpr ⟨List.mem_append_left _ (by decide +kernel), by decide +kernel⟩
theorem sl_Mod_getSpecial : Cond.selects y_Mod_getSpecial.cls y_Mod_getSpecial y_Mod_getSpecial ∈ mx_T := List.mem_filter.mpr ⟨List.mem_append_left _ (by decide +kernel), by decide +kernel⟩
theorem sl_Mod_pop : Cond.selects y_Mod_pop.cls y_Mod_pop y_Mod_pop ∈ mx_T := List.mem_filter.mpr ⟨List.mem_append_left _ (by decide +kernel), by decide +kernel⟩
theorem sl_Mod_putSpecial : Cond.selects y_Mod_putSpecial.cls y_Mod_putSpecial y_Mod_putSpecial ∈ mx_T := List.mem_filter.mpr ⟨List.mem_append_left _ (by decide +kernel), by decide +kernel⟩
theorem sl_Mod_push : Cond.selects y_Mod_push.cls y_Mod_push y_Mod_push ∈ mx_T := List.mem_filter.mpr ⟨List.mem_append_left _ (by decide +kernel), by decide +kernel⟩
theorem d_Mod_step_0 : decode b_Mod_step 0 = .ok (.aload_n 0, 1) := by decide +kernel
theorem d_Mod_step_1 : decode b_Mod_step 1 = .ok (.getfield 81, 3) := by decide +kernel
theorem d_Mod_step_4 : decode b_Mod_step 4 = .ok (.lconst 0, 1) := by decide +kernel
theorem d_Mod_step_5 : decode b_Mod_step 5 = .ok (.lcmp, 1) := by decide +kernel
theorem d_Mod_step_6 : decode b_Mod_step 6 = .ok (.ifCond .lt 14, 3) := by decide +kernel
theorem d_Mod_step_9 : decode b_Mod_step 9 = .ok (.aload_n 0, 1) := by decide +kernel
theorem d_Mod_step_10 : decode b_Mod_step 10 = .ok (.getfield 81, 3) := by decide +kernel
theorem d_Mod_step_13 : decode b_Mod_step 13 = .ok (.ldc2_w 377, 3) := by decide +kernel
theorem d_Mod_step_16 : decode b_Mod_step 16 = .ok (.lcmp, 1) := by decide +kernel
theorem d_Mod_step_17 : decode b_Mod_step 17 = .ok (.ifCond .le 5, 3) := by decide +kernel
theorem d_Mod_step_20 : decode b_Mod_step 20 = .ok (.iconst 4, 1) := by decide +kernel
theorem d_Mod_step_21 : decode b_Mod_step 21 = .ok (.ireturn, 1) := by decide +kernel
theorem d_Mod_step_22 : decode b_Mod_step 22 = .ok (.aload_n 0, 1) := by decide +kernel
theorem d_Mod_step_23 : decode b_Mod_step 23 = .ok (.getfield 81, 3) := by decide +kernel
theorem d_Mod_step_26 : decode b_Mod_step 26 = .ok (.l2i, 1) := by decide +kernel
theorem d_Mod_step_27 : decode b_Mod_step 27 = .ok (.istore_n 1, 1) := by decide +kernel
theorem d_Mod_step_28 : decode b_Mod_step 28 = .ok (.aload_n 0, 1) := by decide +kernel
theorem d_Mod_step_29 : decode b_Mod_step 29 = .ok (.getfield 37, 3) := by decide +kernel
theorem d_Mod_step_32 : decode b_Mod_step 32 = .ok (.iload_n 1, 1) := by decide +kernel
theorem d_Mod_step_33 : decode b_Mod_step 33 = .ok (.iaload, 1) := by decide +kernel
theorem d_Mod_step_34 : decode b_Mod_step 34 = .ok (.istore_n 2, 1) := by decide +kernel
theorem d_Mod_step_35 : decode b_Mod_step 35 = .ok (.aload_n 0, 1) := by decide +kernel
theorem d_Mod_step_36 : decode b_Mod_step 36 = .ok (.getfield 37, 3) := by decide +kernel
theorem d_Mod_step_39 : decode b_Mod_step 39 = .ok (.iload_n 1, 1) := by decide +kernel
theorem d_Mod_step_40 : decode b_Mod_step 40 = .ok (.iconst 1, 1) := by decide +kernel
theorem d_Mod_step_41 : decode b_Mod_step 41 = .ok (.iadd, 1) := by decide +kernel
theorem d_Mod_step_42 : decode b_Mod_step 42 = .ok (.iaload, 1) := by decide +kernel
theorem d_Mod_step_43 : decode b_Mod_step 43 = .ok (.istore_n 3, 1) := by decide +kernel
theorem d_Mod_step_44 : decode b_Mod_step 44 = .ok (.aload_n 0, 1) := by decide +kernel
theorem d_Mod_step_45 : decode b_Mod_step 45 = .ok (.getfield 37, 3) := by decide +kernel
theorem d_Mod_step_48 : decode b_Mod_step 48 = .ok (.iload_n 1, 1) := by decide +kernel
theorem d_Mod_step_49 : decode b_Mod_step 49 = .ok (.iconst 2, 1) := by decide +kernel
theorem d_Mod_step_50 : decode b_Mod_step 50 = .ok (.iadd, 1) := by decide +kernel
theorem d_Mod_step_51 : decode b_Mod_step 51 = .ok (.iaload, 1) := by decide +kernel
theorem d_Mod_step_52 : decode b_Mod_step 52 = .ok (.istore 4, 2) := by decide +kernel
theorem d_Mod_step_54 : decode b_Mod_step 54 = .ok (.aload_n 0, 1) := by decide +kernel
theorem d_Mod_step_55 : decode b_Mod_step 55 = .ok (.getfield 37, 3) := by decide +kernel
theorem d_Mod_step_58 : decode b_Mod_step 58 = .ok (.iload_n 1, 1) := by decide +kernel
theorem d_Mod_step_59 : decode b_Mod_step 59 = .ok (.iconst 3, 1) := by decide +kernel
theorem d_Mod_step_60 : decode b_Mod_step 60 = .ok (.iadd, 1) := by decide +kernel
theorem d_Mod_step_61 : decode b_Mod_step 61 = .ok (.iaload, 1) := by decide +kernel
theorem d_Mod_step_62 : decode b_Mod_step 62 = .ok (.istore 5, 2) := by decide +kernel
theorem d_Mod_step_64 : decode b_Mod_step 64 = .ok (.aload_n 0, 1) := by decide +kernel
theorem d_Mod_step_65 : decode b_Mod_step 65 = .ok (.iload_n 2, 1) := by decide +kernel
theorem d_Mod_step_66 : decode b_Mod_step 66 = .ok (.invokevirtual 379, 3) := by decide +kernel
theorem d_Mod_step_69 : decode b_Mod_step 69 = .ok (.ifCond .ne 5, 3) := by decide +kernel
theorem d_Mod_step_72 : decode b_Mod_step 72 = .ok (.iconst 1, 1) := by decide +kernel
theorem d_Mod_step_73 : decode b_Mod_step 73 = .ok (.ireturn, 1) := by decide +kernel
theorem d_Mod_step_74 : decode b_Mod_step 74 = .ok (.iload_n 2, 1) := by decide +kernel
theorem d_Mod_step_75 : decode b_Mod_step 75 = .ok (.sipush 246, 3) := by decide +kernel
theorem d_Mod_step_78 : decode b_Mod_step 78 = .ok (.if_icmp .eq 10, 3) := by decide +kernel
theorem d_Mod_step_81 : decode b_Mod_step 81 = .ok (.iload_n 2, 1) := by decide +kernel
theorem d_Mod_step_82 : decode b_Mod_step 82 = .ok (.sipush 247, 3) := by decide +kernel
theorem d_Mod_step_85 : decode b_Mod_step 85 = .ok (.if_icmp .ne 11, 3) := by decide +kernel
theorem d_Mod_step_88 : decode b_Mod_step 88 = .ok (.iload_n 3, 1) := by decide +kernel
theorem d_Mod_step_89 : decode b_Mod_step 89 = .ok (.i2l, 1) := by decide +kernel
theorem d_Mod_step_90 : decode b_Mod_step 90 = .ok (.invokestatic 285, 3) := by decide +kernel
theorem d_Mod_step_93 : decode b_Mod_step 93 = .ok (.ifCond .eq 19, 3) := by decide +kernel
theorem d_Mod_step_96 : decode b_Mod_step 96 = .ok (.iload_n 2, 1) := by decide +kernel
theorem d_Mod_step_97 : decode b_Mod_step 97 = .ok (.sipush 254, 3) := by decide +kernel
theorem d_Mod_step_100 : decode b_Mod_step 100 = .ok (.if_icmp .ne 14, 3) := by decide +kernel
theorem d_Mod_step_103 : decode b_Mod_step 103 = .ok (.iload 5, 2) := by decide +kernel
theorem d_Mod_step_105 : decode b_Mod_step 105 = .ok (.i2l, 1) := by decide +kernel
theorem d_Mod_step_106 : decode b_Mod_step 106 = .ok (.invokestatic 285, 3) := by decide +kernel
theorem d_Mod_step_109 : decode b_Mod_step 109 = .ok (.ifCond .ne 5, 3) := by decide +kernel
theorem d_Mod_step_112 : decode b_Mod_step 112 = .ok (.iconst 1, 1) := by decide +kernel
theorem d_Mod_step_113 : decode b_Mod_step 113 = .ok (.ireturn, 1) := by decide +kernel
theorem d_Mod_step_114 : decode b_Mod_step 114 = .ok (.iload_n 2, 1) := by decide +kernel
theorem d_Mod_step_115 : decode b_Mod_step 115 = .ok (.ifCond .ne 14, 3) := by decide +kernel
theorem d_Mod_step_118 : decode b_Mod_step 118 = .ok (.iload_n 3, 1) := by decide +kernel
theorem d_Mod_step_119 : decode b_Mod_step 119 = .ok (.ifCond .ne 10, 3) := by decide +kernel
theorem d_Mod_step_122 : decode b_Mod_step 122 = .ok (.iload 4, 2) := by decide +kernel
theorem d_Mod_step_124 : decode b_Mod_step 124 = .ok (.ifCond .ne 5, 3) := by decide +kernel
theorem d_Mod_step_127 : decode b_Mod_step 127 = .ok (.iconst 5, 1) := by decide +kernel
theorem d_Mod_step_128 : decode b_Mod_step 128 = .ok (.ireturn, 1) := by decide +kernel
theorem d_Mod_step_129 : decode b_Mod_step 129 = .ok (.aload_n 0, 1) := by decide +kernel
theorem d_Mod_step_130 : decode b_Mod_step 130 = .ok (.iconst 0, 1) := by decide +kernel
theorem d_Mod_step_131 : decode b_Mod_step 131 = .ok (.putfield 323, 3) := by decide +kernel
theorem d_Mod_step_134 : decode b_Mod_step 134 = .ok (.aload_n 0, 1) := by decide +kernel
theorem d_Mod_step_135 : decode b_Mod_step 135 = .ok (.lconst 0, 1) := by decide +kernel
theorem d_Mod_step_136 : decode b_Mod_step 136 = .ok (.putfield 382, 3) := by decide +kernel
theorem d_Mod_step_139 : decode b_Mod_step 139 = .ok (.iconst 0, 1) := by decide +kernel
theorem d_Mod_step_140 : decode b_Mod_step 140 = .ok (.istore 6, 2) := by decide +kernel
theorem d_Mod_step_142 : decode b_Mod_step 142 = .ok (.iload 6, 2) := by decide +kernel
theorem d_Mod_step_144 : decode b_Mod_step 144 = .ok (.iconst 4, 1) := by decide +kernel
theorem d_Mod_step_145 : decode b_Mod_step 145 = .ok (.if_icmp .ge 32, 3) := by decide +kernel
theorem d_Mod_step_148 : decode b_Mod_step 148 = .ok (.aload_n 0, 1) := by decide +kernel
theorem d_Mod_step_149 : decode b_Mod_step 149 = .ok (.ldc2_w 79, 3) := by decide +kernel
theorem d_Mod_step_152 : decode b_Mod_step 152 = .ok (.aload_n 0, 1) := by decide +kernel
theorem d_Mod_step_153 : decode b_Mod_step 153 = .ok (.getfield 382, 3) := by decide +kernel
theorem d_Mod_step_156 : decode b_Mod_step 156 = .ok (.lmul, 1) := by decide +kernel
theorem d_Mod_step_157 : decode b_Mod_step 157 = .ok (.aload_n 0, 1) := by decide +kernel
theorem d_Mod_step_158 : decode b_Mod_step 158 = .ok (.getfield 37, 3) := by decide +kernel
theorem d_Mod_step_161 : decode b_Mod_step 161 = .ok (.iload_n 1, 1) := by decide +kernel
theorem d_Mod_step_162 : decode b_Mod_step 162 = .ok (.iload 6, 2) := by decide +kernel
theorem d_Mod_step_164 : decode b_Mod_step 164 = .ok (.iadd, 1) := by decide +kernel
theorem d_Mod_step_165 : decode b_Mod_step 165 = .ok (.iaload, 1) := by decide +kernel
theorem d_Mod_step_166 : decode b_Mod_step 166 = .ok (.i2l, 1) := by decide +kernel
theorem d_Mod_step_167 : decode b_Mod_step 167 = .ok (.ladd, 1) := by decide +kernel
theorem d_Mod_step_168 : decode b_Mod_step 168 = .ok (.putfield 382, 3) := by decide +kernel
theorem d_Mod_step_171 : decode b_Mod_step 171 = .ok (.iinc 6 1, 3) := by decide +kernel
theorem d_Mod_step_174 : decode b_Mod_step 174 = .ok (.goto (-32), 3) := by decide +kernel
theorem d_Mod_step_177 : decode b_Mod_step 177 = .ok (.aload_n 0, 1) := by decide +kernel
theorem d_Mod_step_178 : decode b_Mod_step 178 = .ok (.getfield 81, 3) := by decide +kernel
theorem d_Mod_step_181 : decode b_Mod_step 181 = .ok (.ldc2_w 271, 3) := by decide +kernel
theorem d_Mod_step_184 : decode b_Mod_step 184 = .ok (.ladd, 1) := by decide +kernel
theorem d_Mod_step_185 : decode b_Mod_step 185 = .ok (.lstore 6, 2) := by decide +kernel
theorem d_Mod_step_187 : decode b_Mod_step 187 = .ok (.iconst 1, 1) := by decide +kernel
theorem d_Mod_step_188 : decode b_Mod_step 188 = .ok (.istore 8, 2) := by decide +kernel
theorem d_Mod_step_190 : decode b_Mod_step 190 = .ok (.iload_n 2, 1) := by decide +kernel
theorem d_Mod_step_191 : decode b_Mod_step 191 = .ok (.bipush (-2), 2) := by decide +kernel
theorem d_Mod_step_193 : decode b_Mod_step 193 = .ok (.iand, 1) := by decide +kernel
theorem d_Mod_step_194 : decode b_Mod_step 194 = .ok (.istore 9, 2) := by decide +kernel
theorem d_Mod_step_196 : decode b_Mod_step 196 = .ok (.aload_n 0, 1) := by decide +kernel
theorem d_Mod_step_197 : decode b_Mod_step 197 = .ok (.iload 4, 2) := by decide +kernel
theorem d_Mod_step_199 : decode b_Mod_step 199 = .ok (.invokevirtual 385, 3) := by decide +kernel
theorem d_Mod_step_202 : decode b_Mod_step 202 = .ok (.lstore 10, 2) := by decide +kernel
theorem d_Mod_step_204 : decode b_Mod_step 204 = .ok (.iload_n 2, 1) := by decide +kernel
theorem d_Mod_step_205 : decode b_Mod_step 205 = .ok (.iconst 1, 1) := by decide +kernel
theorem d_Mod_step_206 : decode b_Mod_step 206 = .ok (.iand, 1) := by decide +kernel
theorem d_Mod_step_207 : decode b_Mod_step 207 = .ok (.iconst 1, 1) := by decide +kernel
theorem d_Mod_step_208 : decode b_Mod_step 208 = .ok (.if_icmp .ne 9, 3) := by decide +kernel
theorem d_Mod_step_211 : decode b_Mod_step 211 = .ok (.iload 5, 2) := by decide +kernel
theorem d_Mod_step_213 : decode b_Mod_step 213 = .ok (.i2l, 1) := by decide +kernel
theorem d_Mod_step_214 : decode b_Mod_step 214 = .ok (.goto 9, 3) := by decide +kernel
theorem d_Mod_step_217 : decode b_Mod_step 217 = .ok (.aload_n 0, 1) := by decide +kernel
theorem d_Mod_step_218 : decode b_Mod_step 218 = .ok (.iload 5, 2) := by decide +kernel
theorem d_Mod_step_220 : decode b_Mod_step 220 = .ok (.invokevirtual 385, 3) := by decide +kernel
theorem d_Mod_step_223 : decode b_Mod_step 223 = .ok (.lstore 12, 2) := by decide +kernel
theorem d_Mod_step_225 : decode b_Mod_step 225 = .ok (.iload_n 2, 1) := by decide +kernel
theorem d_Mod_step_226 : decode b_Mod_step 226 = .ok (.sipush 128, 3) := by decide +kernel
theorem d_Mod_step_229 : decode b_Mod_step 229 = .ok (.if_icmp .lt 34, 3) := by decide +kernel
theorem d_Mod_step_232 : decode b_Mod_step 232 = .ok (.iload_n 2, 1) := by decide +kernel
theorem d_Mod_step_233 : decode b_Mod_step 233 = .ok (.sipush 182, 3) := by decide +kernel
theorem d_Mod_step_236 : decode b_Mod_step 236 = .ok (.if_icmp .ge 27, 3) := by decide +kernel
theorem d_Mod_step_239 : decode b_Mod_step 239 = .ok (.aload_n 0, 1) := by decide +kernel
theorem d_Mod_step_240 : decode b_Mod_step 240 = .ok (.iload 9, 2) := by decide +kernel
theorem d_Mod_step_242 : decode b_Mod_step 242 = .ok (.iload_n 3, 1) := by decide +kernel
theorem d_Mod_step_243 : decode b_Mod_step 243 = .ok (.lload 10, 2) := by decide +kernel
theorem d_Mod_step_245 : decode b_Mod_step 245 = .ok (.lload 12, 2) := by decide +kernel
theorem d_Mod_step_247 : decode b_Mod_step 247 = .ok (.invokevirtual 389, 3) := by decide +kernel
theorem d_Mod_step_250 : decode b_Mod_step 250 = .ok (.istore 14, 2) := by decide +kernel
theorem d_Mod_step_252 : decode b_Mod_step 252 = .ok (.iload 14, 2) := by decide +kernel
theorem d_Mod_step_254 : decode b_Mod_step 254 = .ok (.ifCond .le 6, 3) := by decide +kernel
theorem d_Mod_step_257 : decode b_Mod_step 257 = .ok (.iload 14, 2) := by decide +kernel
theorem d_Mod_step_259 : decode b_Mod_step 259 = .ok (.ireturn, 1) := by decide +kernel
theorem d_Mod_step_260 : decode b_Mod_step 260 = .ok (.goto 584, 3) := by decide +kernel
theorem d_Mod_step_263 : decode b_Mod_step 263 = .ok (.iload_n 2, 1) := by decide +kernel
theorem d_Mod_step_264 : decode b_Mod_step 264 = .ok (.bipush 24, 2) := by decide +kernel
theorem d_Mod_step_266 : decode b_Mod_step 266 = .ok (.if_icmp .lt 9, 3) := by decide +kernel
theorem d_Mod_step_269 : decode b_Mod_step 269 = .ok (.iload_n 2, 1) := by decide +kernel
theorem d_Mod_step_270 : decode b_Mod_step 270 = .ok (.bipush 64, 2) := by decide +kernel
theorem d_Mod_step_272 : decode b_Mod_step 272 = .ok (.if_icmp .lt 17, 3) := by decide +kernel
theorem d_Mod_step_275 : decode b_Mod_step 275 = .ok (.iload_n 2, 1) := by decide +kernel
theorem d_Mod_step_276 : decode b_Mod_step 276 = .ok (.sipush 192, 3) := by decide +kernel
theorem d_Mod_step_279 : decode b_Mod_step 279 = .ok (.if_icmp .lt 117, 3) := by decide +kernel
theorem d_Mod_step_282 : decode b_Mod_step 282 = .ok (.iload_n 2, 1) := by decide +kernel
theorem d_Mod_step_283 : decode b_Mod_step 283 = .ok (.sipush 224, 3) := by decide +kernel
theorem d_Mod_step_286 : decode b_Mod_step 286 = .ok (.if_icmp .ge 110, 3) := by decide +kernel
theorem d_Mod_step_289 : decode b_Mod_step 289 = .ok (.iload 9, 2) := by decide +kernel
theorem d_Mod_step_291 : decode b_Mod_step 291 = .ok (.bipush 24, 2) := by decide +kernel
theorem d_Mod_step_293 : decode b_Mod_step 293 = .ok (.if_icmp .eq 10, 3) := by decide +kernel
theorem d_Mod_step_296 : decode b_Mod_step 296 = .ok (.iload 9, 2) := by decide +kernel
theorem d_Mod_step_298 : decode b_Mod_step 298 = .ok (.bipush 26, 2) := by decide +kernel
theorem d_Mod_step_300 : decode b_Mod_step 300 = .ok (.if_icmp .ne 8, 3) := by decide +kernel
theorem d_Mod_step_303 : decode b_Mod_step 303 = .ok (.bipush 10, 2) := by decide +kernel
theorem d_Mod_step_305 : decode b_Mod_step 305 = .ok (.goto 23, 3) := by decide +kernel
theorem d_Mod_step_308 : decode b_Mod_step 308 = .ok (.iload 9, 2) := by decide +kernel
theorem d_Mod_step_310 : decode b_Mod_step 310 = .ok (.bipush 28, 2) := by decide +kernel
theorem d_Mod_step_312 : decode b_Mod_step 312 = .ok (.if_icmp .eq 10, 3) := by decide +kernel
theorem d_Mod_step_315 : decode b_Mod_step 315 = .ok (.iload 9, 2) := by decide +kernel
theorem d_Mod_step_317 : decode b_Mod_step 317 = .ok (.bipush 30, 2) := by decide +kernel
theorem d_Mod_step_319 : decode b_Mod_step 319 = .ok (.if_icmp .ne 8, 3) := by decide +kernel
theorem d_Mod_step_322 : decode b_Mod_step 322 = .ok (.bipush 60, 2) := by decide +kernel
theorem d_Mod_step_324 : decode b_Mod_step 324 = .ok (.goto 4, 3) := by decide +kernel
theorem d_Mod_step_327 : decode b_Mod_step 327 = .ok (.iconst 1, 1) := by decide +kernel
theorem d_Mod_step_328 : decode b_Mod_step 328 = .ok (.istore 8, 2) := by decide +kernel
theorem d_Mod_step_330 : decode b_Mod_step 330 = .ok (.iload 9, 2) := by decide +kernel
theorem d_Mod_step_332 : decode b_Mod_step 332 = .ok (.bipush 52, 2) := by decide +kernel
theorem d_Mod_step_334 : decode b_Mod_step 334 = .ok (.if_icmp .eq 10, 3) := by decide +kernel
theorem d_Mod_step_337 : decode b_Mod_step 337 = .ok (.iload 9, 2) := by decide +kernel
theorem d_Mod_step_339 : decode b_Mod_step 339 = .ok (.bipush 54, 2) := by decide +kernel
theorem d_Mod_step_341 : decode b_Mod_step 341 = .ok (.if_icmp .ne 37, 3) := by decide +kernel
theorem d_Mod_step_344 : decode b_Mod_step 344 = .ok (.aload_n 0, 1) := by decide +kernel
theorem d_Mod_step_345 : decode b_Mod_step 345 = .ok (.iload_n 3, 1) := by decide +kernel
theorem d_Mod_step_346 : decode b_Mod_step 346 = .ok (.iload 9, 2) := by decide +kernel
theorem d_Mod_step_348 : decode b_Mod_step 348 = .ok (.bipush 52, 2) := by decide +kernel
theorem d_Mod_step_350 : decode b_Mod_step 350 = .ok (.if_icmp .ne 16, 3) := by decide +kernel
theorem d_Mod_step_353 : decode b_Mod_step 353 = .ok (.aload_n 0, 1) := by decide +kernel
theorem d_Mod_step_354 : decode b_Mod_step 354 = .ok (.iload 4, 2) := by decide +kernel
theorem d_Mod_step_356 : decode b_Mod_step 356 = .ok (.i2l, 1) := by decide +kernel
theorem d_Mod_step_357 : decode b_Mod_step 357 = .ok (.lload 12, 2) := by decide +kernel
theorem d_Mod_step_359 : decode b_Mod_step 359 = .ok (.iconst 1, 1) := by decide +kernel
theorem d_Mod_step_360 : decode b_Mod_step 360 = .ok (.invokevirtual 365, 3) := by decide +kernel
theorem d_Mod_step_363 : decode b_Mod_step 363 = .ok (.goto 9, 3) := by decide +kernel
theorem d_Mod_step_366 : decode b_Mod_step 366 = .ok (.iload 4, 2) := by decide +kernel
theorem d_Mod_step_368 : decode b_Mod_step 368 = .ok (.i2l, 1) := by decide +kernel
theorem d_Mod_step_369 : decode b_Mod_step 369 = .ok (.lload 12, 2) := by decide +kernel
theorem d_Mod_step_371 : decode b_Mod_step 371 = .ok (.lsub, 1) := by decide +kernel
theorem d_Mod_step_372 : decode b_Mod_step 372 = .ok (.invokevirtual 393, 3) := by decide +kernel
theorem d_Mod_step_375 : decode b_Mod_step 375 = .ok (.goto 469, 3) := by decide +kernel
theorem d_Mod_step_378 : decode b_Mod_step 378 = .ok (.aload_n 0, 1) := by decide +kernel
theorem d_Mod_step_379 : decode b_Mod_step 379 = .ok (.iload_n 3, 1) := by decide +kernel
theorem d_Mod_step_380 : decode b_Mod_step 380 = .ok (.aload_n 0, 1) := by decide +kernel
theorem d_Mod_step_381 : decode b_Mod_step 381 = .ok (.iload 9, 2) := by decide +kernel
theorem d_Mod_step_383 : decode b_Mod_step 383 = .ok (.lload 10, 2) := by decide +kernel
theorem d_Mod_step_385 : decode b_Mod_step 385 = .ok (.lload 12, 2) := by decide +kernel
theorem d_Mod_step_387 : decode b_Mod_step 387 = .ok (.invokevirtual 396, 3) := by decide +kernel
theorem d_Mod_step_390 : decode b_Mod_step 390 = .ok (.invokevirtual 393, 3) := by decide +kernel
theorem d_Mod_step_393 : decode b_Mod_step 393 = .ok (.goto 451, 3) := by decide +kernel
theorem d_Mod_step_396 : decode b_Mod_step 396 = .ok (.iload_n 2, 1) := by decide +kernel
theorem d_Mod_step_397 : decode b_Mod_step 397 = .ok (.bipush 64, 2) := by decide +kernel
theorem d_Mod_step_399 : decode b_Mod_step 399 = .ok (.if_icmp .lt 79, 3) := by decide +kernel
theorem d_Mod_step_402 : decode b_Mod_step 402 = .ok (.iload_n 2, 1) := by decide +kernel
theorem d_Mod_step_403 : decode b_Mod_step 403 = .ok (.bipush 96, 2) := by decide +kernel
theorem d_Mod_step_405 : decode b_Mod_step 405 = .ok (.if_icmp .ge 73, 3) := by decide +kernel
theorem d_Mod_step_408 : decode b_Mod_step 408 = .ok (.iload_n 2, 1) := by decide +kernel
theorem d_Mod_step_409 : decode b_Mod_step 409 = .ok (.bipush 64, 2) := by decide +kernel
theorem d_Mod_step_411 : decode b_Mod_step 411 = .ok (.isub, 1) := by decide +kernel
theorem d_Mod_step_412 : decode b_Mod_step 412 = .ok (.iconst 1, 1) := by decide +kernel
theorem d_Mod_step_413 : decode b_Mod_step 413 = .ok (.ishr, 1) := by decide +kernel
theorem d_Mod_step_414 : decode b_Mod_step 414 = .ok (.bipush 7, 2) := by decide +kernel
theorem d_Mod_step_416 : decode b_Mod_step 416 = .ok (.iand, 1) := by decide +kernel
theorem d_Mod_step_417 : decode b_Mod_step 417 = .ok (.aload_n 0, 1) := by decide +kernel
theorem d_Mod_step_418 : decode b_Mod_step 418 = .ok (.iload_n 3, 1) := by decide +kernel
theorem d_Mod_step_419 : decode b_Mod_step 419 = .ok (.invokevirtual 385, 3) := by decide +kernel
theorem d_Mod_step_422 : decode b_Mod_step 422 = .ok (.invokestatic 399, 3) := by decide +kernel
theorem d_Mod_step_425 : decode b_Mod_step 425 = .ok (.istore 14, 2) := by decide +kernel
theorem d_Mod_step_427 : decode b_Mod_step 427 = .ok (.iload 14, 2) := by decide +kernel
theorem d_Mod_step_429 : decode b_Mod_step 429 = .ok (.iload_n 2, 1) := by decide +kernel
theorem d_Mod_step_430 : decode b_Mod_step 430 = .ok (.bipush 80, 2) := by decide +kernel
theorem d_Mod_step_432 : decode b_Mod_step 432 = .ok (.if_icmp .ge 7, 3) := by decide +kernel
theorem d_Mod_step_435 : decode b_Mod_step 435 = .ok (.iconst 1, 1) := by decide +kernel
theorem d_Mod_step_436 : decode b_Mod_step 436 = .ok (.goto 4, 3) := by decide +kernel
theorem d_Mod_step_439 : decode b_Mod_step 439 = .ok (.iconst 0, 1) := by decide +kernel
theorem d_Mod_step_440 : decode b_Mod_step 440 = .ok (.if_icmp .ne 7, 3) := by decide +kernel
theorem d_Mod_step_443 : decode b_Mod_step 443 = .ok (.iconst 3, 1) := by decide +kernel
