abbrev b_Lin_behindBlanks : ByteArray := prog_5_method_5_code
abbrev b_Lin_blankFrom : ByteArray := prog_5_method_6_code
abbrev b_Lin_findEnd : ByteArray := prog_5_method_4_code
abbrev b_Lin_isDigit : ByteArray := prog_5_method_8_code
abbrev b_Lin_isLetter : ByteArray := prog_5_method_7_code
abbrev b_Lin_isNothing : ByteArray := prog_5_method_2_code
abbrev b_Lin_nameEnd : ByteArray := prog_5_method_9_code
abbrev b_Lin_read : ByteArray := prog_5_method_3_code
abbrev b_Opn_find : ByteArray := prog_9_method_3_code
abbrev b_Opn_isData : ByteArray := prog_9_method_4_code
abbrev b_Opn_kindOf : ByteArray := prog_9_method_6_code
abbrev b_Opn_sizeOf : ByteArray := prog_9_method_5_code
abbrev y_Lin_behindBlanks : MethodName := ⟨"LittleMix$Line", "behindBlanks", "(I)I"⟩
abbrev y_Lin_blankFrom : MethodName := ⟨"LittleMix$Line", "blankFrom", "(I)I"⟩
abbrev y_Lin_findEnd : MethodName := ⟨"LittleMix$Line", "findEnd", "(II)V"⟩
abbrev y_Lin_isDigit : MethodName := ⟨"LittleMix$Line", "isDigit", "(C)Z"⟩
abbrev y_Lin_isLetter : MethodName := ⟨"LittleMix$Line", "isLetter", "(C)Z"⟩
abbrev y_Lin_isNothing : MethodName := ⟨"LittleMix$Line", "isNothing", "()Z"⟩
abbrev y_Lin_nameEnd : MethodName := ⟨"LittleMix$Line", "nameEnd", "([CII)I"⟩
abbrev y_Lin_read : MethodName := ⟨"LittleMix$Line", "read", "(II)Z"⟩
abbrev y_Opn_find : MethodName := ⟨"LittleMix$Operations", "find", "([CII)I"⟩
abbrev y_Opn_isData : MethodName := ⟨"LittleMix$Operations", "isData", "(I)Z"⟩
abbrev y_Opn_kindOf : MethodName := ⟨"LittleMix$Operations", "kindOf", "(I)I"⟩
abbrev y_Opn_sizeOf : MethodName := ⟨"LittleMix$Operations", "sizeOf", "(I)I"⟩
theorem p_Lin_behindBlanks : y_Lin_behindBlanks.cls ≠ "java/lang/invoke/MethodHandle" ∧ y_Lin_behindBlanks.cls ≠ "java/lang/invoke/VarHandle" ∧ (parseMethodDescriptor y_Lin_behindBlanks.desc).map (fun d => d.parameters.length) = some 1 := by decide +kernel
theorem p_Lin_blankFrom : y_Lin_blankFrom.cls ≠ "java/lang/invoke/MethodHandle" ∧ y_Lin_blankFrom.cls ≠ "java/lang/invoke/VarHandle" ∧ (parseMethodDescriptor y_Lin_blankFrom.desc).map (fun d => d.parameters.length) = some 1 := by decide +kernel
theorem p_Lin_findEnd : y_Lin_findEnd.cls ≠ "java/lang/invoke/MethodHandle" ∧ y_Lin_findEnd.cls ≠ "java/lang/invoke/VarHandle" ∧ (parseMethodDescriptor y_Lin_findEnd.desc).map (fun d => d.parameters.length) = some 2 := by decide +kernel
theorem p_Lin_isDigit : y_Lin_isDigit.cls ≠ "java/lang/invoke/MethodHandle" ∧ y_Lin_isDigit.cls ≠ "java/lang/invoke/VarHandle" ∧ (parseMethodDescriptor y_Lin_isDigit.desc).map (fun d => d.parameters.length) = some 1 := by decide +kernel
theorem p_Lin_isLetter : y_Lin_isLetter.cls ≠ "java/lang/invoke/MethodHandle" ∧ y_Lin_isLetter.cls ≠ "java/lang/invoke/VarHandle" ∧ (parseMethodDescriptor y_Lin_isLetter.desc).map (fun d => d.parameters.length) = some 1 := by decide +kernel
theorem p_Lin_nameEnd : y_Lin_nameEnd.cls ≠ "java/lang/invoke/MethodHandle" ∧ y_Lin_nameEnd.cls ≠ "java/lang/invoke/VarHandle" ∧ (parseMethodDescriptor y_Lin_nameEnd.desc).map (fun d => d.parameters.length) = some 3 := by decide +kernel
theorem p_Opn_find : y_Opn_find.cls ≠ "java/lang/invoke/MethodHandle" ∧ y_Opn_find.cls ≠ "java/lang/invoke/VarHandle" ∧ (parseMethodDescriptor y_Opn_find.desc).map (fun d => d.parameters.length) = some 3 := by decide +kernel
theorem k_219 : (Jvm.Cond.fieldLink "LittleMix$Line" (30 : Nat) "LittleMix$Line" "labelAt" "I") ∈ mx_T := List.mem_filter.mpr ⟨List.mem_append_right _ ((List.mem_append_left _ (List.mem_of_getElem? (l := tables_1_1) (i := 219) (by decide +kernel)))), rfl⟩
theorem k_221 : (Jvm.Cond.fieldLink "LittleMix$Line" (33 : Nat) "LittleMix$Line" "labelSize" "I") ∈ mx_T := List.mem_filter.mpr ⟨List.mem_append_right _ ((List.mem_append_left _ (List.mem_of_getElem? (l := tables_1_1) (i := 221) (by decide +kernel)))), rfl⟩
theorem k_223 : (Jvm.Cond.fieldLink "LittleMix$Line" (22 : Nat) "LittleMix$Line" "operation" "I") ∈ mx_T := List.mem_filter.mpr ⟨List.mem_append_right _ ((List.mem_append_left _ (List.mem_of_getElem? (l := tables_1_1) (i := 223) (by decide +kernel)))), rfl⟩
theorem k_225 : (Jvm.Cond.fieldLink "LittleMix$Line" (39 : Nat) "LittleMix$Line" "operandsAt" "I") ∈ mx_T := List.mem_filter.mpr ⟨List.mem_append_right _ ((List.mem_append_left _ (List.mem_of_getElem? (l := tables_1_1) (i := 225) (by decide +kernel)))), rfl⟩
theorem k_227 : (Jvm.Cond.fieldLink "LittleMix$Line" (36 : Nat) "LittleMix$Line" "end" "I") ∈ mx_T := List.mem_filter.mpr ⟨List.mem_append_right _ ((List.mem_append_left _ (List.mem_of_getElem? (l := tables_1_1) (i := 227) (by decide +kernel)))), rfl⟩
theorem k_428 : (Jvm.Cond.methodLink "LittleMix$Line" (26 : Nat) ({ cls := "LittleMix$Line", name := "findEnd", desc := "(II)V" } : Jvm.MethodName)) ∈ mx_T := List.mem_filter.mpr ⟨List.mem_append_right _ ((List.mem_append_right _ (List.mem_append_left _ (List.mem_of_getElem? (l := tables_1_2) (i := 188) (by decide +kernel))))), rfl⟩
theorem k_430 : (Jvm.Cond.instanceMethod ({ cls := "LittleMix$Line", name := "findEnd", desc := "(II)V" } : Jvm.MethodName)) ∈ mx_T := List.mem_filter.mpr ⟨List.mem_append_right _ ((List.mem_append_right _ (List.mem_append_left _ (List.mem_of_getElem? (l := tables_1_2) (i := 190) (by decide +kernel))))), rfl⟩
theorem k_431 : (Jvm.Cond.code ({ cls := "LittleMix$Line", name := "findEnd", desc := "(II)V" } : Jvm.MethodName) prog_5_method_4_code (3 : Nat) (Option.none : Option Jvm.ClassFile.FieldType)) ∈ mx_T := List.mem_filter.mpr ⟨List.mem_append_right _ ((List.mem_append_right _ (List.mem_append_left _ (List.mem_of_getElem? (l := tables_1_2) (i := 191) rfl)))), rfl⟩
theorem k_432 : (Jvm.Cond.methodLink "LittleMix$Line" (42 : Nat) ({ cls := "LittleMix$Line", name := "isLetter", desc := "(C)Z" } : Jvm.MethodName)) ∈ mx_T := List.mem_filter.mpr ⟨List.mem_append_right _ ((List.mem_append_right _ (List.mem_append_left _ (List.mem_of_getElem? (l := tables_1_2) (i := 192) (by decide +kernel))))), rfl⟩
theorem k_433 : (Jvm.Cond.static ({ cls := "LittleMix$Line", name := "isLetter", desc := "(C)Z" } : Jvm.MethodName)) ∈ mx_T := List.mem_filter.mpr ⟨List.mem_append_right _ ((List.mem_append_right _ (List.mem_append_left _ (List.mem_of_getElem? (l := tables_1_2) (i := 193) (by decide +kernel))))), rfl⟩
theorem k_434 : (Jvm.Cond.code ({ cls := "LittleMix$Line", name := "isLetter", desc := "(C)Z" } : Jvm.MethodName) prog_5_method_7_code (1 : Nat) (Option.some Jvm.ClassFile.FieldType.boolean)) ∈ mx_T := List.mem_filter.mpr ⟨List.mem_append_right _ ((List.mem_append_right _ (List.mem_append_left _ (List.mem_of_getElem? (l := tables_1_2) (i := 194) rfl)))), rfl⟩
theorem k_435 : (Jvm.Cond.methodLink "LittleMix$Line" (46 : Nat) ({ cls := "LittleMix$Line", name := "nameEnd", desc := "([CII)I" } : Jvm.MethodName)) ∈ mx_T := List.mem_filter.mpr ⟨List.mem_append_right _ ((List.mem_append_right _ (List.mem_append_left _ (List.mem_of_getElem? (l := tables_1_2) (i := 195) (by decide +kernel))))), rfl⟩
theorem k_436 : (Jvm.Cond.static ({ cls := "LittleMix$Line", name := "nameEnd", desc := "([CII)I" } : Jvm.MethodName)) ∈ mx_T := List.mem_filter.mpr ⟨List.mem_append_right _ ((List.mem_append_right _ (List.mem_append_left _ (List.mem_of_getElem? (l := tables_1_2) (i := 196) (by decide +kernel))))), rfl⟩
theorem k_437 : (Jvm.Cond.code ({ cls := "LittleMix$Line", name := "nameEnd", desc := "([CII)I" } : Jvm.MethodName) prog_5_method_9_code (4 : Nat) (Option.some Jvm.ClassFile.FieldType.int)) ∈ mx_T := List.mem_filter.mpr ⟨List.mem_append_right _ ((List.mem_append_right _ (List.mem_append_left _ (List.mem_of_getElem? (l := tables_1_2) (i := 197) rfl)))), rfl⟩
theorem k_438 : (Jvm.Cond.methodLink "LittleMix$Line" (60 : Nat) ({ cls := "LittleMix$Line", name := "isDigit", desc := "(C)Z" } : Jvm.MethodName)) ∈ mx_T := List.mem_filter.mpr ⟨List.mem_append_right _ ((List.mem_append_right _ (List.mem_append_left _ (List.mem_of_getElem? (l := tables_1_2) (i := 198) (by decide +kernel))))), rfl⟩
theorem k_439 : (Jvm.Cond.static ({ cls := "LittleMix$Line", name := "isDigit", desc := "(C)Z" } : Jvm.MethodName)) ∈ mx_T := List.mem_filter.mpr ⟨List.mem_append_right _ ((List.mem_append_right _ (List.mem_append_left _ (List.mem_of_getElem? (l := tables_1_2) (i := 199) (by decide +kernel))))), rfl⟩
theorem k_440 : (Jvm.Cond.code ({ cls := "LittleMix$Line", name := "isDigit", desc := "(C)Z" } : Jvm.MethodName) prog_5_method_8_code (1 : Nat) (Option.some Jvm.ClassFile.FieldType.boolean)) ∈ mx_T := List.mem_filter.mpr ⟨List.mem_append_right _ ((List.mem_append_right _ (List.mem_append_left _ (List.mem_of_getElem? (l := tables_1_2) (i := 200) rfl)))), rfl⟩
theorem k_441 : (Jvm.Cond.methodLink "LittleMix$Line" (50 : Nat) ({ cls := "LittleMix$Line", name := "behindBlanks", desc := "(I)I" } : Jvm.MethodName)) ∈ mx_T := List.mem_filter.mpr ⟨List.mem_append_right _ ((List.mem_append_right _ (List.mem_append_left _ (List.mem_of_getElem? (l := tables_1_2) (i := 201) (by decide +kernel))))), rfl⟩
theorem k_443 : (Jvm.Cond.instanceMethod ({ cls := "LittleMix$Line", name := "behindBlanks", desc := "(I)I" } : Jvm.MethodName)) ∈ mx_T := List.mem_filter.mpr ⟨List.mem_append_right _ ((List.mem_append_right _ (List.mem_append_left _ (List.mem_of_getElem? (l := tables_1_2) (i := 203) (by decide +kernel))))), rfl⟩
theorem k_444 : (Jvm.Cond.code ({ cls := "LittleMix$Line", name := "behindBlanks", desc := "(I)I" } : Jvm.MethodName) prog_5_method_5_code (3 : Nat) (Option.some Jvm.ClassFile.FieldType.int)) ∈ mx_T := List.mem_filter.mpr ⟨List.mem_append_right _ ((List.mem_append_right _ (List.mem_append_left _ (List.mem_of_getElem? (l := tables_1_2) (i := 204) rfl)))), rfl⟩
theorem k_445 : (Jvm.Cond.methodLink "LittleMix$Line" (54 : Nat) ({ cls := "LittleMix$Line", name := "blankFrom", desc := "(I)I" } : Jvm.MethodName)) ∈ mx_T := List.mem_filter.mpr ⟨List.mem_append_right _ ((List.mem_append_right _ (List.mem_append_left _ (List.mem_of_getElem? (l := tables_1_2) (i := 205) (by decide +kernel))))), rfl⟩
theorem k_447 : (Jvm.Cond.instanceMethod ({ cls := "LittleMix$Line", name := "blankFrom", desc := "(I)I" } : Jvm.MethodName)) ∈ mx_T := List.mem_filter.mpr ⟨List.mem_append_right _ ((List.mem_append_right _ (List.mem_append_left _ (List.mem_of_getElem? (l := tables_1_2) (i := 207) (by decide +kernel))))), rfl⟩
theorem k_448 : (Jvm.Cond.code ({ cls := "LittleMix$Line", name := "blankFrom", desc := "(I)I" } : Jvm.MethodName) prog_5_method_6_code (3 : Nat) (Option.some Jvm.ClassFile.FieldType.int)) ∈ mx_T := List.mem_filter.mpr ⟨List.mem_append_right _ ((List.mem_append_right _ (List.mem_append_left _ (List.mem_of_getElem? (l := tables_1_2) (i := 208) rfl)))), rfl⟩
theorem k_449 : (Jvm.Cond.methodLink "LittleMix$Line" (57 : Nat) ({ cls := "LittleMix$Operations", name := "find", desc := "([CII)I" } : Jvm.MethodName)) ∈ mx_T := List.mem_filter.mpr ⟨List.mem_append_right _ ((List.mem_append_right _ (List.mem_append_left _ (List.mem_of_getElem? (l := tables_1_2) (i := 209) (by decide +kernel))))), rfl⟩
theorem k_450 : (Jvm.Cond.instanceMethod ({ cls := "LittleMix$Operations", name := "find", desc := "([CII)I" } : Jvm.MethodName)) ∈ mx_T := List.mem_filter.mpr ⟨List.mem_append_right _ ((List.mem_append_right _ (List.mem_append_left _ (List.mem_of_getElem? (l := tables_1_2) (i := 210) (by decide +kernel))))), rfl⟩
theorem k_451 : (Jvm.Cond.selects "LittleMix$Operations" ({ cls := "LittleMix$Operations", name := "find", desc := "([CII)I" } : Jvm.MethodName) ({ cls := "LittleMix$Operations", name := "find", desc := "([CII)I" } : Jvm.MethodName)) ∈ mx_T := List.mem_filter.mpr ⟨List.mem_append_right _ ((List.mem_append_right _ (List.mem_append_left _ (List.mem_of_getElem? (l := tables_1_2) (i := 211) (by decide +kernel))))), rfl⟩
theorem k_452 : (Jvm.Cond.code ({ cls := "LittleMix$Operations", name := "find", desc := "([CII)I" } : Jvm.MethodName) prog_9_method_3_code (7 : Nat) (Option.some Jvm.ClassFile.FieldType.int)) ∈ mx_T := List.mem_filter.mpr ⟨List.mem_append_right _ ((List.mem_append_right _ (List.mem_append_left _ (List.mem_of_getElem? (l := tables_1_2) (i := 212) rfl)))), rfl⟩
theorem sl_Lin_findEnd : Cond.selects y_Lin_findEnd.cls y_Lin_findEnd y_Lin_findEnd ∈ mx_T := List.mem_filter.mpr ⟨List.mem_append_left _ (by decide +kernel), by decide +kernel⟩
theorem sl_Lin_behindBlanks : Cond.selects y_Lin_behindBlanks.cls y_Lin_behindBlanks y_Lin_behindBlanks ∈ mx_T := List.mem_filter.mpr ⟨List.mem_append_left _ (by decide +kernel), by decide +kernel⟩
theorem sl_Lin_blankFrom : Cond.selects y_Lin_blankFrom.cls y_Lin_blankFrom y_Lin_blankFrom ∈ mx_T := List.mem_filter.mpr ⟨List.mem_append_left _ (by decide +kernel), by decide +kernel⟩
theorem d_Lin_behindBlanks_0 : decode b_Lin_behindBlanks 0 = .ok (.iload_n 1, 1) := by decide +kernel
theorem d_Lin_behindBlanks_1 : decode b_Lin_behindBlanks 1 = .ok (.istore_n 2, 1) := by decide +kernel
theorem d_Lin_behindBlanks_2 : decode b_Lin_behindBlanks 2 = .ok (.iload_n 2, 1) := by decide +kernel
theorem d_Lin_behindBlanks_3 : decode b_Lin_behindBlanks 3 = .ok (.aload_n 0, 1) := by decide +kernel
theorem d_Lin_behindBlanks_4 : decode b_Lin_behindBlanks 4 = .ok (.getfield 36, 3) := by decide +kernel
theorem d_Lin_behindBlanks_7 : decode b_Lin_behindBlanks 7 = .ok (.if_icmp .ge 20, 3) := by decide +kernel
theorem d_Lin_behindBlanks_10 : decode b_Lin_behindBlanks 10 = .ok (.aload_n 0, 1) := by decide +kernel
theorem d_Lin_behindBlanks_11 : decode b_Lin_behindBlanks 11 = .ok (.getfield 18, 3) := by decide +kernel
theorem d_Lin_behindBlanks_14 : decode b_Lin_behindBlanks 14 = .ok (.iload_n 2, 1) := by decide +kernel
theorem d_Lin_behindBlanks_15 : decode b_Lin_behindBlanks 15 = .ok (.caload, 1) := by decide +kernel
theorem d_Lin_behindBlanks_16 : decode b_Lin_behindBlanks 16 = .ok (.bipush 32, 2) := by decide +kernel
theorem d_Lin_behindBlanks_18 : decode b_Lin_behindBlanks 18 = .ok (.if_icmp .ne 9, 3) := by decide +kernel
theorem d_Lin_behindBlanks_21 : decode b_Lin_behindBlanks 21 = .ok (.iinc 2 1, 3) := by decide +kernel
theorem d_Lin_behindBlanks_24 : decode b_Lin_behindBlanks 24 = .ok (.goto (-22), 3) := by decide +kernel
theorem d_Lin_behindBlanks_27 : decode b_Lin_behindBlanks 27 = .ok (.iload_n 2, 1) := by decide +kernel
theorem d_Lin_behindBlanks_28 : decode b_Lin_behindBlanks 28 = .ok (.ireturn, 1) := by decide +kernel
theorem d_Lin_blankFrom_0 : decode b_Lin_blankFrom 0 = .ok (.iload_n 1, 1) := by decide +kernel
theorem d_Lin_blankFrom_1 : decode b_Lin_blankFrom 1 = .ok (.istore_n 2, 1) := by decide +kernel
theorem d_Lin_blankFrom_2 : decode b_Lin_blankFrom 2 = .ok (.iload_n 2, 1) := by decide +kernel
theorem d_Lin_blankFrom_3 : decode b_Lin_blankFrom 3 = .ok (.aload_n 0, 1) := by decide +kernel
theorem d_Lin_blankFrom_4 : decode b_Lin_blankFrom 4 = .ok (.getfield 36, 3) := by decide +kernel
theorem d_Lin_blankFrom_7 : decode b_Lin_blankFrom 7 = .ok (.if_icmp .ge 20, 3) := by decide +kernel
theorem d_Lin_blankFrom_10 : decode b_Lin_blankFrom 10 = .ok (.aload_n 0, 1) := by decide +kernel
theorem d_Lin_blankFrom_11 : decode b_Lin_blankFrom 11 = .ok (.getfield 18, 3) := by decide +kernel
theorem d_Lin_blankFrom_14 : decode b_Lin_blankFrom 14 = .ok (.iload_n 2, 1) := by decide +kernel
theorem d_Lin_blankFrom_15 : decode b_Lin_blankFrom 15 = .ok (.caload, 1) := by decide +kernel
theorem d_Lin_blankFrom_16 : decode b_Lin_blankFrom 16 = .ok (.bipush 32, 2) := by decide +kernel
theorem d_Lin_blankFrom_18 : decode b_Lin_blankFrom 18 = .ok (.if_icmp .eq 9, 3) := by decide +kernel
theorem d_Lin_blankFrom_21 : decode b_Lin_blankFrom 21 = .ok (.iinc 2 1, 3) := by decide +kernel
theorem d_Lin_blankFrom_24 : decode b_Lin_blankFrom 24 = .ok (.goto (-22), 3) := by decide +kernel
theorem d_Lin_blankFrom_27 : decode b_Lin_blankFrom 27 = .ok (.iload_n 2, 1) := by decide +kernel
theorem d_Lin_blankFrom_28 : decode b_Lin_blankFrom 28 = .ok (.ireturn, 1) := by decide +kernel
theorem d_Lin_findEnd_0 : decode b_Lin_findEnd 0 = .ok (.aload_n 0, 1) := by decide +kernel
theorem d_Lin_findEnd_1 : decode b_Lin_findEnd 1 = .ok (.iload_n 1, 1) := by decide +kernel
theorem d_Lin_findEnd_2 : decode b_Lin_findEnd 2 = .ok (.putfield 36, 3) := by decide +kernel
theorem d_Lin_findEnd_5 : decode b_Lin_findEnd 5 = .ok (.aload_n 0, 1) := by decide +kernel
theorem d_Lin_findEnd_6 : decode b_Lin_findEnd 6 = .ok (.getfield 36, 3) := by decide +kernel
theorem d_Lin_findEnd_9 : decode b_Lin_findEnd 9 = .ok (.iload_n 2, 1) := by decide +kernel
theorem d_Lin_findEnd_10 : decode b_Lin_findEnd 10 = .ok (.if_icmp .ge 30, 3) := by decide +kernel
theorem d_Lin_findEnd_13 : decode b_Lin_findEnd 13 = .ok (.aload_n 0, 1) := by decide +kernel
theorem d_Lin_findEnd_14 : decode b_Lin_findEnd 14 = .ok (.getfield 18, 3) := by decide +kernel
theorem d_Lin_findEnd_17 : decode b_Lin_findEnd 17 = .ok (.aload_n 0, 1) := by decide +kernel
theorem d_Lin_findEnd_18 : decode b_Lin_findEnd 18 = .ok (.getfield 36, 3) := by decide +kernel
theorem d_Lin_findEnd_21 : decode b_Lin_findEnd 21 = .ok (.caload, 1) := by decide +kernel
theorem d_Lin_findEnd_22 : decode b_Lin_findEnd 22 = .ok (.bipush 10, 2) := by decide +kernel
theorem d_Lin_findEnd_24 : decode b_Lin_findEnd 24 = .ok (.if_icmp .eq 16, 3) := by decide +kernel
theorem d_Lin_findEnd_27 : decode b_Lin_findEnd 27 = .ok (.aload_n 0, 1) := by decide +kernel
theorem d_Lin_findEnd_28 : decode b_Lin_findEnd 28 = .ok (.dup, 1) := by decide +kernel
theorem d_Lin_findEnd_29 : decode b_Lin_findEnd 29 = .ok (.getfield 36, 3) := by decide +kernel
theorem d_Lin_findEnd_32 : decode b_Lin_findEnd 32 = .ok (.iconst 1, 1) := by decide +kernel
theorem d_Lin_findEnd_33 : decode b_Lin_findEnd 33 = .ok (.iadd, 1) := by decide +kernel
theorem d_Lin_findEnd_34 : decode b_Lin_findEnd 34 = .ok (.putfield 36, 3) := by decide +kernel
theorem d_Lin_findEnd_37 : decode b_Lin_findEnd 37 = .ok (.goto (-32), 3) := by decide +kernel
theorem d_Lin_findEnd_40 : decode b_Lin_findEnd 40 = .ok (.return_, 1) := by decide +kernel
theorem d_Lin_isDigit_0 : decode b_Lin_isDigit 0 = .ok (.iload_n 0, 1) := by decide +kernel
theorem d_Lin_isDigit_1 : decode b_Lin_isDigit 1 = .ok (.bipush 48, 2) := by decide +kernel
theorem d_Lin_isDigit_3 : decode b_Lin_isDigit 3 = .ok (.if_icmp .lt 13, 3) := by decide +kernel
theorem d_Lin_isDigit_6 : decode b_Lin_isDigit 6 = .ok (.iload_n 0, 1) := by decide +kernel
theorem d_Lin_isDigit_7 : decode b_Lin_isDigit 7 = .ok (.bipush 57, 2) := by decide +kernel
theorem d_Lin_isDigit_9 : decode b_Lin_isDigit 9 = .ok (.if_icmp .gt 7, 3) := by decide +kernel
theorem d_Lin_isDigit_12 : decode b_Lin_isDigit 12 = .ok (.iconst 1, 1) := by decide +kernel
theorem d_Lin_isDigit_13 : decode b_Lin_isDigit 13 = .ok (.goto 4, 3) := by decide +kernel
theorem d_Lin_isDigit_16 : decode b_Lin_isDigit 16 = .ok (.iconst 0, 1) := by decide +kernel
theorem d_Lin_isDigit_17 : decode b_Lin_isDigit 17 = .ok (.ireturn, 1) := by decide +kernel
theorem d_Lin_isLetter_0 : decode b_Lin_isLetter 0 = .ok (.iload_n 0, 1) := by decide +kernel
theorem d_Lin_isLetter_1 : decode b_Lin_isLetter 1 = .ok (.bipush 65, 2) := by decide +kernel
theorem d_Lin_isLetter_3 : decode b_Lin_isLetter 3 = .ok (.if_icmp .lt 9, 3) := by decide +kernel
theorem d_Lin_isLetter_6 : decode b_Lin_isLetter 6 = .ok (.iload_n 0, 1) := by decide +kernel
theorem d_Lin_isLetter_7 : decode b_Lin_isLetter 7 = .ok (.bipush 90, 2) := by decide +kernel
theorem d_Lin_isLetter_9 : decode b_Lin_isLetter 9 = .ok (.if_icmp .le 15, 3) := by decide +kernel
theorem d_Lin_isLetter_12 : decode b_Lin_isLetter 12 = .ok (.iload_n 0, 1) := by decide +kernel
theorem d_Lin_isLetter_13 : decode b_Lin_isLetter 13 = .ok (.bipush 97, 2) := by decide +kernel
theorem d_Lin_isLetter_15 : decode b_Lin_isLetter 15 = .ok (.if_icmp .lt 13, 3) := by decide +kernel
theorem d_Lin_isLetter_18 : decode b_Lin_isLetter 18 = .ok (.iload_n 0, 1) := by decide +kernel
theorem d_Lin_isLetter_19 : decode b_Lin_isLetter 19 = .ok (.bipush 122, 2) := by decide +kernel
theorem d_Lin_isLetter_21 : decode b_Lin_isLetter 21 = .ok (.if_icmp .gt 7, 3) := by decide +kernel
theorem d_Lin_isLetter_24 : decode b_Lin_isLetter 24 = .ok (.iconst 1, 1) := by decide +kernel
theorem d_Lin_isLetter_25 : decode b_Lin_isLetter 25 = .ok (.goto 4, 3) := by decide +kernel
theorem d_Lin_isLetter_28 : decode b_Lin_isLetter 28 = .ok (.iconst 0, 1) := by decide +kernel
theorem d_Lin_isLetter_29 : decode b_Lin_isLetter 29 = .ok (.ireturn, 1) := by decide +kernel
theorem d_Lin_isNothing_0 : decode b_Lin_isNothing 0 = .ok (.aload_n 0, 1) := by decide +kernel
theorem d_Lin_isNothing_1 : decode b_Lin_isNothing 1 = .ok (.getfield 22, 3) := by decide +kernel
theorem d_Lin_isNothing_4 : decode b_Lin_isNothing 4 = .ok (.iconst (-1), 1) := by decide +kernel
theorem d_Lin_isNothing_5 : decode b_Lin_isNothing 5 = .ok (.if_icmp .ne 7, 3) := by decide +kernel
theorem d_Lin_isNothing_8 : decode b_Lin_isNothing 8 = .ok (.iconst 1, 1) := by decide +kernel
theorem d_Lin_isNothing_9 : decode b_Lin_isNothing 9 = .ok (.goto 4, 3) := by decide +kernel
theorem d_Lin_isNothing_12 : decode b_Lin_isNothing 12 = .ok (.iconst 0, 1) := by decide +kernel
theorem d_Lin_isNothing_13 : decode b_Lin_isNothing 13 = .ok (.ireturn, 1) := by decide +kernel
theorem d_Lin_nameEnd_0 : decode b_Lin_nameEnd 0 = .ok (.iload_n 1, 1) := by decide +kernel
theorem d_Lin_nameEnd_1 : decode b_Lin_nameEnd 1 = .ok (.istore_n 3, 1) := by decide +kernel
theorem d_Lin_nameEnd_2 : decode b_Lin_nameEnd 2 = .ok (.iload_n 3, 1) := by decide +kernel
theorem d_Lin_nameEnd_3 : decode b_Lin_nameEnd 3 = .ok (.iload_n 2, 1) := by decide +kernel
theorem d_Lin_nameEnd_4 : decode b_Lin_nameEnd 4 = .ok (.if_icmp .ge 27, 3) := by decide +kernel
theorem d_Lin_nameEnd_7 : decode b_Lin_nameEnd 7 = .ok (.aload_n 0, 1) := by decide +kernel
theorem d_Lin_nameEnd_8 : decode b_Lin_nameEnd 8 = .ok (.iload_n 3, 1) := by decide +kernel
theorem d_Lin_nameEnd_9 : decode b_Lin_nameEnd 9 = .ok (.caload, 1) := by decide +kernel
theorem d_Lin_nameEnd_10 : decode b_Lin_nameEnd 10 = .ok (.invokestatic 42, 3) := by decide +kernel
theorem d_Lin_nameEnd_13 : decode b_Lin_nameEnd 13 = .ok (.ifCond .ne 12, 3) := by decide +kernel
theorem d_Lin_nameEnd_16 : decode b_Lin_nameEnd 16 = .ok (.aload_n 0, 1) := by decide +kernel
theorem d_Lin_nameEnd_17 : decode b_Lin_nameEnd 17 = .ok (.iload_n 3, 1) := by decide +kernel
theorem d_Lin_nameEnd_18 : decode b_Lin_nameEnd 18 = .ok (.caload, 1) := by decide +kernel
theorem d_Lin_nameEnd_19 : decode b_Lin_nameEnd 19 = .ok (.invokestatic 60, 3) := by decide +kernel
theorem d_Lin_nameEnd_22 : decode b_Lin_nameEnd 22 = .ok (.ifCond .eq 9, 3) := by decide +kernel
theorem d_Lin_nameEnd_25 : decode b_Lin_nameEnd 25 = .ok (.iinc 3 1, 3) := by decide +kernel
theorem d_Lin_nameEnd_28 : decode b_Lin_nameEnd 28 = .ok (.goto (-26), 3) := by decide +kernel
theorem d_Lin_nameEnd_31 : decode b_Lin_nameEnd 31 = .ok (.iload_n 3, 1) := by decide +kernel
theorem d_Lin_nameEnd_32 : decode b_Lin_nameEnd 32 = .ok (.ireturn, 1) := by decide +kernel
theorem d_Lin_read_0 : decode b_Lin_read 0 = .ok (.aload_n 0, 1) := by decide +kernel
theorem d_Lin_read_1 : decode b_Lin_read 1 = .ok (.iload_n 1, 1) := by decide +kernel
theorem d_Lin_read_2 : decode b_Lin_read 2 = .ok (.iload_n 2, 1) := by decide +kernel
theorem d_Lin_read_3 : decode b_Lin_read 3 = .ok (.invokevirtual 26, 3) := by decide +kernel
theorem d_Lin_read_6 : decode b_Lin_read 6 = .ok (.aload_n 0, 1) := by decide +kernel
theorem d_Lin_read_7 : decode b_Lin_read 7 = .ok (.iload_n 1, 1) := by decide +kernel
theorem d_Lin_read_8 : decode b_Lin_read 8 = .ok (.putfield 30, 3) := by decide +kernel
theorem d_Lin_read_11 : decode b_Lin_read 11 = .ok (.aload_n 0, 1) := by decide +kernel
theorem d_Lin_read_12 : decode b_Lin_read 12 = .ok (.iconst 0, 1) := by decide +kernel
theorem d_Lin_read_13 : decode b_Lin_read 13 = .ok (.putfield 33, 3) := by decide +kernel
theorem d_Lin_read_16 : decode b_Lin_read 16 = .ok (.aload_n 0, 1) := by decide +kernel
theorem d_Lin_read_17 : decode b_Lin_read 17 = .ok (.iconst (-1), 1) := by decide +kernel
theorem d_Lin_read_18 : decode b_Lin_read 18 = .ok (.putfield 22, 3) := by decide +kernel
theorem d_Lin_read_21 : decode b_Lin_read 21 = .ok (.aload_n 0, 1) := by decide +kernel
theorem d_Lin_read_22 : decode b_Lin_read 22 = .ok (.aload_n 0, 1) := by decide +kernel
theorem d_Lin_read_23 : decode b_Lin_read 23 = .ok (.getfield 36, 3) := by decide +kernel
theorem d_Lin_read_26 : decode b_Lin_read 26 = .ok (.putfield 39, 3) := by decide +kernel
theorem d_Lin_read_29 : decode b_Lin_read 29 = .ok (.iload_n 1, 1) := by decide +kernel
theorem d_Lin_read_30 : decode b_Lin_read 30 = .ok (.aload_n 0, 1) := by decide +kernel
theorem d_Lin_read_31 : decode b_Lin_read 31 = .ok (.getfield 36, 3) := by decide +kernel
theorem d_Lin_read_34 : decode b_Lin_read 34 = .ok (.if_icmp .eq 26, 3) := by decide +kernel
theorem d_Lin_read_37 : decode b_Lin_read 37 = .ok (.aload_n 0, 1) := by decide +kernel
theorem d_Lin_read_38 : decode b_Lin_read 38 = .ok (.getfield 18, 3) := by decide +kernel
theorem d_Lin_read_41 : decode b_Lin_read 41 = .ok (.iload_n 1, 1) := by decide +kernel
theorem d_Lin_read_42 : decode b_Lin_read 42 = .ok (.caload, 1) := by decide +kernel
theorem d_Lin_read_43 : decode b_Lin_read 43 = .ok (.bipush 32, 2) := by decide +kernel
theorem d_Lin_read_45 : decode b_Lin_read 45 = .ok (.if_icmp .eq 17, 3) := by decide +kernel
theorem d_Lin_read_48 : decode b_Lin_read 48 = .ok (.aload_n 0, 1) := by decide +kernel
theorem d_Lin_read_49 : decode b_Lin_read 49 = .ok (.getfield 18, 3) := by decide +kernel
theorem d_Lin_read_52 : decode b_Lin_read 52 = .ok (.iload_n 1, 1) := by decide +kernel
theorem d_Lin_read_53 : decode b_Lin_read 53 = .ok (.caload, 1) := by decide +kernel
theorem d_Lin_read_54 : decode b_Lin_read 54 = .ok (.invokestatic 42, 3) := by decide +kernel
theorem d_Lin_read_57 : decode b_Lin_read 57 = .ok (.ifCond .ne 5, 3) := by decide +kernel
theorem d_Lin_read_60 : decode b_Lin_read 60 = .ok (.iconst 1, 1) := by decide +kernel
theorem d_Lin_read_61 : decode b_Lin_read 61 = .ok (.ireturn, 1) := by decide +kernel
theorem d_Lin_read_62 : decode b_Lin_read 62 = .ok (.aload_n 0, 1) := by decide +kernel
theorem d_Lin_read_63 : decode b_Lin_read 63 = .ok (.getfield 18, 3) := by decide +kernel
theorem d_Lin_read_66 : decode b_Lin_read 66 = .ok (.iload_n 1, 1) := by decide +kernel
theorem d_Lin_read_67 : decode b_Lin_read 67 = .ok (.caload, 1) := by decide +kernel
theorem d_Lin_read_68 : decode b_Lin_read 68 = .ok (.invokestatic 42, 3) := by decide +kernel
theorem d_Lin_read_71 : decode b_Lin_read 71 = .ok (.ifCond .eq 18, 3) := by decide +kernel
theorem d_Lin_read_74 : decode b_Lin_read 74 = .ok (.aload_n 0, 1) := by decide +kernel
theorem d_Lin_read_75 : decode b_Lin_read 75 = .ok (.getfield 18, 3) := by decide +kernel
theorem d_Lin_read_78 : decode b_Lin_read 78 = .ok (.iload_n 1, 1) := by decide +kernel
theorem d_Lin_read_79 : decode b_Lin_read 79 = .ok (.aload_n 0, 1) := by decide +kernel
theorem d_Lin_read_80 : decode b_Lin_read 80 = .ok (.getfield 36, 3) := by decide +kernel
theorem d_Lin_read_83 : decode b_Lin_read 83 = .ok (.invokestatic 46, 3) := by decide +kernel
theorem d_Lin_read_86 : decode b_Lin_read 86 = .ok (.goto 4, 3) := by decide +kernel
theorem d_Lin_read_89 : decode b_Lin_read 89 = .ok (.iload_n 1, 1) := by decide +kernel
theorem d_Lin_read_90 : decode b_Lin_read 90 = .ok (.istore_n 3, 1) := by decide +kernel
theorem d_Lin_read_91 : decode b_Lin_read 91 = .ok (.aload_n 0, 1) := by decide +kernel
theorem d_Lin_read_92 : decode b_Lin_read 92 = .ok (.iload_n 3, 1) := by decide +kernel
theorem d_Lin_read_93 : decode b_Lin_read 93 = .ok (.iload_n 1, 1) := by decide +kernel
theorem d_Lin_read_94 : decode b_Lin_read 94 = .ok (.isub, 1) := by decide +kernel
theorem d_Lin_read_95 : decode b_Lin_read 95 = .ok (.putfield 33, 3) := by decide +kernel
theorem d_Lin_read_98 : decode b_Lin_read 98 = .ok (.aload_n 0, 1) := by decide +kernel
theorem d_Lin_read_99 : decode b_Lin_read 99 = .ok (.getfield 33, 3) := by decide +kernel
theorem d_Lin_read_102 : decode b_Lin_read 102 = .ok (.bipush 12, 2) := by decide +kernel
theorem d_Lin_read_104 : decode b_Lin_read 104 = .ok (.if_icmp .gt 22, 3) := by decide +kernel
theorem d_Lin_read_107 : decode b_Lin_read 107 = .ok (.iload_n 3, 1) := by decide +kernel
theorem d_Lin_read_108 : decode b_Lin_read 108 = .ok (.aload_n 0, 1) := by decide +kernel
theorem d_Lin_read_109 : decode b_Lin_read 109 = .ok (.getfield 36, 3) := by decide +kernel
theorem d_Lin_read_112 : decode b_Lin_read 112 = .ok (.if_icmp .ge 16, 3) := by decide +kernel
theorem d_Lin_read_115 : decode b_Lin_read 115 = .ok (.aload_n 0, 1) := by decide +kernel
theorem d_Lin_read_116 : decode b_Lin_read 116 = .ok (.getfield 18, 3) := by decide +kernel
theorem d_Lin_read_119 : decode b_Lin_read 119 = .ok (.iload_n 3, 1) := by decide +kernel
theorem d_Lin_read_120 : decode b_Lin_read 120 = .ok (.caload, 1) := by decide +kernel
theorem d_Lin_read_121 : decode b_Lin_read 121 = .ok (.bipush 32, 2) := by decide +kernel
theorem d_Lin_read_123 : decode b_Lin_read 123 = .ok (.if_icmp .eq 5, 3) := by decide +kernel
theorem d_Lin_read_126 : decode b_Lin_read 126 = .ok (.iconst 0, 1) := by decide +kernel
theorem d_Lin_read_127 : decode b_Lin_read 127 = .ok (.ireturn, 1) := by decide +kernel
theorem d_Lin_read_128 : decode b_Lin_read 128 = .ok (.aload_n 0, 1) := by decide +kernel
theorem d_Lin_read_129 : decode b_Lin_read 129 = .ok (.iload_n 3, 1) := by decide +kernel
theorem d_Lin_read_130 : decode b_Lin_read 130 = .ok (.invokevirtual 50, 3) := by decide +kernel
theorem d_Lin_read_133 : decode b_Lin_read 133 = .ok (.istore_n 3, 1) := by decide +kernel
theorem d_Lin_read_134 : decode b_Lin_read 134 = .ok (.iload_n 3, 1) := by decide +kernel
theorem d_Lin_read_135 : decode b_Lin_read 135 = .ok (.aload_n 0, 1) := by decide +kernel
theorem d_Lin_read_136 : decode b_Lin_read 136 = .ok (.getfield 36, 3) := by decide +kernel
theorem d_Lin_read_139 : decode b_Lin_read 139 = .ok (.if_icmp .ne 16, 3) := by decide +kernel
theorem d_Lin_read_142 : decode b_Lin_read 142 = .ok (.aload_n 0, 1) := by decide +kernel
theorem d_Lin_read_143 : decode b_Lin_read 143 = .ok (.getfield 33, 3) := by decide +kernel
theorem d_Lin_read_146 : decode b_Lin_read 146 = .ok (.ifCond .ne 7, 3) := by decide +kernel
theorem d_Lin_read_149 : decode b_Lin_read 149 = .ok (.iconst 1, 1) := by decide +kernel
theorem d_Lin_read_150 : decode b_Lin_read 150 = .ok (.goto 4, 3) := by decide +kernel
theorem d_Lin_read_153 : decode b_Lin_read 153 = .ok (.iconst 0, 1) := by decide +kernel
theorem d_Lin_read_154 : decode b_Lin_read 154 = .ok (.ireturn, 1) := by decide +kernel
theorem d_Lin_read_155 : decode b_Lin_read 155 = .ok (.aload_n 0, 1) := by decide +kernel
theorem d_Lin_read_156 : decode b_Lin_read 156 = .ok (.iload_n 3, 1) := by decide +kernel
theorem d_Lin_read_157 : decode b_Lin_read 157 = .ok (.invokevirtual 54, 3) := by decide +kernel
theorem d_Lin_read_160 : decode b_Lin_read 160 = .ok (.istore 4, 2) := by decide +kernel
theorem d_Lin_read_162 : decode b_Lin_read 162 = .ok (.aload_n 0, 1) := by decide +kernel
theorem d_Lin_read_163 : decode b_Lin_read 163 = .ok (.aload_n 0, 1) := by decide +kernel
theorem d_Lin_read_164 : decode b_Lin_read 164 = .ok (.getfield 12, 3) := by decide +kernel
theorem d_Lin_read_167 : decode b_Lin_read 167 = .ok (.aload_n 0, 1) := by decide +kernel
theorem d_Lin_read_168 : decode b_Lin_read 168 = .ok (.getfield 18, 3) := by decide +kernel
theorem d_Lin_read_171 : decode b_Lin_read 171 = .ok (.iload_n 3, 1) := by decide +kernel
theorem d_Lin_read_172 : decode b_Lin_read 172 = .ok (.iload 4, 2) := by decide +kernel
theorem d_Lin_read_174 : decode b_Lin_read 174 = .ok (.invokevirtual 57, 3) := by decide +kernel
theorem d_Lin_read_177 : decode b_Lin_read 177 = .ok (.putfield 22, 3) := by decide +kernel
theorem d_Lin_read_180 : decode b_Lin_read 180 = .ok (.aload_n 0, 1) := by decide +kernel
theorem d_Lin_read_181 : decode b_Lin_read 181 = .ok (.aload_n 0, 1) := by decide +kernel
theorem d_Lin_read_182 : decode b_Lin_read 182 = .ok (.iload 4, 2) := by decide +kernel
theorem d_Lin_read_184 : decode b_Lin_read 184 = .ok (.invokevirtual 50, 3) := by decide +kernel
theorem d_Lin_read_187 : decode b_Lin_read 187 = .ok (.putfield 39, 3) := by decide +kernel
theorem d_Lin_read_190 : decode b_Lin_read 190 = .ok (.aload_n 0, 1) := by decide +kernel
theorem d_Lin_read_191 : decode b_Lin_read 191 = .ok (.getfield 22, 3) := by decide +kernel
theorem d_Lin_read_194 : decode b_Lin_read 194 = .ok (.iconst (-1), 1) := by decide +kernel
theorem d_Lin_read_195 : decode b_Lin_read 195 = .ok (.if_icmp .eq 7, 3) := by decide +kernel
theorem d_Lin_read_198 : decode b_Lin_read 198 = .ok (.iconst 1, 1) := by decide +kernel
theorem d_Lin_read_199 : decode b_Lin_read 199 = .ok (.goto 4, 3) := by decide +kernel
theorem d_Lin_read_202 : decode b_Lin_read 202 = .ok (.iconst 0, 1) := by decide +kernel
theorem d_Lin_read_203 : decode b_Lin_read 203 = .ok (.ireturn, 1) := by decide +kernel
theorem d_Opn_find_0 : decode b_Opn_find 0 = .ok (.iload_n 2, 1) := by decide +kernel
theorem d_Opn_find_1 : decode b_Opn_find 1 = .ok (.iload_n 3, 1) := by decide +kernel
theorem d_Opn_find_2 : decode b_Opn_find 2 = .ok (.if_icmp .ge 11, 3) := by decide +kernel
theorem d_Opn_find_5 : decode b_Opn_find 5 = .ok (.iload_n 3, 1) := by decide +kernel
theorem d_Opn_find_6 : decode b_Opn_find 6 = .ok (.iload_n 2, 1) := by decide +kernel
theorem d_Opn_find_7 : decode b_Opn_find 7 = .ok (.isub, 1) := by decide +kernel
theorem d_Opn_find_8 : decode b_Opn_find 8 = .ok (.bipush 6, 2) := by decide +kernel
theorem d_Opn_find_10 : decode b_Opn_find 10 = .ok (.if_icmp .le 5, 3) := by decide +kernel
theorem d_Opn_find_13 : decode b_Opn_find 13 = .ok (.iconst (-1), 1) := by decide +kernel
theorem d_Opn_find_14 : decode b_Opn_find 14 = .ok (.ireturn, 1) := by decide +kernel
theorem d_Opn_find_15 : decode b_Opn_find 15 = .ok (.lconst 0, 1) := by decide +kernel
theorem d_Opn_find_16 : decode b_Opn_find 16 = .ok (.lstore 4, 2) := by decide +kernel
theorem d_Opn_find_18 : decode b_Opn_find 18 = .ok (.iload_n 2, 1) := by decide +kernel
theorem d_Opn_find_19 : decode b_Opn_find 19 = .ok (.istore 6, 2) := by decide +kernel
theorem d_Opn_find_21 : decode b_Opn_find 21 = .ok (.iload 6, 2) := by decide +kernel
theorem d_Opn_find_23 : decode b_Opn_find 23 = .ok (.iload_n 3, 1) := by decide +kernel
theorem d_Opn_find_24 : decode b_Opn_find 24 = .ok (.if_icmp .ge 31, 3) := by decide +kernel
theorem d_Opn_find_27 : decode b_Opn_find 27 = .ok (.aload_n 1, 1) := by decide +kernel
theorem d_Opn_find_28 : decode b_Opn_find 28 = .ok (.iload 6, 2) := by decide +kernel
theorem d_Opn_find_30 : decode b_Opn_find 30 = .ok (.caload, 1) := by decide +kernel
