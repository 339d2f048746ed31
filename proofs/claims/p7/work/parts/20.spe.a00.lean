abbrev b_LittleMix_Specials_named : ByteArray := prog_11_method_3_code
abbrev b_LittleMix_Specials_told : ByteArray := prog_11_method_2_code
abbrev y_LittleMix_Specials_named : MethodName := ⟨"LittleMix$Specials", "named", "([CII)I"⟩
abbrev y_LittleMix_Specials_told : MethodName := ⟨"LittleMix$Specials", "told", "(J)Z"⟩
theorem p_String_indexOf_1 : y_String_indexOf_1.cls ≠ "java/lang/invoke/MethodHandle" ∧ y_String_indexOf_1.cls ≠ "java/lang/invoke/VarHandle" ∧ (parseMethodDescriptor y_String_indexOf_1.desc).map (fun d => d.parameters.length) = some 1 := by decide +kernel
theorem k_490 : (Jvm.Cond.methodLink "LittleMix$Specials" (17 : Nat) ({ cls := "java/lang/String", name := "indexOf", desc := "(I)I" } : Jvm.MethodName)) ∈ mx_T := List.mem_filter.mpr ⟨List.mem_append_right _ ((List.mem_append_right _ (List.mem_append_right _ (List.mem_append_left _ (List.mem_of_getElem? (l := tables_1_3) (i := 10) (by decide +kernel)))))), rfl⟩
theorem k_491 : (Jvm.Cond.instanceMethod ({ cls := "java/lang/String", name := "indexOf", desc := "(I)I" } : Jvm.MethodName)) ∈ mx_T := List.mem_filter.mpr ⟨List.mem_append_right _ ((List.mem_append_right _ (List.mem_append_right _ (List.mem_append_left _ (List.mem_of_getElem? (l := tables_1_3) (i := 11) (by decide +kernel)))))), rfl⟩
theorem k_492 : (Jvm.Cond.selects "java/lang/String" ({ cls := "java/lang/String", name := "indexOf", desc := "(I)I" } : Jvm.MethodName) ({ cls := "java/lang/String", name := "indexOf", desc := "(I)I" } : Jvm.MethodName)) ∈ mx_T := List.mem_filter.mpr ⟨List.mem_append_right _ ((List.mem_append_right _ (List.mem_append_right _ (List.mem_append_left _ (List.mem_of_getElem? (l := tables_1_3) (i := 12) (by decide +kernel)))))), rfl⟩
theorem k_493 : (Jvm.Cond.code ({ cls := "java/lang/String", name := "indexOf", desc := "(I)I" } : Jvm.MethodName) prog_18_method_79_code (2 : Nat) (Option.some Jvm.ClassFile.FieldType.int)) ∈ mx_T := List.mem_filter.mpr ⟨List.mem_append_right _ ((List.mem_append_right _ (List.mem_append_right _ (List.mem_append_left _ (List.mem_of_getElem? (l := tables_1_3) (i := 13) rfl))))), rfl⟩
theorem k_549 : (Jvm.Cond.fieldLink "LittleMix$Specials" (9 : Nat) "LittleMix$Specials" "NUMBERS" "[I") ∈ mx_T := List.mem_filter.mpr ⟨List.mem_append_right _ ((List.mem_append_right _ (List.mem_append_right _ (List.mem_append_left _ (List.mem_of_getElem? (l := tables_1_3) (i := 69) (by decide +kernel)))))), rfl⟩
theorem d_LittleMix_Specials_named_0 : decode b_LittleMix_Specials_named 0 = .ok (.iload_n 2, 1) := by decide +kernel
theorem d_LittleMix_Specials_named_1 : decode b_LittleMix_Specials_named 1 = .ok (.iconst 2, 1) := by decide +kernel
theorem d_LittleMix_Specials_named_2 : decode b_LittleMix_Specials_named 2 = .ok (.if_icmp .ne 11, 3) := by decide +kernel
theorem d_LittleMix_Specials_named_5 : decode b_LittleMix_Specials_named 5 = .ok (.aload_n 0, 1) := by decide +kernel
theorem d_LittleMix_Specials_named_6 : decode b_LittleMix_Specials_named 6 = .ok (.iload_n 1, 1) := by decide +kernel
theorem d_LittleMix_Specials_named_7 : decode b_LittleMix_Specials_named 7 = .ok (.caload, 1) := by decide +kernel
theorem d_LittleMix_Specials_named_8 : decode b_LittleMix_Specials_named 8 = .ok (.bipush 114, 2) := by decide +kernel
theorem d_LittleMix_Specials_named_10 : decode b_LittleMix_Specials_named 10 = .ok (.if_icmp .eq 5, 3) := by decide +kernel
theorem d_LittleMix_Specials_named_13 : decode b_LittleMix_Specials_named 13 = .ok (.iconst (-1), 1) := by decide +kernel
theorem d_LittleMix_Specials_named_14 : decode b_LittleMix_Specials_named 14 = .ok (.ireturn, 1) := by decide +kernel
theorem d_LittleMix_Specials_named_15 : decode b_LittleMix_Specials_named 15 = .ok (.ldc 15, 2) := by decide +kernel
theorem d_LittleMix_Specials_named_17 : decode b_LittleMix_Specials_named 17 = .ok (.aload_n 0, 1) := by decide +kernel
theorem d_LittleMix_Specials_named_18 : decode b_LittleMix_Specials_named 18 = .ok (.iload_n 1, 1) := by decide +kernel
theorem d_LittleMix_Specials_named_19 : decode b_LittleMix_Specials_named 19 = .ok (.iconst 1, 1) := by decide +kernel
theorem d_LittleMix_Specials_named_20 : decode b_LittleMix_Specials_named 20 = .ok (.iadd, 1) := by decide +kernel
theorem d_LittleMix_Specials_named_21 : decode b_LittleMix_Specials_named 21 = .ok (.caload, 1) := by decide +kernel
theorem d_LittleMix_Specials_named_22 : decode b_LittleMix_Specials_named 22 = .ok (.invokevirtual 17, 3) := by decide +kernel
theorem d_LittleMix_Specials_named_25 : decode b_LittleMix_Specials_named 25 = .ok (.istore_n 3, 1) := by decide +kernel
theorem d_LittleMix_Specials_named_26 : decode b_LittleMix_Specials_named 26 = .ok (.iload_n 3, 1) := by decide +kernel
theorem d_LittleMix_Specials_named_27 : decode b_LittleMix_Specials_named 27 = .ok (.ifCond .ge 7, 3) := by decide +kernel
theorem d_LittleMix_Specials_named_30 : decode b_LittleMix_Specials_named 30 = .ok (.iconst (-1), 1) := by decide +kernel
theorem d_LittleMix_Specials_named_31 : decode b_LittleMix_Specials_named 31 = .ok (.goto 8, 3) := by decide +kernel
theorem d_LittleMix_Specials_named_34 : decode b_LittleMix_Specials_named 34 = .ok (.getstatic 9, 3) := by decide +kernel
theorem d_LittleMix_Specials_named_37 : decode b_LittleMix_Specials_named 37 = .ok (.iload_n 3, 1) := by decide +kernel
theorem d_LittleMix_Specials_named_38 : decode b_LittleMix_Specials_named 38 = .ok (.iaload, 1) := by decide +kernel
theorem d_LittleMix_Specials_named_39 : decode b_LittleMix_Specials_named 39 = .ok (.ireturn, 1) := by decide +kernel
theorem d_LittleMix_Specials_told_0 : decode b_LittleMix_Specials_told 0 = .ok (.iconst 0, 1) := by decide +kernel
theorem d_LittleMix_Specials_told_1 : decode b_LittleMix_Specials_told 1 = .ok (.istore_n 2, 1) := by decide +kernel
theorem d_LittleMix_Specials_told_2 : decode b_LittleMix_Specials_told 2 = .ok (.iload_n 2, 1) := by decide +kernel
theorem d_LittleMix_Specials_told_3 : decode b_LittleMix_Specials_told 3 = .ok (.getstatic 9, 3) := by decide +kernel
theorem d_LittleMix_Specials_told_6 : decode b_LittleMix_Specials_told 6 = .ok (.arraylength, 1) := by decide +kernel
theorem d_LittleMix_Specials_told_7 : decode b_LittleMix_Specials_told 7 = .ok (.if_icmp .ge 22, 3) := by decide +kernel
theorem d_LittleMix_Specials_told_10 : decode b_LittleMix_Specials_told 10 = .ok (.getstatic 9, 3) := by decide +kernel
theorem d_LittleMix_Specials_told_13 : decode b_LittleMix_Specials_told 13 = .ok (.iload_n 2, 1) := by decide +kernel
theorem d_LittleMix_Specials_told_14 : decode b_LittleMix_Specials_told 14 = .ok (.iaload, 1) := by decide +kernel
theorem d_LittleMix_Specials_told_15 : decode b_LittleMix_Specials_told 15 = .ok (.i2l, 1) := by decide +kernel
theorem d_LittleMix_Specials_told_16 : decode b_LittleMix_Specials_told 16 = .ok (.lload_n 0, 1) := by decide +kernel
theorem d_LittleMix_Specials_told_17 : decode b_LittleMix_Specials_told 17 = .ok (.lcmp, 1) := by decide +kernel
theorem d_LittleMix_Specials_told_18 : decode b_LittleMix_Specials_told 18 = .ok (.ifCond .ne 5, 3) := by decide +kernel
theorem d_LittleMix_Specials_told_21 : decode b_LittleMix_Specials_told 21 = .ok (.iconst 1, 1) := by decide +kernel
theorem d_LittleMix_Specials_told_22 : decode b_LittleMix_Specials_told 22 = .ok (.ireturn, 1) := by decide +kernel
theorem d_LittleMix_Specials_told_23 : decode b_LittleMix_Specials_told 23 = .ok (.iinc 2 1, 3) := by decide +kernel
theorem d_LittleMix_Specials_told_26 : decode b_LittleMix_Specials_told 26 = .ok (.goto (-24), 3) := by decide +kernel
theorem d_LittleMix_Specials_told_29 : decode b_LittleMix_Specials_told 29 = .ok (.iconst 0, 1) := by decide +kernel
theorem d_LittleMix_Specials_told_30 : decode b_LittleMix_Specials_told 30 = .ok (.ireturn, 1) := by decide +kernel
