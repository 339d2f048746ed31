abbrev b_Lab_add : ByteArray := prog_4_method_6_code
abbrev b_Lab_clear : ByteArray := prog_4_method_2_code
abbrev b_Lab_find : ByteArray := prog_4_method_3_code
abbrev b_Lab_isRegister : ByteArray := prog_4_method_4_code
abbrev b_Lab_tell : ByteArray := prog_4_method_7_code
abbrev b_Lab_valueOf : ByteArray := prog_4_method_5_code
abbrev y_Lab_add : MethodName := ⟨"LittleMix$Labels", "add", "(IIZJ)Z"⟩
abbrev y_Lab_clear : MethodName := ⟨"LittleMix$Labels", "clear", "()V"⟩
abbrev y_Lab_find : MethodName := ⟨"LittleMix$Labels", "find", "(II)I"⟩
abbrev y_Lab_isRegister : MethodName := ⟨"LittleMix$Labels", "isRegister", "(I)Z"⟩
abbrev y_Lab_tell : MethodName := ⟨"LittleMix$Labels", "tell", "([J)I"⟩
abbrev y_Lab_valueOf : MethodName := ⟨"LittleMix$Labels", "valueOf", "(I)J"⟩
theorem p_Lab_find : y_Lab_find.cls ≠ "java/lang/invoke/MethodHandle" ∧ y_Lab_find.cls ≠ "java/lang/invoke/VarHandle" ∧ (parseMethodDescriptor y_Lab_find.desc).map (fun d => d.parameters.length) = some 2 := by decide +kernel
theorem p_LittleMix_Specials_named : y_LittleMix_Specials_named.cls ≠ "java/lang/invoke/MethodHandle" ∧ y_LittleMix_Specials_named.cls ≠ "java/lang/invoke/VarHandle" ∧ (parseMethodDescriptor y_LittleMix_Specials_named.desc).map (fun d => d.parameters.length) = some 3 := by decide +kernel
theorem k_119 : (Jvm.Cond.fieldLink "LittleMix$Labels" (30 : Nat) "LittleMix$Labels" "count" "I") ∈ mx_T := List.mem_filter.mpr ⟨List.mem_append_right _ ((List.mem_append_left _ (List.mem_of_getElem? (l := tables_1_1) (i := 119) (by decide +kernel)))), rfl⟩
theorem k_487 : (Jvm.Cond.static ({ cls := "LittleMix$Specials", name := "named", desc := "([CII)I" } : Jvm.MethodName)) ∈ mx_T := List.mem_filter.mpr ⟨List.mem_append_right _ ((List.mem_append_right _ (List.mem_append_right _ (List.mem_append_left _ (List.mem_of_getElem? (l := tables_1_3) (i := 7) (by decide +kernel)))))), rfl⟩
theorem k_488 : (Jvm.Cond.code ({ cls := "LittleMix$Specials", name := "named", desc := "([CII)I" } : Jvm.MethodName) prog_11_method_3_code (4 : Nat) (Option.some Jvm.ClassFile.FieldType.int)) ∈ mx_T := List.mem_filter.mpr ⟨List.mem_append_right _ ((List.mem_append_right _ (List.mem_append_right _ (List.mem_append_left _ (List.mem_of_getElem? (l := tables_1_3) (i := 8) rfl))))), rfl⟩
theorem k_552 : (Jvm.Cond.instanceMethod ({ cls := "LittleMix$Labels", name := "find", desc := "(II)I" } : Jvm.MethodName)) ∈ mx_T := List.mem_filter.mpr ⟨List.mem_append_right _ ((List.mem_append_right _ (List.mem_append_right _ (List.mem_append_left _ (List.mem_of_getElem? (l := tables_1_3) (i := 72) (by decide +kernel)))))), rfl⟩
theorem k_553 : (Jvm.Cond.selects "LittleMix$Labels" ({ cls := "LittleMix$Labels", name := "find", desc := "(II)I" } : Jvm.MethodName) ({ cls := "LittleMix$Labels", name := "find", desc := "(II)I" } : Jvm.MethodName)) ∈ mx_T := List.mem_filter.mpr ⟨List.mem_append_right _ ((List.mem_append_right _ (List.mem_append_right _ (List.mem_append_left _ (List.mem_of_getElem? (l := tables_1_3) (i := 73) (by decide +kernel)))))), rfl⟩
theorem k_554 : (Jvm.Cond.code ({ cls := "LittleMix$Labels", name := "find", desc := "(II)I" } : Jvm.MethodName) prog_4_method_3_code (5 : Nat) (Option.some Jvm.ClassFile.FieldType.int)) ∈ mx_T := List.mem_filter.mpr ⟨List.mem_append_right _ ((List.mem_append_right _ (List.mem_append_right _ (List.mem_append_left _ (List.mem_of_getElem? (l := tables_1_3) (i := 74) rfl))))), rfl⟩
theorem k_629 : (Jvm.Cond.methodLink "LittleMix$Labels" (34 : Nat) ({ cls := "LittleMix$Labels", name := "find", desc := "(II)I" } : Jvm.MethodName)) ∈ mx_T := List.mem_filter.mpr ⟨List.mem_append_right _ ((List.mem_append_right _ (List.mem_append_right _ (List.mem_append_left _ (List.mem_of_getElem? (l := tables_1_3) (i := 149) (by decide +kernel)))))), rfl⟩
theorem k_630 : (Jvm.Cond.methodLink "LittleMix$Labels" (38 : Nat) ({ cls := "LittleMix$Specials", name := "named", desc := "([CII)I" } : Jvm.MethodName)) ∈ mx_T := List.mem_filter.mpr ⟨List.mem_append_right _ ((List.mem_append_right _ (List.mem_append_right _ (List.mem_append_left _ (List.mem_of_getElem? (l := tables_1_3) (i := 150) (by decide +kernel)))))), rfl⟩
theorem k_685 : (Jvm.Cond.constantLong "LittleMix$Labels" (44 : Nat) (1099511627776 : Int64)) ∈ mx_T := List.mem_filter.mpr ⟨List.mem_append_right _ ((List.mem_append_right _ (List.mem_append_right _ (List.mem_append_left _ (List.mem_of_getElem? (l := tables_1_3) (i := 205) (by decide +kernel)))))), rfl⟩
theorem d_Lab_add_0 : decode b_Lab_add 0 = .ok (.aload_n 0, 1) := by decide +kernel
theorem d_Lab_add_1 : decode b_Lab_add 1 = .ok (.getfield 30, 3) := by decide +kernel
theorem d_Lab_add_4 : decode b_Lab_add 4 = .ok (.bipush 40, 2) := by decide +kernel
theorem d_Lab_add_6 : decode b_Lab_add 6 = .ok (.if_icmp .eq 26, 3) := by decide +kernel
theorem d_Lab_add_9 : decode b_Lab_add 9 = .ok (.aload_n 0, 1) := by decide +kernel
theorem d_Lab_add_10 : decode b_Lab_add 10 = .ok (.iload_n 1, 1) := by decide +kernel
theorem d_Lab_add_11 : decode b_Lab_add 11 = .ok (.iload_n 2, 1) := by decide +kernel
theorem d_Lab_add_12 : decode b_Lab_add 12 = .ok (.invokevirtual 34, 3) := by decide +kernel
theorem d_Lab_add_15 : decode b_Lab_add 15 = .ok (.iconst (-1), 1) := by decide +kernel
theorem d_Lab_add_16 : decode b_Lab_add 16 = .ok (.if_icmp .ne 16, 3) := by decide +kernel
theorem d_Lab_add_19 : decode b_Lab_add 19 = .ok (.aload_n 0, 1) := by decide +kernel
theorem d_Lab_add_20 : decode b_Lab_add 20 = .ok (.getfield 26, 3) := by decide +kernel
theorem d_Lab_add_23 : decode b_Lab_add 23 = .ok (.iload_n 1, 1) := by decide +kernel
theorem d_Lab_add_24 : decode b_Lab_add 24 = .ok (.iload_n 2, 1) := by decide +kernel
theorem d_Lab_add_25 : decode b_Lab_add 25 = .ok (.invokestatic 38, 3) := by decide +kernel
theorem d_Lab_add_28 : decode b_Lab_add 28 = .ok (.iconst (-1), 1) := by decide +kernel
theorem d_Lab_add_29 : decode b_Lab_add 29 = .ok (.if_icmp .eq 5, 3) := by decide +kernel
theorem d_Lab_add_32 : decode b_Lab_add 32 = .ok (.iconst 0, 1) := by decide +kernel
theorem d_Lab_add_33 : decode b_Lab_add 33 = .ok (.ireturn, 1) := by decide +kernel
theorem d_Lab_add_34 : decode b_Lab_add 34 = .ok (.aload_n 0, 1) := by decide +kernel
theorem d_Lab_add_35 : decode b_Lab_add 35 = .ok (.getfield 11, 3) := by decide +kernel
theorem d_Lab_add_38 : decode b_Lab_add 38 = .ok (.aload_n 0, 1) := by decide +kernel
theorem d_Lab_add_39 : decode b_Lab_add 39 = .ok (.getfield 30, 3) := by decide +kernel
theorem d_Lab_add_42 : decode b_Lab_add 42 = .ok (.iload_n 1, 1) := by decide +kernel
theorem d_Lab_add_43 : decode b_Lab_add 43 = .ok (.iastore, 1) := by decide +kernel
theorem d_Lab_add_44 : decode b_Lab_add 44 = .ok (.aload_n 0, 1) := by decide +kernel
theorem d_Lab_add_45 : decode b_Lab_add 45 = .ok (.getfield 15, 3) := by decide +kernel
theorem d_Lab_add_48 : decode b_Lab_add 48 = .ok (.aload_n 0, 1) := by decide +kernel
theorem d_Lab_add_49 : decode b_Lab_add 49 = .ok (.getfield 30, 3) := by decide +kernel
theorem d_Lab_add_52 : decode b_Lab_add 52 = .ok (.iload_n 2, 1) := by decide +kernel
theorem d_Lab_add_53 : decode b_Lab_add 53 = .ok (.iastore, 1) := by decide +kernel
theorem d_Lab_add_54 : decode b_Lab_add 54 = .ok (.aload_n 0, 1) := by decide +kernel
theorem d_Lab_add_55 : decode b_Lab_add 55 = .ok (.getfield 18, 3) := by decide +kernel
theorem d_Lab_add_58 : decode b_Lab_add 58 = .ok (.aload_n 0, 1) := by decide +kernel
theorem d_Lab_add_59 : decode b_Lab_add 59 = .ok (.getfield 30, 3) := by decide +kernel
theorem d_Lab_add_62 : decode b_Lab_add 62 = .ok (.lload 4, 2) := by decide +kernel
theorem d_Lab_add_64 : decode b_Lab_add 64 = .ok (.lastore, 1) := by decide +kernel
theorem d_Lab_add_65 : decode b_Lab_add 65 = .ok (.aload_n 0, 1) := by decide +kernel
theorem d_Lab_add_66 : decode b_Lab_add 66 = .ok (.getfield 22, 3) := by decide +kernel
theorem d_Lab_add_69 : decode b_Lab_add 69 = .ok (.aload_n 0, 1) := by decide +kernel
theorem d_Lab_add_70 : decode b_Lab_add 70 = .ok (.getfield 30, 3) := by decide +kernel
theorem d_Lab_add_73 : decode b_Lab_add 73 = .ok (.iload_n 3, 1) := by decide +kernel
theorem d_Lab_add_74 : decode b_Lab_add 74 = .ok (.bastore, 1) := by decide +kernel
theorem d_Lab_add_75 : decode b_Lab_add 75 = .ok (.aload_n 0, 1) := by decide +kernel
theorem d_Lab_add_76 : decode b_Lab_add 76 = .ok (.dup, 1) := by decide +kernel
theorem d_Lab_add_77 : decode b_Lab_add 77 = .ok (.getfield 30, 3) := by decide +kernel
theorem d_Lab_add_80 : decode b_Lab_add 80 = .ok (.iconst 1, 1) := by decide +kernel
theorem d_Lab_add_81 : decode b_Lab_add 81 = .ok (.iadd, 1) := by decide +kernel
theorem d_Lab_add_82 : decode b_Lab_add 82 = .ok (.putfield 30, 3) := by decide +kernel
theorem d_Lab_add_85 : decode b_Lab_add 85 = .ok (.iconst 1, 1) := by decide +kernel
theorem d_Lab_add_86 : decode b_Lab_add 86 = .ok (.ireturn, 1) := by decide +kernel
theorem d_Lab_clear_0 : decode b_Lab_clear 0 = .ok (.aload_n 0, 1) := by decide +kernel
theorem d_Lab_clear_1 : decode b_Lab_clear 1 = .ok (.iconst 0, 1) := by decide +kernel
theorem d_Lab_clear_2 : decode b_Lab_clear 2 = .ok (.putfield 30, 3) := by decide +kernel
theorem d_Lab_clear_5 : decode b_Lab_clear 5 = .ok (.return_, 1) := by decide +kernel
theorem d_Lab_find_0 : decode b_Lab_find 0 = .ok (.iconst 0, 1) := by decide +kernel
theorem d_Lab_find_1 : decode b_Lab_find 1 = .ok (.istore_n 3, 1) := by decide +kernel
theorem d_Lab_find_2 : decode b_Lab_find 2 = .ok (.iload_n 3, 1) := by decide +kernel
theorem d_Lab_find_3 : decode b_Lab_find 3 = .ok (.aload_n 0, 1) := by decide +kernel
theorem d_Lab_find_4 : decode b_Lab_find 4 = .ok (.getfield 30, 3) := by decide +kernel
theorem d_Lab_find_7 : decode b_Lab_find 7 = .ok (.if_icmp .ge 68, 3) := by decide +kernel
theorem d_Lab_find_10 : decode b_Lab_find 10 = .ok (.iconst 0, 1) := by decide +kernel
theorem d_Lab_find_11 : decode b_Lab_find 11 = .ok (.istore 4, 2) := by decide +kernel
theorem d_Lab_find_13 : decode b_Lab_find 13 = .ok (.iload 4, 2) := by decide +kernel
theorem d_Lab_find_15 : decode b_Lab_find 15 = .ok (.iload_n 2, 1) := by decide +kernel
theorem d_Lab_find_16 : decode b_Lab_find 16 = .ok (.if_icmp .ge 45, 3) := by decide +kernel
theorem d_Lab_find_19 : decode b_Lab_find 19 = .ok (.aload_n 0, 1) := by decide +kernel
theorem d_Lab_find_20 : decode b_Lab_find 20 = .ok (.getfield 15, 3) := by decide +kernel
theorem d_Lab_find_23 : decode b_Lab_find 23 = .ok (.iload_n 3, 1) := by decide +kernel
theorem d_Lab_find_24 : decode b_Lab_find 24 = .ok (.iaload, 1) := by decide +kernel
theorem d_Lab_find_25 : decode b_Lab_find 25 = .ok (.iload_n 2, 1) := by decide +kernel
theorem d_Lab_find_26 : decode b_Lab_find 26 = .ok (.if_icmp .ne 35, 3) := by decide +kernel
theorem d_Lab_find_29 : decode b_Lab_find 29 = .ok (.aload_n 0, 1) := by decide +kernel
theorem d_Lab_find_30 : decode b_Lab_find 30 = .ok (.getfield 26, 3) := by decide +kernel
theorem d_Lab_find_33 : decode b_Lab_find 33 = .ok (.aload_n 0, 1) := by decide +kernel
theorem d_Lab_find_34 : decode b_Lab_find 34 = .ok (.getfield 11, 3) := by decide +kernel
theorem d_Lab_find_37 : decode b_Lab_find 37 = .ok (.iload_n 3, 1) := by decide +kernel
theorem d_Lab_find_38 : decode b_Lab_find 38 = .ok (.iaload, 1) := by decide +kernel
theorem d_Lab_find_39 : decode b_Lab_find 39 = .ok (.iload 4, 2) := by decide +kernel
theorem d_Lab_find_41 : decode b_Lab_find 41 = .ok (.iadd, 1) := by decide +kernel
theorem d_Lab_find_42 : decode b_Lab_find 42 = .ok (.caload, 1) := by decide +kernel
theorem d_Lab_find_43 : decode b_Lab_find 43 = .ok (.aload_n 0, 1) := by decide +kernel
theorem d_Lab_find_44 : decode b_Lab_find 44 = .ok (.getfield 26, 3) := by decide +kernel
theorem d_Lab_find_47 : decode b_Lab_find 47 = .ok (.iload_n 1, 1) := by decide +kernel
theorem d_Lab_find_48 : decode b_Lab_find 48 = .ok (.iload 4, 2) := by decide +kernel
theorem d_Lab_find_50 : decode b_Lab_find 50 = .ok (.iadd, 1) := by decide +kernel
theorem d_Lab_find_51 : decode b_Lab_find 51 = .ok (.caload, 1) := by decide +kernel
theorem d_Lab_find_52 : decode b_Lab_find 52 = .ok (.if_icmp .ne 9, 3) := by decide +kernel
theorem d_Lab_find_55 : decode b_Lab_find 55 = .ok (.iinc 4 1, 3) := by decide +kernel
theorem d_Lab_find_58 : decode b_Lab_find 58 = .ok (.goto (-45), 3) := by decide +kernel
theorem d_Lab_find_61 : decode b_Lab_find 61 = .ok (.iload 4, 2) := by decide +kernel
theorem d_Lab_find_63 : decode b_Lab_find 63 = .ok (.iload_n 2, 1) := by decide +kernel
theorem d_Lab_find_64 : decode b_Lab_find 64 = .ok (.if_icmp .ne 5, 3) := by decide +kernel
theorem d_Lab_find_67 : decode b_Lab_find 67 = .ok (.iload_n 3, 1) := by decide +kernel
theorem d_Lab_find_68 : decode b_Lab_find 68 = .ok (.ireturn, 1) := by decide +kernel
theorem d_Lab_find_69 : decode b_Lab_find 69 = .ok (.iinc 3 1, 3) := by decide +kernel
theorem d_Lab_find_72 : decode b_Lab_find 72 = .ok (.goto (-70), 3) := by decide +kernel
theorem d_Lab_find_75 : decode b_Lab_find 75 = .ok (.iconst (-1), 1) := by decide +kernel
theorem d_Lab_find_76 : decode b_Lab_find 76 = .ok (.ireturn, 1) := by decide +kernel
theorem d_Lab_isRegister_0 : decode b_Lab_isRegister 0 = .ok (.iload_n 1, 1) := by decide +kernel
theorem d_Lab_isRegister_1 : decode b_Lab_isRegister 1 = .ok (.ifCond .lt 24, 3) := by decide +kernel
theorem d_Lab_isRegister_4 : decode b_Lab_isRegister 4 = .ok (.iload_n 1, 1) := by decide +kernel
theorem d_Lab_isRegister_5 : decode b_Lab_isRegister 5 = .ok (.aload_n 0, 1) := by decide +kernel
theorem d_Lab_isRegister_6 : decode b_Lab_isRegister 6 = .ok (.getfield 30, 3) := by decide +kernel
theorem d_Lab_isRegister_9 : decode b_Lab_isRegister 9 = .ok (.if_icmp .ge 16, 3) := by decide +kernel
theorem d_Lab_isRegister_12 : decode b_Lab_isRegister 12 = .ok (.aload_n 0, 1) := by decide +kernel
theorem d_Lab_isRegister_13 : decode b_Lab_isRegister 13 = .ok (.getfield 22, 3) := by decide +kernel
theorem d_Lab_isRegister_16 : decode b_Lab_isRegister 16 = .ok (.iload_n 1, 1) := by decide +kernel
theorem d_Lab_isRegister_17 : decode b_Lab_isRegister 17 = .ok (.baload, 1) := by decide +kernel
theorem d_Lab_isRegister_18 : decode b_Lab_isRegister 18 = .ok (.ifCond .eq 7, 3) := by decide +kernel
theorem d_Lab_isRegister_21 : decode b_Lab_isRegister 21 = .ok (.iconst 1, 1) := by decide +kernel
theorem d_Lab_isRegister_22 : decode b_Lab_isRegister 22 = .ok (.goto 4, 3) := by decide +kernel
theorem d_Lab_isRegister_25 : decode b_Lab_isRegister 25 = .ok (.iconst 0, 1) := by decide +kernel
theorem d_Lab_isRegister_26 : decode b_Lab_isRegister 26 = .ok (.ireturn, 1) := by decide +kernel
theorem d_Lab_tell_0 : decode b_Lab_tell 0 = .ok (.iconst 0, 1) := by decide +kernel
theorem d_Lab_tell_1 : decode b_Lab_tell 1 = .ok (.istore_n 2, 1) := by decide +kernel
theorem d_Lab_tell_2 : decode b_Lab_tell 2 = .ok (.iload_n 2, 1) := by decide +kernel
theorem d_Lab_tell_3 : decode b_Lab_tell 3 = .ok (.aload_n 0, 1) := by decide +kernel
theorem d_Lab_tell_4 : decode b_Lab_tell 4 = .ok (.getfield 30, 3) := by decide +kernel
theorem d_Lab_tell_7 : decode b_Lab_tell 7 = .ok (.if_icmp .ge 46, 3) := by decide +kernel
theorem d_Lab_tell_10 : decode b_Lab_tell 10 = .ok (.iload_n 2, 1) := by decide +kernel
theorem d_Lab_tell_11 : decode b_Lab_tell 11 = .ok (.aload_n 1, 1) := by decide +kernel
theorem d_Lab_tell_12 : decode b_Lab_tell 12 = .ok (.arraylength, 1) := by decide +kernel
theorem d_Lab_tell_13 : decode b_Lab_tell 13 = .ok (.if_icmp .ge 40, 3) := by decide +kernel
theorem d_Lab_tell_16 : decode b_Lab_tell 16 = .ok (.aload_n 1, 1) := by decide +kernel
theorem d_Lab_tell_17 : decode b_Lab_tell 17 = .ok (.iload_n 2, 1) := by decide +kernel
theorem d_Lab_tell_18 : decode b_Lab_tell 18 = .ok (.aload_n 0, 1) := by decide +kernel
theorem d_Lab_tell_19 : decode b_Lab_tell 19 = .ok (.getfield 22, 3) := by decide +kernel
theorem d_Lab_tell_22 : decode b_Lab_tell 22 = .ok (.iload_n 2, 1) := by decide +kernel
theorem d_Lab_tell_23 : decode b_Lab_tell 23 = .ok (.baload, 1) := by decide +kernel
theorem d_Lab_tell_24 : decode b_Lab_tell 24 = .ok (.ifCond .eq 16, 3) := by decide +kernel
theorem d_Lab_tell_27 : decode b_Lab_tell 27 = .ok (.ldc2_w 44, 3) := by decide +kernel
theorem d_Lab_tell_30 : decode b_Lab_tell 30 = .ok (.aload_n 0, 1) := by decide +kernel
theorem d_Lab_tell_31 : decode b_Lab_tell 31 = .ok (.getfield 18, 3) := by decide +kernel
theorem d_Lab_tell_34 : decode b_Lab_tell 34 = .ok (.iload_n 2, 1) := by decide +kernel
theorem d_Lab_tell_35 : decode b_Lab_tell 35 = .ok (.laload, 1) := by decide +kernel
theorem d_Lab_tell_36 : decode b_Lab_tell 36 = .ok (.ladd, 1) := by decide +kernel
theorem d_Lab_tell_37 : decode b_Lab_tell 37 = .ok (.goto 9, 3) := by decide +kernel
theorem d_Lab_tell_40 : decode b_Lab_tell 40 = .ok (.aload_n 0, 1) := by decide +kernel
theorem d_Lab_tell_41 : decode b_Lab_tell 41 = .ok (.getfield 18, 3) := by decide +kernel
theorem d_Lab_tell_44 : decode b_Lab_tell 44 = .ok (.iload_n 2, 1) := by decide +kernel
theorem d_Lab_tell_45 : decode b_Lab_tell 45 = .ok (.laload, 1) := by decide +kernel
theorem d_Lab_tell_46 : decode b_Lab_tell 46 = .ok (.lastore, 1) := by decide +kernel
theorem d_Lab_tell_47 : decode b_Lab_tell 47 = .ok (.iinc 2 1, 3) := by decide +kernel
theorem d_Lab_tell_50 : decode b_Lab_tell 50 = .ok (.goto (-48), 3) := by decide +kernel
theorem d_Lab_tell_53 : decode b_Lab_tell 53 = .ok (.aload_n 0, 1) := by decide +kernel
theorem d_Lab_tell_54 : decode b_Lab_tell 54 = .ok (.getfield 30, 3) := by decide +kernel
theorem d_Lab_tell_57 : decode b_Lab_tell 57 = .ok (.ireturn, 1) := by decide +kernel
theorem d_Lab_valueOf_0 : decode b_Lab_valueOf 0 = .ok (.iload_n 1, 1) := by decide +kernel
theorem d_Lab_valueOf_1 : decode b_Lab_valueOf 1 = .ok (.ifCond .lt 20, 3) := by decide +kernel
theorem d_Lab_valueOf_4 : decode b_Lab_valueOf 4 = .ok (.iload_n 1, 1) := by decide +kernel
theorem d_Lab_valueOf_5 : decode b_Lab_valueOf 5 = .ok (.aload_n 0, 1) := by decide +kernel
theorem d_Lab_valueOf_6 : decode b_Lab_valueOf 6 = .ok (.getfield 30, 3) := by decide +kernel
theorem d_Lab_valueOf_9 : decode b_Lab_valueOf 9 = .ok (.if_icmp .ge 12, 3) := by decide +kernel
theorem d_Lab_valueOf_12 : decode b_Lab_valueOf 12 = .ok (.aload_n 0, 1) := by decide +kernel
theorem d_Lab_valueOf_13 : decode b_Lab_valueOf 13 = .ok (.getfield 18, 3) := by decide +kernel
theorem d_Lab_valueOf_16 : decode b_Lab_valueOf 16 = .ok (.iload_n 1, 1) := by decide +kernel
theorem d_Lab_valueOf_17 : decode b_Lab_valueOf 17 = .ok (.laload, 1) := by decide +kernel
theorem d_Lab_valueOf_18 : decode b_Lab_valueOf 18 = .ok (.goto 4, 3) := by decide +kernel
theorem d_Lab_valueOf_21 : decode b_Lab_valueOf 21 = .ok (.lconst 0, 1) := by decide +kernel
theorem d_Lab_valueOf_22 : decode b_Lab_valueOf 22 = .ok (.lreturn, 1) := by decide +kernel
