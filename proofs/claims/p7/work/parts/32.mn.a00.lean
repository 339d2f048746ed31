abbrev b_Mod_bit : ByteArray := prog_14_method_45_code
abbrev b_Mod_dif : ByteArray := prog_14_method_55_code
abbrev b_Mod_holds : ByteArray := prog_14_method_57_code
abbrev b_Mod_isOp : ByteArray := prog_14_method_60_code
abbrev b_Mod_isSpecial : ByteArray := prog_14_method_13_code
abbrev b_Mod_matrix : ByteArray := prog_14_method_56_code
abbrev b_Mod_right : ByteArray := prog_14_method_54_code
abbrev y_Mod_bit : MethodName := ⟨"LittleMixModel", "bit", "(JI)J"⟩
abbrev y_Mod_dif : MethodName := ⟨"LittleMixModel", "dif", "(JJI)J"⟩
abbrev y_Mod_holds : MethodName := ⟨"LittleMixModel", "holds", "(IJ)Z"⟩
abbrev y_Mod_isOp : MethodName := ⟨"LittleMixModel", "isOp", "(I)Z"⟩
abbrev y_Mod_isSpecial : MethodName := ⟨"LittleMixModel", "isSpecial", "(J)Z"⟩
abbrev y_Mod_matrix : MethodName := ⟨"LittleMixModel", "matrix", "(JJZ)J"⟩
abbrev y_Mod_right : MethodName := ⟨"LittleMixModel", "right", "(JJZ)J"⟩
theorem p_Mod_bit : y_Mod_bit.cls ≠ "java/lang/invoke/MethodHandle" ∧ y_Mod_bit.cls ≠ "java/lang/invoke/VarHandle" ∧ (parseMethodDescriptor y_Mod_bit.desc).map (fun d => d.parameters.length) = some 2 := by decide +kernel
theorem p_Long_compareUnsigned : y_Long_compareUnsigned.cls ≠ "java/lang/invoke/MethodHandle" ∧ y_Long_compareUnsigned.cls ≠ "java/lang/invoke/VarHandle" ∧ (parseMethodDescriptor y_Long_compareUnsigned.desc).map (fun d => d.parameters.length) = some 2 := by decide +kernel
theorem k_1253 : (Jvm.Cond.constantLong "LittleMixModel" (112 : Nat) (2 : Int64)) ∈ mx_T := List.mem_filter.mpr ⟨List.mem_append_right _ ((List.mem_append_right _ (List.mem_append_right _ (List.mem_append_right _ (List.mem_append_right _ (List.mem_append_right _ (List.mem_of_getElem? (l := tables_1_6) (i := 53) (by decide +kernel)))))))), rfl⟩
theorem k_1254 : (Jvm.Cond.constantLong "LittleMixModel" (114 : Nat) (7 : Int64)) ∈ mx_T := List.mem_filter.mpr ⟨List.mem_append_right _ ((List.mem_append_right _ (List.mem_append_right _ (List.mem_append_right _ (List.mem_append_right _ (List.mem_append_right _ (List.mem_of_getElem? (l := tables_1_6) (i := 54) (by decide +kernel)))))))), rfl⟩
theorem k_1255 : (Jvm.Cond.constantLong "LittleMixModel" (116 : Nat) (18 : Int64)) ∈ mx_T := List.mem_filter.mpr ⟨List.mem_append_right _ ((List.mem_append_right _ (List.mem_append_right _ (List.mem_append_right _ (List.mem_append_right _ (List.mem_append_right _ (List.mem_of_getElem? (l := tables_1_6) (i := 55) (by decide +kernel)))))))), rfl⟩
theorem k_1256 : (Jvm.Cond.constantLong "LittleMixModel" (118 : Nat) (22 : Int64)) ∈ mx_T := List.mem_filter.mpr ⟨List.mem_append_right _ ((List.mem_append_right _ (List.mem_append_right _ (List.mem_append_right _ (List.mem_append_right _ (List.mem_append_right _ (List.mem_of_getElem? (l := tables_1_6) (i := 56) (by decide +kernel)))))))), rfl⟩
theorem k_1257 : (Jvm.Cond.constantLong "LittleMixModel" (120 : Nat) (23 : Int64)) ∈ mx_T := List.mem_filter.mpr ⟨List.mem_append_right _ ((List.mem_append_right _ (List.mem_append_right _ (List.mem_append_right _ (List.mem_append_right _ (List.mem_append_right _ (List.mem_of_getElem? (l := tables_1_6) (i := 57) (by decide +kernel)))))))), rfl⟩
theorem k_1258 : (Jvm.Cond.constantLong "LittleMixModel" (122 : Nat) (28 : Int64)) ∈ mx_T := List.mem_filter.mpr ⟨List.mem_append_right _ ((List.mem_append_right _ (List.mem_append_right _ (List.mem_append_right _ (List.mem_append_right _ (List.mem_append_right _ (List.mem_of_getElem? (l := tables_1_6) (i := 58) (by decide +kernel)))))))), rfl⟩
theorem k_1271 : (Jvm.Cond.constantLong "LittleMixModel" (301 : Nat) (-1 : Int64)) ∈ mx_T := List.mem_filter.mpr ⟨List.mem_append_right _ ((List.mem_append_right _ (List.mem_append_right _ (List.mem_append_right _ (List.mem_append_right _ (List.mem_append_right _ (List.mem_of_getElem? (l := tables_1_6) (i := 71) (by decide +kernel)))))))), rfl⟩
theorem k_1329 : (Jvm.Cond.methodLink "LittleMixModel" (310 : Nat) ({ cls := "LittleMixModel", name := "bit", desc := "(JI)J" } : Jvm.MethodName)) ∈ mx_T := List.mem_filter.mpr ⟨List.mem_append_right _ ((List.mem_append_right _ (List.mem_append_right _ (List.mem_append_right _ (List.mem_append_right _ (List.mem_append_right _ (List.mem_of_getElem? (l := tables_1_6) (i := 129) (by decide +kernel)))))))), rfl⟩
theorem k_1330 : (Jvm.Cond.static ({ cls := "LittleMixModel", name := "bit", desc := "(JI)J" } : Jvm.MethodName)) ∈ mx_T := List.mem_filter.mpr ⟨List.mem_append_right _ ((List.mem_append_right _ (List.mem_append_right _ (List.mem_append_right _ (List.mem_append_right _ (List.mem_append_right _ (List.mem_of_getElem? (l := tables_1_6) (i := 130) (by decide +kernel)))))))), rfl⟩
theorem k_1331 : (Jvm.Cond.code ({ cls := "LittleMixModel", name := "bit", desc := "(JI)J" } : Jvm.MethodName) prog_14_method_45_code (3 : Nat) (Option.some Jvm.ClassFile.FieldType.long)) ∈ mx_T := List.mem_filter.mpr ⟨List.mem_append_right _ ((List.mem_append_right _ (List.mem_append_right _ (List.mem_append_right _ (List.mem_append_right _ (List.mem_append_right _ (List.mem_of_getElem? (l := tables_1_6) (i := 131) rfl))))))), rfl⟩
theorem k_1332 : (Jvm.Cond.methodLink "LittleMixModel" (314 : Nat) ({ cls := "java/lang/Long", name := "compareUnsigned", desc := "(JJ)I" } : Jvm.MethodName)) ∈ mx_T := List.mem_filter.mpr ⟨List.mem_append_right _ ((List.mem_append_right _ (List.mem_append_right _ (List.mem_append_right _ (List.mem_append_right _ (List.mem_append_right _ (List.mem_of_getElem? (l := tables_1_6) (i := 132) (by decide +kernel)))))))), rfl⟩
theorem k_1333 : (Jvm.Cond.static ({ cls := "java/lang/Long", name := "compareUnsigned", desc := "(JJ)I" } : Jvm.MethodName)) ∈ mx_T := List.mem_filter.mpr ⟨List.mem_append_right _ ((List.mem_append_right _ (List.mem_append_right _ (List.mem_append_right _ (List.mem_append_right _ (List.mem_append_right _ (List.mem_of_getElem? (l := tables_1_6) (i := 133) (by decide +kernel)))))))), rfl⟩
theorem k_1334 : (Jvm.Cond.code ({ cls := "java/lang/Long", name := "compareUnsigned", desc := "(JJ)I" } : Jvm.MethodName) prog_16_method_43_code (4 : Nat) (Option.some Jvm.ClassFile.FieldType.int)) ∈ mx_T := List.mem_filter.mpr ⟨List.mem_append_right _ ((List.mem_append_right _ (List.mem_append_right _ (List.mem_append_right _ (List.mem_append_right _ (List.mem_append_right _ (List.mem_of_getElem? (l := tables_1_6) (i := 134) rfl))))))), rfl⟩
theorem k_1341 : (Jvm.Cond.constantLong "LittleMixModel" (340 : Nat) (-9223372036854775808 : Int64)) ∈ mx_T := List.mem_filter.mpr ⟨List.mem_append_right _ ((List.mem_append_right _ (List.mem_append_right _ (List.mem_append_right _ (List.mem_append_right _ (List.mem_append_right _ (List.mem_of_getElem? (l := tables_1_6) (i := 141) (by decide +kernel)))))))), rfl⟩
theorem k_1354 : (Jvm.Cond.constantLong "LittleMixModel" (346 : Nat) (63 : Int64)) ∈ mx_T := List.mem_filter.mpr ⟨List.mem_append_right _ ((List.mem_append_right _ (List.mem_append_right _ (List.mem_append_right _ (List.mem_append_right _ (List.mem_append_right _ (List.mem_of_getElem? (l := tables_1_6) (i := 154) (by decide +kernel)))))))), rfl⟩
theorem d_Mod_bit_0 : decode b_Mod_bit 0 = .ok (.lload_n 0, 1) := by decide +kernel
theorem d_Mod_bit_1 : decode b_Mod_bit 1 = .ok (.iload_n 2, 1) := by decide +kernel
theorem d_Mod_bit_2 : decode b_Mod_bit 2 = .ok (.lshr, 1) := by decide +kernel
theorem d_Mod_bit_3 : decode b_Mod_bit 3 = .ok (.lconst 1, 1) := by decide +kernel
theorem d_Mod_bit_4 : decode b_Mod_bit 4 = .ok (.land, 1) := by decide +kernel
theorem d_Mod_bit_5 : decode b_Mod_bit 5 = .ok (.lreturn, 1) := by decide +kernel
theorem d_Mod_dif_0 : decode b_Mod_dif 0 = .ok (.lconst 0, 1) := by decide +kernel
theorem d_Mod_dif_1 : decode b_Mod_dif 1 = .ok (.lstore 5, 2) := by decide +kernel
theorem d_Mod_dif_3 : decode b_Mod_dif 3 = .ok (.iconst 0, 1) := by decide +kernel
theorem d_Mod_dif_4 : decode b_Mod_dif 4 = .ok (.istore 7, 2) := by decide +kernel
theorem d_Mod_dif_6 : decode b_Mod_dif 6 = .ok (.iload 7, 2) := by decide +kernel
theorem d_Mod_dif_8 : decode b_Mod_dif 8 = .ok (.bipush 8, 2) := by decide +kernel
theorem d_Mod_dif_10 : decode b_Mod_dif 10 = .ok (.if_icmp .ge 103, 3) := by decide +kernel
theorem d_Mod_dif_13 : decode b_Mod_dif 13 = .ok (.lload_n 0, 1) := by decide +kernel
theorem d_Mod_dif_14 : decode b_Mod_dif 14 = .ok (.bipush 8, 2) := by decide +kernel
theorem d_Mod_dif_16 : decode b_Mod_dif 16 = .ok (.iload 7, 2) := by decide +kernel
theorem d_Mod_dif_18 : decode b_Mod_dif 18 = .ok (.imul, 1) := by decide +kernel
theorem d_Mod_dif_19 : decode b_Mod_dif 19 = .ok (.lushr, 1) := by decide +kernel
theorem d_Mod_dif_20 : decode b_Mod_dif 20 = .ok (.iload 4, 2) := by decide +kernel
theorem d_Mod_dif_22 : decode b_Mod_dif 22 = .ok (.bipush 8, 2) := by decide +kernel
theorem d_Mod_dif_24 : decode b_Mod_dif 24 = .ok (.if_icmp .ne 9, 3) := by decide +kernel
theorem d_Mod_dif_27 : decode b_Mod_dif 27 = .ok (.ldc2_w 301, 3) := by decide +kernel
theorem d_Mod_dif_30 : decode b_Mod_dif 30 = .ok (.goto 12, 3) := by decide +kernel
theorem d_Mod_dif_33 : decode b_Mod_dif 33 = .ok (.lconst 1, 1) := by decide +kernel
theorem d_Mod_dif_34 : decode b_Mod_dif 34 = .ok (.bipush 8, 2) := by decide +kernel
theorem d_Mod_dif_36 : decode b_Mod_dif 36 = .ok (.iload 4, 2) := by decide +kernel
theorem d_Mod_dif_38 : decode b_Mod_dif 38 = .ok (.imul, 1) := by decide +kernel
theorem d_Mod_dif_39 : decode b_Mod_dif 39 = .ok (.lshl, 1) := by decide +kernel
theorem d_Mod_dif_40 : decode b_Mod_dif 40 = .ok (.lconst 1, 1) := by decide +kernel
theorem d_Mod_dif_41 : decode b_Mod_dif 41 = .ok (.lsub, 1) := by decide +kernel
theorem d_Mod_dif_42 : decode b_Mod_dif 42 = .ok (.land, 1) := by decide +kernel
theorem d_Mod_dif_43 : decode b_Mod_dif 43 = .ok (.lstore 8, 2) := by decide +kernel
theorem d_Mod_dif_45 : decode b_Mod_dif 45 = .ok (.lload_n 2, 1) := by decide +kernel
theorem d_Mod_dif_46 : decode b_Mod_dif 46 = .ok (.bipush 8, 2) := by decide +kernel
theorem d_Mod_dif_48 : decode b_Mod_dif 48 = .ok (.iload 7, 2) := by decide +kernel
theorem d_Mod_dif_50 : decode b_Mod_dif 50 = .ok (.imul, 1) := by decide +kernel
theorem d_Mod_dif_51 : decode b_Mod_dif 51 = .ok (.lushr, 1) := by decide +kernel
theorem d_Mod_dif_52 : decode b_Mod_dif 52 = .ok (.iload 4, 2) := by decide +kernel
theorem d_Mod_dif_54 : decode b_Mod_dif 54 = .ok (.bipush 8, 2) := by decide +kernel
theorem d_Mod_dif_56 : decode b_Mod_dif 56 = .ok (.if_icmp .ne 9, 3) := by decide +kernel
theorem d_Mod_dif_59 : decode b_Mod_dif 59 = .ok (.ldc2_w 301, 3) := by decide +kernel
theorem d_Mod_dif_62 : decode b_Mod_dif 62 = .ok (.goto 12, 3) := by decide +kernel
theorem d_Mod_dif_65 : decode b_Mod_dif 65 = .ok (.lconst 1, 1) := by decide +kernel
theorem d_Mod_dif_66 : decode b_Mod_dif 66 = .ok (.bipush 8, 2) := by decide +kernel
theorem d_Mod_dif_68 : decode b_Mod_dif 68 = .ok (.iload 4, 2) := by decide +kernel
theorem d_Mod_dif_70 : decode b_Mod_dif 70 = .ok (.imul, 1) := by decide +kernel
theorem d_Mod_dif_71 : decode b_Mod_dif 71 = .ok (.lshl, 1) := by decide +kernel
theorem d_Mod_dif_72 : decode b_Mod_dif 72 = .ok (.lconst 1, 1) := by decide +kernel
theorem d_Mod_dif_73 : decode b_Mod_dif 73 = .ok (.lsub, 1) := by decide +kernel
theorem d_Mod_dif_74 : decode b_Mod_dif 74 = .ok (.land, 1) := by decide +kernel
theorem d_Mod_dif_75 : decode b_Mod_dif 75 = .ok (.lstore 10, 2) := by decide +kernel
theorem d_Mod_dif_77 : decode b_Mod_dif 77 = .ok (.lload 8, 2) := by decide +kernel
theorem d_Mod_dif_79 : decode b_Mod_dif 79 = .ok (.lload 10, 2) := by decide +kernel
theorem d_Mod_dif_81 : decode b_Mod_dif 81 = .ok (.invokestatic 314, 3) := by decide +kernel
theorem d_Mod_dif_84 : decode b_Mod_dif 84 = .ok (.ifCond .le 19, 3) := by decide +kernel
theorem d_Mod_dif_87 : decode b_Mod_dif 87 = .ok (.lload 5, 2) := by decide +kernel
theorem d_Mod_dif_89 : decode b_Mod_dif 89 = .ok (.lload 8, 2) := by decide +kernel
theorem d_Mod_dif_91 : decode b_Mod_dif 91 = .ok (.lload 10, 2) := by decide +kernel
theorem d_Mod_dif_93 : decode b_Mod_dif 93 = .ok (.lsub, 1) := by decide +kernel
theorem d_Mod_dif_94 : decode b_Mod_dif 94 = .ok (.bipush 8, 2) := by decide +kernel
theorem d_Mod_dif_96 : decode b_Mod_dif 96 = .ok (.iload 7, 2) := by decide +kernel
theorem d_Mod_dif_98 : decode b_Mod_dif 98 = .ok (.imul, 1) := by decide +kernel
theorem d_Mod_dif_99 : decode b_Mod_dif 99 = .ok (.lshl, 1) := by decide +kernel
theorem d_Mod_dif_100 : decode b_Mod_dif 100 = .ok (.lor, 1) := by decide +kernel
theorem d_Mod_dif_101 : decode b_Mod_dif 101 = .ok (.lstore 5, 2) := by decide +kernel
theorem d_Mod_dif_103 : decode b_Mod_dif 103 = .ok (.iload 7, 2) := by decide +kernel
theorem d_Mod_dif_105 : decode b_Mod_dif 105 = .ok (.iload 4, 2) := by decide +kernel
theorem d_Mod_dif_107 : decode b_Mod_dif 107 = .ok (.iadd, 1) := by decide +kernel
theorem d_Mod_dif_108 : decode b_Mod_dif 108 = .ok (.istore 7, 2) := by decide +kernel
theorem d_Mod_dif_110 : decode b_Mod_dif 110 = .ok (.goto (-104), 3) := by decide +kernel
theorem d_Mod_dif_113 : decode b_Mod_dif 113 = .ok (.lload 5, 2) := by decide +kernel
theorem d_Mod_dif_115 : decode b_Mod_dif 115 = .ok (.lreturn, 1) := by decide +kernel
theorem d_Mod_holds_0 : decode b_Mod_holds 0 = .ok (.iload_n 0, 1) := by decide +kernel
theorem d_Mod_holds_1 : decode b_Mod_holds 1 = .ok (.iconst 3, 1) := by decide +kernel
theorem d_Mod_holds_2 : decode b_Mod_holds 2 = .ok (.iand, 1) := by decide +kernel
theorem d_Mod_holds_3 : decode b_Mod_holds 3 = .ok (.ifCond .ne 17, 3) := by decide +kernel
theorem d_Mod_holds_6 : decode b_Mod_holds 6 = .ok (.lload_n 1, 1) := by decide +kernel
theorem d_Mod_holds_7 : decode b_Mod_holds 7 = .ok (.lconst 0, 1) := by decide +kernel
theorem d_Mod_holds_8 : decode b_Mod_holds 8 = .ok (.lcmp, 1) := by decide +kernel
theorem d_Mod_holds_9 : decode b_Mod_holds 9 = .ok (.ifCond .ge 7, 3) := by decide +kernel
theorem d_Mod_holds_12 : decode b_Mod_holds 12 = .ok (.iconst 1, 1) := by decide +kernel
theorem d_Mod_holds_13 : decode b_Mod_holds 13 = .ok (.goto 62, 3) := by decide +kernel
theorem d_Mod_holds_16 : decode b_Mod_holds 16 = .ok (.iconst 0, 1) := by decide +kernel
theorem d_Mod_holds_17 : decode b_Mod_holds 17 = .ok (.goto 58, 3) := by decide +kernel
theorem d_Mod_holds_20 : decode b_Mod_holds 20 = .ok (.iload_n 0, 1) := by decide +kernel
theorem d_Mod_holds_21 : decode b_Mod_holds 21 = .ok (.iconst 3, 1) := by decide +kernel
theorem d_Mod_holds_22 : decode b_Mod_holds 22 = .ok (.iand, 1) := by decide +kernel
theorem d_Mod_holds_23 : decode b_Mod_holds 23 = .ok (.iconst 1, 1) := by decide +kernel
theorem d_Mod_holds_24 : decode b_Mod_holds 24 = .ok (.if_icmp .ne 17, 3) := by decide +kernel
theorem d_Mod_holds_27 : decode b_Mod_holds 27 = .ok (.lload_n 1, 1) := by decide +kernel
theorem d_Mod_holds_28 : decode b_Mod_holds 28 = .ok (.lconst 0, 1) := by decide +kernel
theorem d_Mod_holds_29 : decode b_Mod_holds 29 = .ok (.lcmp, 1) := by decide +kernel
theorem d_Mod_holds_30 : decode b_Mod_holds 30 = .ok (.ifCond .ne 7, 3) := by decide +kernel
theorem d_Mod_holds_33 : decode b_Mod_holds 33 = .ok (.iconst 1, 1) := by decide +kernel
theorem d_Mod_holds_34 : decode b_Mod_holds 34 = .ok (.goto 41, 3) := by decide +kernel
theorem d_Mod_holds_37 : decode b_Mod_holds 37 = .ok (.iconst 0, 1) := by decide +kernel
theorem d_Mod_holds_38 : decode b_Mod_holds 38 = .ok (.goto 37, 3) := by decide +kernel
theorem d_Mod_holds_41 : decode b_Mod_holds 41 = .ok (.iload_n 0, 1) := by decide +kernel
theorem d_Mod_holds_42 : decode b_Mod_holds 42 = .ok (.iconst 3, 1) := by decide +kernel
theorem d_Mod_holds_43 : decode b_Mod_holds 43 = .ok (.iand, 1) := by decide +kernel
theorem d_Mod_holds_44 : decode b_Mod_holds 44 = .ok (.iconst 2, 1) := by decide +kernel
theorem d_Mod_holds_45 : decode b_Mod_holds 45 = .ok (.if_icmp .ne 17, 3) := by decide +kernel
theorem d_Mod_holds_48 : decode b_Mod_holds 48 = .ok (.lload_n 1, 1) := by decide +kernel
theorem d_Mod_holds_49 : decode b_Mod_holds 49 = .ok (.lconst 0, 1) := by decide +kernel
theorem d_Mod_holds_50 : decode b_Mod_holds 50 = .ok (.lcmp, 1) := by decide +kernel
theorem d_Mod_holds_51 : decode b_Mod_holds 51 = .ok (.ifCond .le 7, 3) := by decide +kernel
theorem d_Mod_holds_54 : decode b_Mod_holds 54 = .ok (.iconst 1, 1) := by decide +kernel
theorem d_Mod_holds_55 : decode b_Mod_holds 55 = .ok (.goto 20, 3) := by decide +kernel
theorem d_Mod_holds_58 : decode b_Mod_holds 58 = .ok (.iconst 0, 1) := by decide +kernel
theorem d_Mod_holds_59 : decode b_Mod_holds 59 = .ok (.goto 16, 3) := by decide +kernel
theorem d_Mod_holds_62 : decode b_Mod_holds 62 = .ok (.lload_n 1, 1) := by decide +kernel
theorem d_Mod_holds_63 : decode b_Mod_holds 63 = .ok (.lconst 1, 1) := by decide +kernel
theorem d_Mod_holds_64 : decode b_Mod_holds 64 = .ok (.land, 1) := by decide +kernel
theorem d_Mod_holds_65 : decode b_Mod_holds 65 = .ok (.lconst 1, 1) := by decide +kernel
theorem d_Mod_holds_66 : decode b_Mod_holds 66 = .ok (.lcmp, 1) := by decide +kernel
theorem d_Mod_holds_67 : decode b_Mod_holds 67 = .ok (.ifCond .ne 7, 3) := by decide +kernel
theorem d_Mod_holds_70 : decode b_Mod_holds 70 = .ok (.iconst 1, 1) := by decide +kernel
theorem d_Mod_holds_71 : decode b_Mod_holds 71 = .ok (.goto 4, 3) := by decide +kernel
theorem d_Mod_holds_74 : decode b_Mod_holds 74 = .ok (.iconst 0, 1) := by decide +kernel
theorem d_Mod_holds_75 : decode b_Mod_holds 75 = .ok (.istore_n 3, 1) := by decide +kernel
theorem d_Mod_holds_76 : decode b_Mod_holds 76 = .ok (.iload_n 3, 1) := by decide +kernel
theorem d_Mod_holds_77 : decode b_Mod_holds 77 = .ok (.iload_n 0, 1) := by decide +kernel
theorem d_Mod_holds_78 : decode b_Mod_holds 78 = .ok (.iconst 4, 1) := by decide +kernel
theorem d_Mod_holds_79 : decode b_Mod_holds 79 = .ok (.if_icmp .ge 7, 3) := by decide +kernel
theorem d_Mod_holds_82 : decode b_Mod_holds 82 = .ok (.iconst 1, 1) := by decide +kernel
theorem d_Mod_holds_83 : decode b_Mod_holds 83 = .ok (.goto 4, 3) := by decide +kernel
theorem d_Mod_holds_86 : decode b_Mod_holds 86 = .ok (.iconst 0, 1) := by decide +kernel
theorem d_Mod_holds_87 : decode b_Mod_holds 87 = .ok (.if_icmp .ne 7, 3) := by decide +kernel
theorem d_Mod_holds_90 : decode b_Mod_holds 90 = .ok (.iconst 1, 1) := by decide +kernel
theorem d_Mod_holds_91 : decode b_Mod_holds 91 = .ok (.goto 4, 3) := by decide +kernel
theorem d_Mod_holds_94 : decode b_Mod_holds 94 = .ok (.iconst 0, 1) := by decide +kernel
theorem d_Mod_holds_95 : decode b_Mod_holds 95 = .ok (.ireturn, 1) := by decide +kernel
theorem d_Mod_isOp_0 : decode b_Mod_isOp 0 = .ok (.iload_n 1, 1) := by decide +kernel
theorem d_Mod_isOp_1 : decode b_Mod_isOp 1 = .ok (.ifCond .eq 65, 3) := by decide +kernel
theorem d_Mod_isOp_4 : decode b_Mod_isOp 4 = .ok (.iload_n 1, 1) := by decide +kernel
theorem d_Mod_isOp_5 : decode b_Mod_isOp 5 = .ok (.bipush 24, 2) := by decide +kernel
theorem d_Mod_isOp_7 : decode b_Mod_isOp 7 = .ok (.if_icmp .lt 10, 3) := by decide +kernel
theorem d_Mod_isOp_10 : decode b_Mod_isOp 10 = .ok (.iload_n 1, 1) := by decide +kernel
theorem d_Mod_isOp_11 : decode b_Mod_isOp 11 = .ok (.sipush 142, 3) := by decide +kernel
theorem d_Mod_isOp_14 : decode b_Mod_isOp 14 = .ok (.if_icmp .lt 52, 3) := by decide +kernel
theorem d_Mod_isOp_17 : decode b_Mod_isOp 17 = .ok (.iload_n 1, 1) := by decide +kernel
theorem d_Mod_isOp_18 : decode b_Mod_isOp 18 = .ok (.sipush 160, 3) := by decide +kernel
theorem d_Mod_isOp_21 : decode b_Mod_isOp 21 = .ok (.if_icmp .lt 10, 3) := by decide +kernel
theorem d_Mod_isOp_24 : decode b_Mod_isOp 24 = .ok (.iload_n 1, 1) := by decide +kernel
theorem d_Mod_isOp_25 : decode b_Mod_isOp 25 = .ok (.sipush 174, 3) := by decide +kernel
theorem d_Mod_isOp_28 : decode b_Mod_isOp 28 = .ok (.if_icmp .lt 38, 3) := by decide +kernel
theorem d_Mod_isOp_31 : decode b_Mod_isOp 31 = .ok (.iload_n 1, 1) := by decide +kernel
theorem d_Mod_isOp_32 : decode b_Mod_isOp 32 = .ok (.sipush 180, 3) := by decide +kernel
theorem d_Mod_isOp_35 : decode b_Mod_isOp 35 = .ok (.if_icmp .eq 31, 3) := by decide +kernel
theorem d_Mod_isOp_38 : decode b_Mod_isOp 38 = .ok (.iload_n 1, 1) := by decide +kernel
theorem d_Mod_isOp_39 : decode b_Mod_isOp 39 = .ok (.sipush 181, 3) := by decide +kernel
theorem d_Mod_isOp_42 : decode b_Mod_isOp 42 = .ok (.if_icmp .eq 24, 3) := by decide +kernel
theorem d_Mod_isOp_45 : decode b_Mod_isOp 45 = .ok (.iload_n 1, 1) := by decide +kernel
theorem d_Mod_isOp_46 : decode b_Mod_isOp 46 = .ok (.sipush 192, 3) := by decide +kernel
theorem d_Mod_isOp_49 : decode b_Mod_isOp 49 = .ok (.if_icmp .lt 10, 3) := by decide +kernel
theorem d_Mod_isOp_52 : decode b_Mod_isOp 52 = .ok (.iload_n 1, 1) := by decide +kernel
theorem d_Mod_isOp_53 : decode b_Mod_isOp 53 = .ok (.sipush 250, 3) := by decide +kernel
theorem d_Mod_isOp_56 : decode b_Mod_isOp 56 = .ok (.if_icmp .lt 10, 3) := by decide +kernel
theorem d_Mod_isOp_59 : decode b_Mod_isOp 59 = .ok (.iload_n 1, 1) := by decide +kernel
theorem d_Mod_isOp_60 : decode b_Mod_isOp 60 = .ok (.sipush 252, 3) := by decide +kernel
theorem d_Mod_isOp_63 : decode b_Mod_isOp 63 = .ok (.if_icmp .le 7, 3) := by decide +kernel
theorem d_Mod_isOp_66 : decode b_Mod_isOp 66 = .ok (.iconst 1, 1) := by decide +kernel
theorem d_Mod_isOp_67 : decode b_Mod_isOp 67 = .ok (.goto 4, 3) := by decide +kernel
theorem d_Mod_isOp_70 : decode b_Mod_isOp 70 = .ok (.iconst 0, 1) := by decide +kernel
theorem d_Mod_isOp_71 : decode b_Mod_isOp 71 = .ok (.ireturn, 1) := by decide +kernel
theorem d_Mod_isSpecial_0 : decode b_Mod_isSpecial 0 = .ok (.lload_n 0, 1) := by decide +kernel
theorem d_Mod_isSpecial_1 : decode b_Mod_isSpecial 1 = .ok (.lconst 0, 1) := by decide +kernel
theorem d_Mod_isSpecial_2 : decode b_Mod_isSpecial 2 = .ok (.lcmp, 1) := by decide +kernel
theorem d_Mod_isSpecial_3 : decode b_Mod_isSpecial 3 = .ok (.ifCond .eq 57, 3) := by decide +kernel
theorem d_Mod_isSpecial_6 : decode b_Mod_isSpecial 6 = .ok (.lload_n 0, 1) := by decide +kernel
theorem d_Mod_isSpecial_7 : decode b_Mod_isSpecial 7 = .ok (.lconst 1, 1) := by decide +kernel
theorem d_Mod_isSpecial_8 : decode b_Mod_isSpecial 8 = .ok (.lcmp, 1) := by decide +kernel
theorem d_Mod_isSpecial_9 : decode b_Mod_isSpecial 9 = .ok (.ifCond .eq 51, 3) := by decide +kernel
theorem d_Mod_isSpecial_12 : decode b_Mod_isSpecial 12 = .ok (.lload_n 0, 1) := by decide +kernel
theorem d_Mod_isSpecial_13 : decode b_Mod_isSpecial 13 = .ok (.ldc2_w 112, 3) := by decide +kernel
theorem d_Mod_isSpecial_16 : decode b_Mod_isSpecial 16 = .ok (.lcmp, 1) := by decide +kernel
theorem d_Mod_isSpecial_17 : decode b_Mod_isSpecial 17 = .ok (.ifCond .le 11, 3) := by decide +kernel
theorem d_Mod_isSpecial_20 : decode b_Mod_isSpecial 20 = .ok (.lload_n 0, 1) := by decide +kernel
theorem d_Mod_isSpecial_21 : decode b_Mod_isSpecial 21 = .ok (.ldc2_w 114, 3) := by decide +kernel
theorem d_Mod_isSpecial_24 : decode b_Mod_isSpecial 24 = .ok (.lcmp, 1) := by decide +kernel
theorem d_Mod_isSpecial_25 : decode b_Mod_isSpecial 25 = .ok (.ifCond .lt 35, 3) := by decide +kernel
theorem d_Mod_isSpecial_28 : decode b_Mod_isSpecial 28 = .ok (.lload_n 0, 1) := by decide +kernel
theorem d_Mod_isSpecial_29 : decode b_Mod_isSpecial 29 = .ok (.ldc2_w 116, 3) := by decide +kernel
theorem d_Mod_isSpecial_32 : decode b_Mod_isSpecial 32 = .ok (.lcmp, 1) := by decide +kernel
theorem d_Mod_isSpecial_33 : decode b_Mod_isSpecial 33 = .ok (.ifCond .le 11, 3) := by decide +kernel
theorem d_Mod_isSpecial_36 : decode b_Mod_isSpecial 36 = .ok (.lload_n 0, 1) := by decide +kernel
theorem d_Mod_isSpecial_37 : decode b_Mod_isSpecial 37 = .ok (.ldc2_w 118, 3) := by decide +kernel
theorem d_Mod_isSpecial_40 : decode b_Mod_isSpecial 40 = .ok (.lcmp, 1) := by decide +kernel
theorem d_Mod_isSpecial_41 : decode b_Mod_isSpecial 41 = .ok (.ifCond .lt 19, 3) := by decide +kernel
theorem d_Mod_isSpecial_44 : decode b_Mod_isSpecial 44 = .ok (.lload_n 0, 1) := by decide +kernel
theorem d_Mod_isSpecial_45 : decode b_Mod_isSpecial 45 = .ok (.ldc2_w 120, 3) := by decide +kernel
theorem d_Mod_isSpecial_48 : decode b_Mod_isSpecial 48 = .ok (.lcmp, 1) := by decide +kernel
theorem d_Mod_isSpecial_49 : decode b_Mod_isSpecial 49 = .ok (.ifCond .le 15, 3) := by decide +kernel
theorem d_Mod_isSpecial_52 : decode b_Mod_isSpecial 52 = .ok (.lload_n 0, 1) := by decide +kernel
theorem d_Mod_isSpecial_53 : decode b_Mod_isSpecial 53 = .ok (.ldc2_w 122, 3) := by decide +kernel
theorem d_Mod_isSpecial_56 : decode b_Mod_isSpecial 56 = .ok (.lcmp, 1) := by decide +kernel
theorem d_Mod_isSpecial_57 : decode b_Mod_isSpecial 57 = .ok (.ifCond .ge 7, 3) := by decide +kernel
theorem d_Mod_isSpecial_60 : decode b_Mod_isSpecial 60 = .ok (.iconst 1, 1) := by decide +kernel
theorem d_Mod_isSpecial_61 : decode b_Mod_isSpecial 61 = .ok (.goto 4, 3) := by decide +kernel
theorem d_Mod_isSpecial_64 : decode b_Mod_isSpecial 64 = .ok (.iconst 0, 1) := by decide +kernel
theorem d_Mod_isSpecial_65 : decode b_Mod_isSpecial 65 = .ok (.ireturn, 1) := by decide +kernel
theorem d_Mod_matrix_0 : decode b_Mod_matrix 0 = .ok (.lconst 0, 1) := by decide +kernel
theorem d_Mod_matrix_1 : decode b_Mod_matrix 1 = .ok (.lstore 5, 2) := by decide +kernel
theorem d_Mod_matrix_3 : decode b_Mod_matrix 3 = .ok (.iconst 0, 1) := by decide +kernel
theorem d_Mod_matrix_4 : decode b_Mod_matrix 4 = .ok (.istore 7, 2) := by decide +kernel
theorem d_Mod_matrix_6 : decode b_Mod_matrix 6 = .ok (.iload 7, 2) := by decide +kernel
theorem d_Mod_matrix_8 : decode b_Mod_matrix 8 = .ok (.bipush 8, 2) := by decide +kernel
theorem d_Mod_matrix_10 : decode b_Mod_matrix 10 = .ok (.if_icmp .ge 107, 3) := by decide +kernel
theorem d_Mod_matrix_13 : decode b_Mod_matrix 13 = .ok (.iconst 0, 1) := by decide +kernel
theorem d_Mod_matrix_14 : decode b_Mod_matrix 14 = .ok (.istore 8, 2) := by decide +kernel
theorem d_Mod_matrix_16 : decode b_Mod_matrix 16 = .ok (.iload 8, 2) := by decide +kernel
theorem d_Mod_matrix_18 : decode b_Mod_matrix 18 = .ok (.bipush 8, 2) := by decide +kernel
theorem d_Mod_matrix_20 : decode b_Mod_matrix 20 = .ok (.if_icmp .ge 91, 3) := by decide +kernel
theorem d_Mod_matrix_23 : decode b_Mod_matrix 23 = .ok (.lconst 0, 1) := by decide +kernel
theorem d_Mod_matrix_24 : decode b_Mod_matrix 24 = .ok (.lstore 9, 2) := by decide +kernel
theorem d_Mod_matrix_26 : decode b_Mod_matrix 26 = .ok (.iconst 0, 1) := by decide +kernel
theorem d_Mod_matrix_27 : decode b_Mod_matrix 27 = .ok (.istore 11, 2) := by decide +kernel
theorem d_Mod_matrix_29 : decode b_Mod_matrix 29 = .ok (.iload 11, 2) := by decide +kernel
theorem d_Mod_matrix_31 : decode b_Mod_matrix 31 = .ok (.bipush 8, 2) := by decide +kernel
theorem d_Mod_matrix_33 : decode b_Mod_matrix 33 = .ok (.if_icmp .ge 56, 3) := by decide +kernel
theorem d_Mod_matrix_36 : decode b_Mod_matrix 36 = .ok (.lload_n 2, 1) := by decide +kernel
theorem d_Mod_matrix_37 : decode b_Mod_matrix 37 = .ok (.bipush 8, 2) := by decide +kernel
theorem d_Mod_matrix_39 : decode b_Mod_matrix 39 = .ok (.iload 7, 2) := by decide +kernel
theorem d_Mod_matrix_41 : decode b_Mod_matrix 41 = .ok (.imul, 1) := by decide +kernel
theorem d_Mod_matrix_42 : decode b_Mod_matrix 42 = .ok (.iload 11, 2) := by decide +kernel
theorem d_Mod_matrix_44 : decode b_Mod_matrix 44 = .ok (.iadd, 1) := by decide +kernel
theorem d_Mod_matrix_45 : decode b_Mod_matrix 45 = .ok (.invokestatic 310, 3) := by decide +kernel
theorem d_Mod_matrix_48 : decode b_Mod_matrix 48 = .ok (.lload_n 0, 1) := by decide +kernel
theorem d_Mod_matrix_49 : decode b_Mod_matrix 49 = .ok (.bipush 8, 2) := by decide +kernel
theorem d_Mod_matrix_51 : decode b_Mod_matrix 51 = .ok (.iload 11, 2) := by decide +kernel
theorem d_Mod_matrix_53 : decode b_Mod_matrix 53 = .ok (.imul, 1) := by decide +kernel
theorem d_Mod_matrix_54 : decode b_Mod_matrix 54 = .ok (.iload 8, 2) := by decide +kernel
theorem d_Mod_matrix_56 : decode b_Mod_matrix 56 = .ok (.iadd, 1) := by decide +kernel
theorem d_Mod_matrix_57 : decode b_Mod_matrix 57 = .ok (.invokestatic 310, 3) := by decide +kernel
theorem d_Mod_matrix_60 : decode b_Mod_matrix 60 = .ok (.land, 1) := by decide +kernel
theorem d_Mod_matrix_61 : decode b_Mod_matrix 61 = .ok (.lstore 12, 2) := by decide +kernel
theorem d_Mod_matrix_63 : decode b_Mod_matrix 63 = .ok (.iload 4, 2) := by decide +kernel
theorem d_Mod_matrix_65 : decode b_Mod_matrix 65 = .ok (.ifCond .eq 11, 3) := by decide +kernel
theorem d_Mod_matrix_68 : decode b_Mod_matrix 68 = .ok (.lload 9, 2) := by decide +kernel
theorem d_Mod_matrix_70 : decode b_Mod_matrix 70 = .ok (.lload 12, 2) := by decide +kernel
theorem d_Mod_matrix_72 : decode b_Mod_matrix 72 = .ok (.lxor, 1) := by decide +kernel
theorem d_Mod_matrix_73 : decode b_Mod_matrix 73 = .ok (.goto 8, 3) := by decide +kernel
theorem d_Mod_matrix_76 : decode b_Mod_matrix 76 = .ok (.lload 9, 2) := by decide +kernel
theorem d_Mod_matrix_78 : decode b_Mod_matrix 78 = .ok (.lload 12, 2) := by decide +kernel
theorem d_Mod_matrix_80 : decode b_Mod_matrix 80 = .ok (.lor, 1) := by decide +kernel
theorem d_Mod_matrix_81 : decode b_Mod_matrix 81 = .ok (.lstore 9, 2) := by decide +kernel
theorem d_Mod_matrix_83 : decode b_Mod_matrix 83 = .ok (.iinc 11 1, 3) := by decide +kernel
theorem d_Mod_matrix_86 : decode b_Mod_matrix 86 = .ok (.goto (-57), 3) := by decide +kernel
theorem d_Mod_matrix_89 : decode b_Mod_matrix 89 = .ok (.lload 5, 2) := by decide +kernel
theorem d_Mod_matrix_91 : decode b_Mod_matrix 91 = .ok (.lload 9, 2) := by decide +kernel
theorem d_Mod_matrix_93 : decode b_Mod_matrix 93 = .ok (.bipush 8, 2) := by decide +kernel
theorem d_Mod_matrix_95 : decode b_Mod_matrix 95 = .ok (.iload 7, 2) := by decide +kernel
theorem d_Mod_matrix_97 : decode b_Mod_matrix 97 = .ok (.imul, 1) := by decide +kernel
theorem d_Mod_matrix_98 : decode b_Mod_matrix 98 = .ok (.iload 8, 2) := by decide +kernel
theorem d_Mod_matrix_100 : decode b_Mod_matrix 100 = .ok (.iadd, 1) := by decide +kernel
theorem d_Mod_matrix_101 : decode b_Mod_matrix 101 = .ok (.lshl, 1) := by decide +kernel
theorem d_Mod_matrix_102 : decode b_Mod_matrix 102 = .ok (.lor, 1) := by decide +kernel
theorem d_Mod_matrix_103 : decode b_Mod_matrix 103 = .ok (.lstore 5, 2) := by decide +kernel
theorem d_Mod_matrix_105 : decode b_Mod_matrix 105 = .ok (.iinc 8 1, 3) := by decide +kernel
theorem d_Mod_matrix_108 : decode b_Mod_matrix 108 = .ok (.goto (-92), 3) := by decide +kernel
theorem d_Mod_matrix_111 : decode b_Mod_matrix 111 = .ok (.iinc 7 1, 3) := by decide +kernel
theorem d_Mod_matrix_114 : decode b_Mod_matrix 114 = .ok (.goto (-108), 3) := by decide +kernel
theorem d_Mod_matrix_117 : decode b_Mod_matrix 117 = .ok (.lload 5, 2) := by decide +kernel
theorem d_Mod_matrix_119 : decode b_Mod_matrix 119 = .ok (.lreturn, 1) := by decide +kernel
theorem d_Mod_right_0 : decode b_Mod_right 0 = .ok (.lload_n 0, 1) := by decide +kernel
theorem d_Mod_right_1 : decode b_Mod_right 1 = .ok (.lstore 5, 2) := by decide +kernel
theorem d_Mod_right_3 : decode b_Mod_right 3 = .ok (.lload_n 2, 1) := by decide +kernel
theorem d_Mod_right_4 : decode b_Mod_right 4 = .ok (.lconst 0, 1) := by decide +kernel
theorem d_Mod_right_5 : decode b_Mod_right 5 = .ok (.lcmp, 1) := by decide +kernel
