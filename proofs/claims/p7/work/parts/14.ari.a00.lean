abbrev b_LittleMix_Arithmetic_below : ByteArray := prog_2_method_2_code
abbrev b_LittleMix_Arithmetic_difference : ByteArray := prog_2_method_6_code
abbrev b_LittleMix_Arithmetic_isSo : ByteArray := prog_2_method_8_code
abbrev b_LittleMix_Arithmetic_matrix : ByteArray := prog_2_method_7_code
abbrev b_LittleMix_Arithmetic_productFits : ByteArray := prog_2_method_4_code
abbrev b_LittleMix_Arithmetic_quotient : ByteArray := prog_2_method_5_code
abbrev b_LittleMix_Arithmetic_upper : ByteArray := prog_2_method_3_code
abbrev y_LittleMix_Arithmetic_below : MethodName := ⟨"LittleMix$Arithmetic", "below", "(JJ)Z"⟩
abbrev y_LittleMix_Arithmetic_difference : MethodName := ⟨"LittleMix$Arithmetic", "difference", "(JJI)J"⟩
abbrev y_LittleMix_Arithmetic_isSo : MethodName := ⟨"LittleMix$Arithmetic", "isSo", "(IJ)Z"⟩
abbrev y_LittleMix_Arithmetic_matrix : MethodName := ⟨"LittleMix$Arithmetic", "matrix", "(JJZ)J"⟩
abbrev y_LittleMix_Arithmetic_productFits : MethodName := ⟨"LittleMix$Arithmetic", "productFits", "(JJ)Z"⟩
abbrev y_LittleMix_Arithmetic_quotient : MethodName := ⟨"LittleMix$Arithmetic", "quotient", "(JJJ)J"⟩
abbrev y_LittleMix_Arithmetic_upper : MethodName := ⟨"LittleMix$Arithmetic", "upper", "(JJ)J"⟩
theorem p_LittleMix_Arithmetic_below : y_LittleMix_Arithmetic_below.cls ≠ "java/lang/invoke/MethodHandle" ∧ y_LittleMix_Arithmetic_below.cls ≠ "java/lang/invoke/VarHandle" ∧ (parseMethodDescriptor y_LittleMix_Arithmetic_below.desc).map (fun d => d.parameters.length) = some 2 := by decide +kernel
theorem p_LittleMix_Arithmetic_upper : y_LittleMix_Arithmetic_upper.cls ≠ "java/lang/invoke/MethodHandle" ∧ y_LittleMix_Arithmetic_upper.cls ≠ "java/lang/invoke/VarHandle" ∧ (parseMethodDescriptor y_LittleMix_Arithmetic_upper.desc).map (fun d => d.parameters.length) = some 2 := by decide +kernel
theorem k_20 : (Jvm.Cond.initialized "LittleMix$Arithmetic") ∈ mx_T := List.mem_filter.mpr ⟨List.mem_append_right _ ((List.mem_append_left _ (List.mem_of_getElem? (l := tables_1_1) (i := 20) (by decide +kernel)))), rfl⟩
theorem k_859 : (Jvm.Cond.methodLink "LittleMix$Arithmetic" (13 : Nat) ({ cls := "LittleMix$Arithmetic", name := "upper", desc := "(JJ)J" } : Jvm.MethodName)) ∈ mx_T := List.mem_filter.mpr ⟨List.mem_append_right _ ((List.mem_append_right _ (List.mem_append_right _ (List.mem_append_right _ (List.mem_append_left _ (List.mem_of_getElem? (l := tables_1_4) (i := 139) (by decide +kernel))))))), rfl⟩
theorem k_860 : (Jvm.Cond.static ({ cls := "LittleMix$Arithmetic", name := "upper", desc := "(JJ)J" } : Jvm.MethodName)) ∈ mx_T := List.mem_filter.mpr ⟨List.mem_append_right _ ((List.mem_append_right _ (List.mem_append_right _ (List.mem_append_right _ (List.mem_append_left _ (List.mem_of_getElem? (l := tables_1_4) (i := 140) (by decide +kernel))))))), rfl⟩
theorem k_861 : (Jvm.Cond.code ({ cls := "LittleMix$Arithmetic", name := "upper", desc := "(JJ)J" } : Jvm.MethodName) prog_2_method_3_code (8 : Nat) (Option.some Jvm.ClassFile.FieldType.long)) ∈ mx_T := List.mem_filter.mpr ⟨List.mem_append_right _ ((List.mem_append_right _ (List.mem_append_right _ (List.mem_append_right _ (List.mem_append_left _ (List.mem_of_getElem? (l := tables_1_4) (i := 141) rfl)))))), rfl⟩
theorem k_862 : (Jvm.Cond.constantLong "LittleMix$Arithmetic" (11 : Nat) (4294967295 : Int64)) ∈ mx_T := List.mem_filter.mpr ⟨List.mem_append_right _ ((List.mem_append_right _ (List.mem_append_right _ (List.mem_append_right _ (List.mem_append_left _ (List.mem_of_getElem? (l := tables_1_4) (i := 142) (by decide +kernel))))))), rfl⟩
theorem k_880 : (Jvm.Cond.static ({ cls := "LittleMix$Arithmetic", name := "below", desc := "(JJ)Z" } : Jvm.MethodName)) ∈ mx_T := List.mem_filter.mpr ⟨List.mem_append_right _ ((List.mem_append_right _ (List.mem_append_right _ (List.mem_append_right _ (List.mem_append_left _ (List.mem_of_getElem? (l := tables_1_4) (i := 160) (by decide +kernel))))))), rfl⟩
theorem k_881 : (Jvm.Cond.code ({ cls := "LittleMix$Arithmetic", name := "below", desc := "(JJ)Z" } : Jvm.MethodName) prog_2_method_2_code (4 : Nat) (Option.some Jvm.ClassFile.FieldType.boolean)) ∈ mx_T := List.mem_filter.mpr ⟨List.mem_append_right _ ((List.mem_append_right _ (List.mem_append_right _ (List.mem_append_right _ (List.mem_append_left _ (List.mem_of_getElem? (l := tables_1_4) (i := 161) rfl)))))), rfl⟩
theorem k_882 : (Jvm.Cond.constantLong "LittleMix$Arithmetic" (9 : Nat) (-9223372036854775808 : Int64)) ∈ mx_T := List.mem_filter.mpr ⟨List.mem_append_right _ ((List.mem_append_right _ (List.mem_append_right _ (List.mem_append_right _ (List.mem_append_left _ (List.mem_of_getElem? (l := tables_1_4) (i := 162) (by decide +kernel))))))), rfl⟩
theorem k_886 : (Jvm.Cond.methodLink "LittleMix$Arithmetic" (17 : Nat) ({ cls := "LittleMix$Arithmetic", name := "below", desc := "(JJ)Z" } : Jvm.MethodName)) ∈ mx_T := List.mem_filter.mpr ⟨List.mem_append_right _ ((List.mem_append_right _ (List.mem_append_right _ (List.mem_append_right _ (List.mem_append_left _ (List.mem_of_getElem? (l := tables_1_4) (i := 166) (by decide +kernel))))))), rfl⟩
theorem k_931 : (Jvm.Cond.constantLong "LittleMix$Arithmetic" (23 : Nat) (255 : Int64)) ∈ mx_T := List.mem_filter.mpr ⟨List.mem_append_right _ ((List.mem_append_right _ (List.mem_append_right _ (List.mem_append_right _ (List.mem_append_left _ (List.mem_of_getElem? (l := tables_1_4) (i := 211) (by decide +kernel))))))), rfl⟩
theorem k_935 : (Jvm.Cond.constantLong "LittleMix$Arithmetic" (21 : Nat) (-1 : Int64)) ∈ mx_T := List.mem_filter.mpr ⟨List.mem_append_right _ ((List.mem_append_right _ (List.mem_append_right _ (List.mem_append_right _ (List.mem_append_left _ (List.mem_of_getElem? (l := tables_1_4) (i := 215) (by decide +kernel))))))), rfl⟩
theorem d_LittleMix_Arithmetic_below_0 : decode b_LittleMix_Arithmetic_below 0 = .ok (.lload_n 0, 1) := by decide +kernel
theorem d_LittleMix_Arithmetic_below_1 : decode b_LittleMix_Arithmetic_below 1 = .ok (.ldc2_w 9, 3) := by decide +kernel
theorem d_LittleMix_Arithmetic_below_4 : decode b_LittleMix_Arithmetic_below 4 = .ok (.ladd, 1) := by decide +kernel
theorem d_LittleMix_Arithmetic_below_5 : decode b_LittleMix_Arithmetic_below 5 = .ok (.lload_n 2, 1) := by decide +kernel
theorem d_LittleMix_Arithmetic_below_6 : decode b_LittleMix_Arithmetic_below 6 = .ok (.ldc2_w 9, 3) := by decide +kernel
theorem d_LittleMix_Arithmetic_below_9 : decode b_LittleMix_Arithmetic_below 9 = .ok (.ladd, 1) := by decide +kernel
theorem d_LittleMix_Arithmetic_below_10 : decode b_LittleMix_Arithmetic_below 10 = .ok (.lcmp, 1) := by decide +kernel
theorem d_LittleMix_Arithmetic_below_11 : decode b_LittleMix_Arithmetic_below 11 = .ok (.ifCond .ge 7, 3) := by decide +kernel
theorem d_LittleMix_Arithmetic_below_14 : decode b_LittleMix_Arithmetic_below 14 = .ok (.iconst 1, 1) := by decide +kernel
theorem d_LittleMix_Arithmetic_below_15 : decode b_LittleMix_Arithmetic_below 15 = .ok (.goto 4, 3) := by decide +kernel
theorem d_LittleMix_Arithmetic_below_18 : decode b_LittleMix_Arithmetic_below 18 = .ok (.iconst 0, 1) := by decide +kernel
theorem d_LittleMix_Arithmetic_below_19 : decode b_LittleMix_Arithmetic_below 19 = .ok (.ireturn, 1) := by decide +kernel
theorem d_LittleMix_Arithmetic_difference_0 : decode b_LittleMix_Arithmetic_difference 0 = .ok (.ldc2_w 21, 3) := by decide +kernel
theorem d_LittleMix_Arithmetic_difference_3 : decode b_LittleMix_Arithmetic_difference 3 = .ok (.bipush 64, 2) := by decide +kernel
theorem d_LittleMix_Arithmetic_difference_5 : decode b_LittleMix_Arithmetic_difference 5 = .ok (.iload 4, 2) := by decide +kernel
theorem d_LittleMix_Arithmetic_difference_7 : decode b_LittleMix_Arithmetic_difference 7 = .ok (.isub, 1) := by decide +kernel
theorem d_LittleMix_Arithmetic_difference_8 : decode b_LittleMix_Arithmetic_difference 8 = .ok (.lushr, 1) := by decide +kernel
theorem d_LittleMix_Arithmetic_difference_9 : decode b_LittleMix_Arithmetic_difference 9 = .ok (.lstore 5, 2) := by decide +kernel
theorem d_LittleMix_Arithmetic_difference_11 : decode b_LittleMix_Arithmetic_difference 11 = .ok (.lconst 0, 1) := by decide +kernel
theorem d_LittleMix_Arithmetic_difference_12 : decode b_LittleMix_Arithmetic_difference 12 = .ok (.lstore 7, 2) := by decide +kernel
theorem d_LittleMix_Arithmetic_difference_14 : decode b_LittleMix_Arithmetic_difference 14 = .ok (.iconst 0, 1) := by decide +kernel
theorem d_LittleMix_Arithmetic_difference_15 : decode b_LittleMix_Arithmetic_difference 15 = .ok (.istore 9, 2) := by decide +kernel
theorem d_LittleMix_Arithmetic_difference_17 : decode b_LittleMix_Arithmetic_difference 17 = .ok (.iload 9, 2) := by decide +kernel
theorem d_LittleMix_Arithmetic_difference_19 : decode b_LittleMix_Arithmetic_difference 19 = .ok (.bipush 8, 2) := by decide +kernel
theorem d_LittleMix_Arithmetic_difference_21 : decode b_LittleMix_Arithmetic_difference 21 = .ok (.if_icmp .ge 73, 3) := by decide +kernel
theorem d_LittleMix_Arithmetic_difference_24 : decode b_LittleMix_Arithmetic_difference 24 = .ok (.iload 9, 2) := by decide +kernel
theorem d_LittleMix_Arithmetic_difference_26 : decode b_LittleMix_Arithmetic_difference 26 = .ok (.iload 4, 2) := by decide +kernel
theorem d_LittleMix_Arithmetic_difference_28 : decode b_LittleMix_Arithmetic_difference 28 = .ok (.imul, 1) := by decide +kernel
theorem d_LittleMix_Arithmetic_difference_29 : decode b_LittleMix_Arithmetic_difference 29 = .ok (.bipush 64, 2) := by decide +kernel
theorem d_LittleMix_Arithmetic_difference_31 : decode b_LittleMix_Arithmetic_difference 31 = .ok (.if_icmp .ge 63, 3) := by decide +kernel
theorem d_LittleMix_Arithmetic_difference_34 : decode b_LittleMix_Arithmetic_difference 34 = .ok (.lload_n 0, 1) := by decide +kernel
theorem d_LittleMix_Arithmetic_difference_35 : decode b_LittleMix_Arithmetic_difference 35 = .ok (.iload 9, 2) := by decide +kernel
theorem d_LittleMix_Arithmetic_difference_37 : decode b_LittleMix_Arithmetic_difference 37 = .ok (.iload 4, 2) := by decide +kernel
theorem d_LittleMix_Arithmetic_difference_39 : decode b_LittleMix_Arithmetic_difference 39 = .ok (.imul, 1) := by decide +kernel
theorem d_LittleMix_Arithmetic_difference_40 : decode b_LittleMix_Arithmetic_difference 40 = .ok (.lushr, 1) := by decide +kernel
theorem d_LittleMix_Arithmetic_difference_41 : decode b_LittleMix_Arithmetic_difference 41 = .ok (.lload 5, 2) := by decide +kernel
theorem d_LittleMix_Arithmetic_difference_43 : decode b_LittleMix_Arithmetic_difference 43 = .ok (.land, 1) := by decide +kernel
theorem d_LittleMix_Arithmetic_difference_44 : decode b_LittleMix_Arithmetic_difference 44 = .ok (.lstore 10, 2) := by decide +kernel
theorem d_LittleMix_Arithmetic_difference_46 : decode b_LittleMix_Arithmetic_difference 46 = .ok (.lload_n 2, 1) := by decide +kernel
theorem d_LittleMix_Arithmetic_difference_47 : decode b_LittleMix_Arithmetic_difference 47 = .ok (.iload 9, 2) := by decide +kernel
theorem d_LittleMix_Arithmetic_difference_49 : decode b_LittleMix_Arithmetic_difference 49 = .ok (.iload 4, 2) := by decide +kernel
theorem d_LittleMix_Arithmetic_difference_51 : decode b_LittleMix_Arithmetic_difference 51 = .ok (.imul, 1) := by decide +kernel
theorem d_LittleMix_Arithmetic_difference_52 : decode b_LittleMix_Arithmetic_difference 52 = .ok (.lushr, 1) := by decide +kernel
theorem d_LittleMix_Arithmetic_difference_53 : decode b_LittleMix_Arithmetic_difference 53 = .ok (.lload 5, 2) := by decide +kernel
theorem d_LittleMix_Arithmetic_difference_55 : decode b_LittleMix_Arithmetic_difference 55 = .ok (.land, 1) := by decide +kernel
theorem d_LittleMix_Arithmetic_difference_56 : decode b_LittleMix_Arithmetic_difference 56 = .ok (.lstore 12, 2) := by decide +kernel
theorem d_LittleMix_Arithmetic_difference_58 : decode b_LittleMix_Arithmetic_difference 58 = .ok (.lload 7, 2) := by decide +kernel
theorem d_LittleMix_Arithmetic_difference_60 : decode b_LittleMix_Arithmetic_difference 60 = .ok (.lload 12, 2) := by decide +kernel
theorem d_LittleMix_Arithmetic_difference_62 : decode b_LittleMix_Arithmetic_difference 62 = .ok (.lload 10, 2) := by decide +kernel
theorem d_LittleMix_Arithmetic_difference_64 : decode b_LittleMix_Arithmetic_difference 64 = .ok (.invokestatic 17, 3) := by decide +kernel
theorem d_LittleMix_Arithmetic_difference_67 : decode b_LittleMix_Arithmetic_difference 67 = .ok (.ifCond .eq 11, 3) := by decide +kernel
theorem d_LittleMix_Arithmetic_difference_70 : decode b_LittleMix_Arithmetic_difference 70 = .ok (.lload 10, 2) := by decide +kernel
theorem d_LittleMix_Arithmetic_difference_72 : decode b_LittleMix_Arithmetic_difference 72 = .ok (.lload 12, 2) := by decide +kernel
theorem d_LittleMix_Arithmetic_difference_74 : decode b_LittleMix_Arithmetic_difference 74 = .ok (.lsub, 1) := by decide +kernel
theorem d_LittleMix_Arithmetic_difference_75 : decode b_LittleMix_Arithmetic_difference 75 = .ok (.goto 4, 3) := by decide +kernel
theorem d_LittleMix_Arithmetic_difference_78 : decode b_LittleMix_Arithmetic_difference 78 = .ok (.lconst 0, 1) := by decide +kernel
theorem d_LittleMix_Arithmetic_difference_79 : decode b_LittleMix_Arithmetic_difference 79 = .ok (.iload 9, 2) := by decide +kernel
theorem d_LittleMix_Arithmetic_difference_81 : decode b_LittleMix_Arithmetic_difference 81 = .ok (.iload 4, 2) := by decide +kernel
theorem d_LittleMix_Arithmetic_difference_83 : decode b_LittleMix_Arithmetic_difference 83 = .ok (.imul, 1) := by decide +kernel
theorem d_LittleMix_Arithmetic_difference_84 : decode b_LittleMix_Arithmetic_difference 84 = .ok (.lshl, 1) := by decide +kernel
theorem d_LittleMix_Arithmetic_difference_85 : decode b_LittleMix_Arithmetic_difference 85 = .ok (.lor, 1) := by decide +kernel
theorem d_LittleMix_Arithmetic_difference_86 : decode b_LittleMix_Arithmetic_difference 86 = .ok (.lstore 7, 2) := by decide +kernel
theorem d_LittleMix_Arithmetic_difference_88 : decode b_LittleMix_Arithmetic_difference 88 = .ok (.iinc 9 1, 3) := by decide +kernel
theorem d_LittleMix_Arithmetic_difference_91 : decode b_LittleMix_Arithmetic_difference 91 = .ok (.goto (-74), 3) := by decide +kernel
theorem d_LittleMix_Arithmetic_difference_94 : decode b_LittleMix_Arithmetic_difference 94 = .ok (.lload 7, 2) := by decide +kernel
theorem d_LittleMix_Arithmetic_difference_96 : decode b_LittleMix_Arithmetic_difference 96 = .ok (.lreturn, 1) := by decide +kernel
theorem d_LittleMix_Arithmetic_isSo_0 : decode b_LittleMix_Arithmetic_isSo 0 = .ok (.iload_n 0, 1) := by decide +kernel
theorem d_LittleMix_Arithmetic_isSo_1 : decode b_LittleMix_Arithmetic_isSo 1 = .ok (.iconst 3, 1) := by decide +kernel
theorem d_LittleMix_Arithmetic_isSo_2 : decode b_LittleMix_Arithmetic_isSo 2 = .ok (.iand, 1) := by decide +kernel
theorem d_LittleMix_Arithmetic_isSo_3 : decode b_LittleMix_Arithmetic_isSo 3 = .ok (.tableswitch 70 0 2 #[25, 40, 55], 25) := by decide +kernel
theorem d_LittleMix_Arithmetic_isSo_28 : decode b_LittleMix_Arithmetic_isSo 28 = .ok (.lload_n 1, 1) := by decide +kernel
theorem d_LittleMix_Arithmetic_isSo_29 : decode b_LittleMix_Arithmetic_isSo 29 = .ok (.lconst 0, 1) := by decide +kernel
theorem d_LittleMix_Arithmetic_isSo_30 : decode b_LittleMix_Arithmetic_isSo 30 = .ok (.lcmp, 1) := by decide +kernel
theorem d_LittleMix_Arithmetic_isSo_31 : decode b_LittleMix_Arithmetic_isSo 31 = .ok (.ifCond .ge 7, 3) := by decide +kernel
theorem d_LittleMix_Arithmetic_isSo_34 : decode b_LittleMix_Arithmetic_isSo 34 = .ok (.iconst 1, 1) := by decide +kernel
theorem d_LittleMix_Arithmetic_isSo_35 : decode b_LittleMix_Arithmetic_isSo 35 = .ok (.goto 4, 3) := by decide +kernel
theorem d_LittleMix_Arithmetic_isSo_38 : decode b_LittleMix_Arithmetic_isSo 38 = .ok (.iconst 0, 1) := by decide +kernel
theorem d_LittleMix_Arithmetic_isSo_39 : decode b_LittleMix_Arithmetic_isSo 39 = .ok (.istore_n 3, 1) := by decide +kernel
theorem d_LittleMix_Arithmetic_isSo_40 : decode b_LittleMix_Arithmetic_isSo 40 = .ok (.goto 47, 3) := by decide +kernel
theorem d_LittleMix_Arithmetic_isSo_43 : decode b_LittleMix_Arithmetic_isSo 43 = .ok (.lload_n 1, 1) := by decide +kernel
theorem d_LittleMix_Arithmetic_isSo_44 : decode b_LittleMix_Arithmetic_isSo 44 = .ok (.lconst 0, 1) := by decide +kernel
theorem d_LittleMix_Arithmetic_isSo_45 : decode b_LittleMix_Arithmetic_isSo 45 = .ok (.lcmp, 1) := by decide +kernel
theorem d_LittleMix_Arithmetic_isSo_46 : decode b_LittleMix_Arithmetic_isSo 46 = .ok (.ifCond .ne 7, 3) := by decide +kernel
theorem d_LittleMix_Arithmetic_isSo_49 : decode b_LittleMix_Arithmetic_isSo 49 = .ok (.iconst 1, 1) := by decide +kernel
theorem d_LittleMix_Arithmetic_isSo_50 : decode b_LittleMix_Arithmetic_isSo 50 = .ok (.goto 4, 3) := by decide +kernel
theorem d_LittleMix_Arithmetic_isSo_53 : decode b_LittleMix_Arithmetic_isSo 53 = .ok (.iconst 0, 1) := by decide +kernel
theorem d_LittleMix_Arithmetic_isSo_54 : decode b_LittleMix_Arithmetic_isSo 54 = .ok (.istore_n 3, 1) := by decide +kernel
theorem d_LittleMix_Arithmetic_isSo_55 : decode b_LittleMix_Arithmetic_isSo 55 = .ok (.goto 32, 3) := by decide +kernel
theorem d_LittleMix_Arithmetic_isSo_58 : decode b_LittleMix_Arithmetic_isSo 58 = .ok (.lload_n 1, 1) := by decide +kernel
theorem d_LittleMix_Arithmetic_isSo_59 : decode b_LittleMix_Arithmetic_isSo 59 = .ok (.lconst 0, 1) := by decide +kernel
theorem d_LittleMix_Arithmetic_isSo_60 : decode b_LittleMix_Arithmetic_isSo 60 = .ok (.lcmp, 1) := by decide +kernel
theorem d_LittleMix_Arithmetic_isSo_61 : decode b_LittleMix_Arithmetic_isSo 61 = .ok (.ifCond .le 7, 3) := by decide +kernel
theorem d_LittleMix_Arithmetic_isSo_64 : decode b_LittleMix_Arithmetic_isSo 64 = .ok (.iconst 1, 1) := by decide +kernel
theorem d_LittleMix_Arithmetic_isSo_65 : decode b_LittleMix_Arithmetic_isSo 65 = .ok (.goto 4, 3) := by decide +kernel
theorem d_LittleMix_Arithmetic_isSo_68 : decode b_LittleMix_Arithmetic_isSo 68 = .ok (.iconst 0, 1) := by decide +kernel
theorem d_LittleMix_Arithmetic_isSo_69 : decode b_LittleMix_Arithmetic_isSo 69 = .ok (.istore_n 3, 1) := by decide +kernel
theorem d_LittleMix_Arithmetic_isSo_70 : decode b_LittleMix_Arithmetic_isSo 70 = .ok (.goto 17, 3) := by decide +kernel
theorem d_LittleMix_Arithmetic_isSo_73 : decode b_LittleMix_Arithmetic_isSo 73 = .ok (.lload_n 1, 1) := by decide +kernel
theorem d_LittleMix_Arithmetic_isSo_74 : decode b_LittleMix_Arithmetic_isSo 74 = .ok (.lconst 1, 1) := by decide +kernel
theorem d_LittleMix_Arithmetic_isSo_75 : decode b_LittleMix_Arithmetic_isSo 75 = .ok (.land, 1) := by decide +kernel
theorem d_LittleMix_Arithmetic_isSo_76 : decode b_LittleMix_Arithmetic_isSo 76 = .ok (.lconst 1, 1) := by decide +kernel
theorem d_LittleMix_Arithmetic_isSo_77 : decode b_LittleMix_Arithmetic_isSo 77 = .ok (.lcmp, 1) := by decide +kernel
theorem d_LittleMix_Arithmetic_isSo_78 : decode b_LittleMix_Arithmetic_isSo 78 = .ok (.ifCond .ne 7, 3) := by decide +kernel
theorem d_LittleMix_Arithmetic_isSo_81 : decode b_LittleMix_Arithmetic_isSo 81 = .ok (.iconst 1, 1) := by decide +kernel
theorem d_LittleMix_Arithmetic_isSo_82 : decode b_LittleMix_Arithmetic_isSo 82 = .ok (.goto 4, 3) := by decide +kernel
theorem d_LittleMix_Arithmetic_isSo_85 : decode b_LittleMix_Arithmetic_isSo 85 = .ok (.iconst 0, 1) := by decide +kernel
theorem d_LittleMix_Arithmetic_isSo_86 : decode b_LittleMix_Arithmetic_isSo 86 = .ok (.istore_n 3, 1) := by decide +kernel
theorem d_LittleMix_Arithmetic_isSo_87 : decode b_LittleMix_Arithmetic_isSo 87 = .ok (.iload_n 3, 1) := by decide +kernel
theorem d_LittleMix_Arithmetic_isSo_88 : decode b_LittleMix_Arithmetic_isSo 88 = .ok (.iload_n 0, 1) := by decide +kernel
theorem d_LittleMix_Arithmetic_isSo_89 : decode b_LittleMix_Arithmetic_isSo 89 = .ok (.iconst 4, 1) := by decide +kernel
theorem d_LittleMix_Arithmetic_isSo_90 : decode b_LittleMix_Arithmetic_isSo 90 = .ok (.if_icmp .ge 7, 3) := by decide +kernel
theorem d_LittleMix_Arithmetic_isSo_93 : decode b_LittleMix_Arithmetic_isSo 93 = .ok (.iconst 1, 1) := by decide +kernel
theorem d_LittleMix_Arithmetic_isSo_94 : decode b_LittleMix_Arithmetic_isSo 94 = .ok (.goto 4, 3) := by decide +kernel
theorem d_LittleMix_Arithmetic_isSo_97 : decode b_LittleMix_Arithmetic_isSo 97 = .ok (.iconst 0, 1) := by decide +kernel
theorem d_LittleMix_Arithmetic_isSo_98 : decode b_LittleMix_Arithmetic_isSo 98 = .ok (.if_icmp .ne 7, 3) := by decide +kernel
theorem d_LittleMix_Arithmetic_isSo_101 : decode b_LittleMix_Arithmetic_isSo 101 = .ok (.iconst 1, 1) := by decide +kernel
theorem d_LittleMix_Arithmetic_isSo_102 : decode b_LittleMix_Arithmetic_isSo 102 = .ok (.goto 4, 3) := by decide +kernel
theorem d_LittleMix_Arithmetic_isSo_105 : decode b_LittleMix_Arithmetic_isSo 105 = .ok (.iconst 0, 1) := by decide +kernel
theorem d_LittleMix_Arithmetic_isSo_106 : decode b_LittleMix_Arithmetic_isSo 106 = .ok (.ireturn, 1) := by decide +kernel
theorem d_LittleMix_Arithmetic_matrix_0 : decode b_LittleMix_Arithmetic_matrix 0 = .ok (.lconst 0, 1) := by decide +kernel
theorem d_LittleMix_Arithmetic_matrix_1 : decode b_LittleMix_Arithmetic_matrix 1 = .ok (.lstore 5, 2) := by decide +kernel
theorem d_LittleMix_Arithmetic_matrix_3 : decode b_LittleMix_Arithmetic_matrix 3 = .ok (.iconst 0, 1) := by decide +kernel
theorem d_LittleMix_Arithmetic_matrix_4 : decode b_LittleMix_Arithmetic_matrix 4 = .ok (.istore 7, 2) := by decide +kernel
theorem d_LittleMix_Arithmetic_matrix_6 : decode b_LittleMix_Arithmetic_matrix 6 = .ok (.iload 7, 2) := by decide +kernel
theorem d_LittleMix_Arithmetic_matrix_8 : decode b_LittleMix_Arithmetic_matrix 8 = .ok (.bipush 64, 2) := by decide +kernel
theorem d_LittleMix_Arithmetic_matrix_10 : decode b_LittleMix_Arithmetic_matrix 10 = .ok (.if_icmp .ge 89, 3) := by decide +kernel
theorem d_LittleMix_Arithmetic_matrix_13 : decode b_LittleMix_Arithmetic_matrix 13 = .ok (.lconst 0, 1) := by decide +kernel
theorem d_LittleMix_Arithmetic_matrix_14 : decode b_LittleMix_Arithmetic_matrix 14 = .ok (.lstore 8, 2) := by decide +kernel
theorem d_LittleMix_Arithmetic_matrix_16 : decode b_LittleMix_Arithmetic_matrix 16 = .ok (.iconst 0, 1) := by decide +kernel
theorem d_LittleMix_Arithmetic_matrix_17 : decode b_LittleMix_Arithmetic_matrix 17 = .ok (.istore 10, 2) := by decide +kernel
theorem d_LittleMix_Arithmetic_matrix_19 : decode b_LittleMix_Arithmetic_matrix 19 = .ok (.iload 10, 2) := by decide +kernel
theorem d_LittleMix_Arithmetic_matrix_21 : decode b_LittleMix_Arithmetic_matrix 21 = .ok (.bipush 8, 2) := by decide +kernel
theorem d_LittleMix_Arithmetic_matrix_23 : decode b_LittleMix_Arithmetic_matrix 23 = .ok (.if_icmp .ge 60, 3) := by decide +kernel
theorem d_LittleMix_Arithmetic_matrix_26 : decode b_LittleMix_Arithmetic_matrix 26 = .ok (.lload_n 2, 1) := by decide +kernel
theorem d_LittleMix_Arithmetic_matrix_27 : decode b_LittleMix_Arithmetic_matrix 27 = .ok (.iload 7, 2) := by decide +kernel
theorem d_LittleMix_Arithmetic_matrix_29 : decode b_LittleMix_Arithmetic_matrix 29 = .ok (.iload 10, 2) := by decide +kernel
theorem d_LittleMix_Arithmetic_matrix_31 : decode b_LittleMix_Arithmetic_matrix 31 = .ok (.iadd, 1) := by decide +kernel
theorem d_LittleMix_Arithmetic_matrix_32 : decode b_LittleMix_Arithmetic_matrix 32 = .ok (.lushr, 1) := by decide +kernel
theorem d_LittleMix_Arithmetic_matrix_33 : decode b_LittleMix_Arithmetic_matrix 33 = .ok (.lconst 1, 1) := by decide +kernel
theorem d_LittleMix_Arithmetic_matrix_34 : decode b_LittleMix_Arithmetic_matrix 34 = .ok (.land, 1) := by decide +kernel
theorem d_LittleMix_Arithmetic_matrix_35 : decode b_LittleMix_Arithmetic_matrix 35 = .ok (.lconst 0, 1) := by decide +kernel
theorem d_LittleMix_Arithmetic_matrix_36 : decode b_LittleMix_Arithmetic_matrix 36 = .ok (.lcmp, 1) := by decide +kernel
theorem d_LittleMix_Arithmetic_matrix_37 : decode b_LittleMix_Arithmetic_matrix 37 = .ok (.ifCond .ne 7, 3) := by decide +kernel
theorem d_LittleMix_Arithmetic_matrix_40 : decode b_LittleMix_Arithmetic_matrix 40 = .ok (.lconst 0, 1) := by decide +kernel
theorem d_LittleMix_Arithmetic_matrix_41 : decode b_LittleMix_Arithmetic_matrix 41 = .ok (.goto 14, 3) := by decide +kernel
theorem d_LittleMix_Arithmetic_matrix_44 : decode b_LittleMix_Arithmetic_matrix 44 = .ok (.lload_n 0, 1) := by decide +kernel
theorem d_LittleMix_Arithmetic_matrix_45 : decode b_LittleMix_Arithmetic_matrix 45 = .ok (.bipush 8, 2) := by decide +kernel
theorem d_LittleMix_Arithmetic_matrix_47 : decode b_LittleMix_Arithmetic_matrix 47 = .ok (.iload 10, 2) := by decide +kernel
theorem d_LittleMix_Arithmetic_matrix_49 : decode b_LittleMix_Arithmetic_matrix 49 = .ok (.imul, 1) := by decide +kernel
theorem d_LittleMix_Arithmetic_matrix_50 : decode b_LittleMix_Arithmetic_matrix 50 = .ok (.lushr, 1) := by decide +kernel
theorem d_LittleMix_Arithmetic_matrix_51 : decode b_LittleMix_Arithmetic_matrix 51 = .ok (.ldc2_w 23, 3) := by decide +kernel
theorem d_LittleMix_Arithmetic_matrix_54 : decode b_LittleMix_Arithmetic_matrix 54 = .ok (.land, 1) := by decide +kernel
theorem d_LittleMix_Arithmetic_matrix_55 : decode b_LittleMix_Arithmetic_matrix 55 = .ok (.lstore 11, 2) := by decide +kernel
theorem d_LittleMix_Arithmetic_matrix_57 : decode b_LittleMix_Arithmetic_matrix 57 = .ok (.iload 4, 2) := by decide +kernel
theorem d_LittleMix_Arithmetic_matrix_59 : decode b_LittleMix_Arithmetic_matrix 59 = .ok (.ifCond .eq 11, 3) := by decide +kernel
theorem d_LittleMix_Arithmetic_matrix_62 : decode b_LittleMix_Arithmetic_matrix 62 = .ok (.lload 8, 2) := by decide +kernel
theorem d_LittleMix_Arithmetic_matrix_64 : decode b_LittleMix_Arithmetic_matrix 64 = .ok (.lload 11, 2) := by decide +kernel
theorem d_LittleMix_Arithmetic_matrix_66 : decode b_LittleMix_Arithmetic_matrix 66 = .ok (.lxor, 1) := by decide +kernel
theorem d_LittleMix_Arithmetic_matrix_67 : decode b_LittleMix_Arithmetic_matrix 67 = .ok (.goto 8, 3) := by decide +kernel
theorem d_LittleMix_Arithmetic_matrix_70 : decode b_LittleMix_Arithmetic_matrix 70 = .ok (.lload 8, 2) := by decide +kernel
theorem d_LittleMix_Arithmetic_matrix_72 : decode b_LittleMix_Arithmetic_matrix 72 = .ok (.lload 11, 2) := by decide +kernel
theorem d_LittleMix_Arithmetic_matrix_74 : decode b_LittleMix_Arithmetic_matrix 74 = .ok (.lor, 1) := by decide +kernel
theorem d_LittleMix_Arithmetic_matrix_75 : decode b_LittleMix_Arithmetic_matrix 75 = .ok (.lstore 8, 2) := by decide +kernel
theorem d_LittleMix_Arithmetic_matrix_77 : decode b_LittleMix_Arithmetic_matrix 77 = .ok (.iinc 10 1, 3) := by decide +kernel
theorem d_LittleMix_Arithmetic_matrix_80 : decode b_LittleMix_Arithmetic_matrix 80 = .ok (.goto (-61), 3) := by decide +kernel
theorem d_LittleMix_Arithmetic_matrix_83 : decode b_LittleMix_Arithmetic_matrix 83 = .ok (.lload 5, 2) := by decide +kernel
theorem d_LittleMix_Arithmetic_matrix_85 : decode b_LittleMix_Arithmetic_matrix 85 = .ok (.lload 8, 2) := by decide +kernel
theorem d_LittleMix_Arithmetic_matrix_87 : decode b_LittleMix_Arithmetic_matrix 87 = .ok (.iload 7, 2) := by decide +kernel
theorem d_LittleMix_Arithmetic_matrix_89 : decode b_LittleMix_Arithmetic_matrix 89 = .ok (.lshl, 1) := by decide +kernel
theorem d_LittleMix_Arithmetic_matrix_90 : decode b_LittleMix_Arithmetic_matrix 90 = .ok (.lor, 1) := by decide +kernel
theorem d_LittleMix_Arithmetic_matrix_91 : decode b_LittleMix_Arithmetic_matrix 91 = .ok (.lstore 5, 2) := by decide +kernel
theorem d_LittleMix_Arithmetic_matrix_93 : decode b_LittleMix_Arithmetic_matrix 93 = .ok (.iinc 7 8, 3) := by decide +kernel
theorem d_LittleMix_Arithmetic_matrix_96 : decode b_LittleMix_Arithmetic_matrix 96 = .ok (.goto (-90), 3) := by decide +kernel
theorem d_LittleMix_Arithmetic_matrix_99 : decode b_LittleMix_Arithmetic_matrix 99 = .ok (.lload 5, 2) := by decide +kernel
theorem d_LittleMix_Arithmetic_matrix_101 : decode b_LittleMix_Arithmetic_matrix 101 = .ok (.lreturn, 1) := by decide +kernel
theorem d_LittleMix_Arithmetic_productFits_0 : decode b_LittleMix_Arithmetic_productFits 0 = .ok (.lload_n 0, 1) := by decide +kernel
theorem d_LittleMix_Arithmetic_productFits_1 : decode b_LittleMix_Arithmetic_productFits 1 = .ok (.lload_n 2, 1) := by decide +kernel
theorem d_LittleMix_Arithmetic_productFits_2 : decode b_LittleMix_Arithmetic_productFits 2 = .ok (.invokestatic 13, 3) := by decide +kernel
theorem d_LittleMix_Arithmetic_productFits_5 : decode b_LittleMix_Arithmetic_productFits 5 = .ok (.lload_n 0, 1) := by decide +kernel
theorem d_LittleMix_Arithmetic_productFits_6 : decode b_LittleMix_Arithmetic_productFits 6 = .ok (.lconst 0, 1) := by decide +kernel
theorem d_LittleMix_Arithmetic_productFits_7 : decode b_LittleMix_Arithmetic_productFits 7 = .ok (.lcmp, 1) := by decide +kernel
theorem d_LittleMix_Arithmetic_productFits_8 : decode b_LittleMix_Arithmetic_productFits 8 = .ok (.ifCond .ge 7, 3) := by decide +kernel
theorem d_LittleMix_Arithmetic_productFits_11 : decode b_LittleMix_Arithmetic_productFits 11 = .ok (.lload_n 2, 1) := by decide +kernel
theorem d_LittleMix_Arithmetic_productFits_12 : decode b_LittleMix_Arithmetic_productFits 12 = .ok (.goto 4, 3) := by decide +kernel
theorem d_LittleMix_Arithmetic_productFits_15 : decode b_LittleMix_Arithmetic_productFits 15 = .ok (.lconst 0, 1) := by decide +kernel
theorem d_LittleMix_Arithmetic_productFits_16 : decode b_LittleMix_Arithmetic_productFits 16 = .ok (.lsub, 1) := by decide +kernel
theorem d_LittleMix_Arithmetic_productFits_17 : decode b_LittleMix_Arithmetic_productFits 17 = .ok (.lload_n 2, 1) := by decide +kernel
theorem d_LittleMix_Arithmetic_productFits_18 : decode b_LittleMix_Arithmetic_productFits 18 = .ok (.lconst 0, 1) := by decide +kernel
theorem d_LittleMix_Arithmetic_productFits_19 : decode b_LittleMix_Arithmetic_productFits 19 = .ok (.lcmp, 1) := by decide +kernel
theorem d_LittleMix_Arithmetic_productFits_20 : decode b_LittleMix_Arithmetic_productFits 20 = .ok (.ifCond .ge 7, 3) := by decide +kernel
theorem d_LittleMix_Arithmetic_productFits_23 : decode b_LittleMix_Arithmetic_productFits 23 = .ok (.lload_n 0, 1) := by decide +kernel
theorem d_LittleMix_Arithmetic_productFits_24 : decode b_LittleMix_Arithmetic_productFits 24 = .ok (.goto 4, 3) := by decide +kernel
theorem d_LittleMix_Arithmetic_productFits_27 : decode b_LittleMix_Arithmetic_productFits 27 = .ok (.lconst 0, 1) := by decide +kernel
theorem d_LittleMix_Arithmetic_productFits_28 : decode b_LittleMix_Arithmetic_productFits 28 = .ok (.lsub, 1) := by decide +kernel
theorem d_LittleMix_Arithmetic_productFits_29 : decode b_LittleMix_Arithmetic_productFits 29 = .ok (.lstore 4, 2) := by decide +kernel
theorem d_LittleMix_Arithmetic_productFits_31 : decode b_LittleMix_Arithmetic_productFits 31 = .ok (.lload 4, 2) := by decide +kernel
theorem d_LittleMix_Arithmetic_productFits_33 : decode b_LittleMix_Arithmetic_productFits 33 = .ok (.lload_n 0, 1) := by decide +kernel
theorem d_LittleMix_Arithmetic_productFits_34 : decode b_LittleMix_Arithmetic_productFits 34 = .ok (.lload_n 2, 1) := by decide +kernel
theorem d_LittleMix_Arithmetic_productFits_35 : decode b_LittleMix_Arithmetic_productFits 35 = .ok (.lmul, 1) := by decide +kernel
theorem d_LittleMix_Arithmetic_productFits_36 : decode b_LittleMix_Arithmetic_productFits 36 = .ok (.bipush 63, 2) := by decide +kernel
theorem d_LittleMix_Arithmetic_productFits_38 : decode b_LittleMix_Arithmetic_productFits 38 = .ok (.lshr, 1) := by decide +kernel
theorem d_LittleMix_Arithmetic_productFits_39 : decode b_LittleMix_Arithmetic_productFits 39 = .ok (.lcmp, 1) := by decide +kernel
theorem d_LittleMix_Arithmetic_productFits_40 : decode b_LittleMix_Arithmetic_productFits 40 = .ok (.ifCond .ne 7, 3) := by decide +kernel
theorem d_LittleMix_Arithmetic_productFits_43 : decode b_LittleMix_Arithmetic_productFits 43 = .ok (.iconst 1, 1) := by decide +kernel
theorem d_LittleMix_Arithmetic_productFits_44 : decode b_LittleMix_Arithmetic_productFits 44 = .ok (.goto 4, 3) := by decide +kernel
theorem d_LittleMix_Arithmetic_productFits_47 : decode b_LittleMix_Arithmetic_productFits 47 = .ok (.iconst 0, 1) := by decide +kernel
theorem d_LittleMix_Arithmetic_productFits_48 : decode b_LittleMix_Arithmetic_productFits 48 = .ok (.ireturn, 1) := by decide +kernel
theorem d_LittleMix_Arithmetic_quotient_0 : decode b_LittleMix_Arithmetic_quotient 0 = .ok (.lload_n 0, 1) := by decide +kernel
theorem d_LittleMix_Arithmetic_quotient_1 : decode b_LittleMix_Arithmetic_quotient 1 = .ok (.lstore 6, 2) := by decide +kernel
theorem d_LittleMix_Arithmetic_quotient_3 : decode b_LittleMix_Arithmetic_quotient 3 = .ok (.lconst 0, 1) := by decide +kernel
theorem d_LittleMix_Arithmetic_quotient_4 : decode b_LittleMix_Arithmetic_quotient 4 = .ok (.lstore 8, 2) := by decide +kernel
theorem d_LittleMix_Arithmetic_quotient_6 : decode b_LittleMix_Arithmetic_quotient 6 = .ok (.bipush 63, 2) := by decide +kernel
theorem d_LittleMix_Arithmetic_quotient_8 : decode b_LittleMix_Arithmetic_quotient 8 = .ok (.istore 10, 2) := by decide +kernel
theorem d_LittleMix_Arithmetic_quotient_10 : decode b_LittleMix_Arithmetic_quotient 10 = .ok (.iload 10, 2) := by decide +kernel
theorem d_LittleMix_Arithmetic_quotient_12 : decode b_LittleMix_Arithmetic_quotient 12 = .ok (.ifCond .lt 70, 3) := by decide +kernel
theorem d_LittleMix_Arithmetic_quotient_15 : decode b_LittleMix_Arithmetic_quotient 15 = .ok (.lload 6, 2) := by decide +kernel
theorem d_LittleMix_Arithmetic_quotient_17 : decode b_LittleMix_Arithmetic_quotient 17 = .ok (.lconst 0, 1) := by decide +kernel
theorem d_LittleMix_Arithmetic_quotient_18 : decode b_LittleMix_Arithmetic_quotient 18 = .ok (.lcmp, 1) := by decide +kernel
theorem d_LittleMix_Arithmetic_quotient_19 : decode b_LittleMix_Arithmetic_quotient 19 = .ok (.ifCond .ge 7, 3) := by decide +kernel
theorem d_LittleMix_Arithmetic_quotient_22 : decode b_LittleMix_Arithmetic_quotient 22 = .ok (.iconst 1, 1) := by decide +kernel
theorem d_LittleMix_Arithmetic_quotient_23 : decode b_LittleMix_Arithmetic_quotient 23 = .ok (.goto 4, 3) := by decide +kernel
theorem d_LittleMix_Arithmetic_quotient_26 : decode b_LittleMix_Arithmetic_quotient 26 = .ok (.iconst 0, 1) := by decide +kernel
theorem d_LittleMix_Arithmetic_quotient_27 : decode b_LittleMix_Arithmetic_quotient 27 = .ok (.istore 11, 2) := by decide +kernel
theorem d_LittleMix_Arithmetic_quotient_29 : decode b_LittleMix_Arithmetic_quotient 29 = .ok (.lload 6, 2) := by decide +kernel
theorem d_LittleMix_Arithmetic_quotient_31 : decode b_LittleMix_Arithmetic_quotient 31 = .ok (.iconst 1, 1) := by decide +kernel
theorem d_LittleMix_Arithmetic_quotient_32 : decode b_LittleMix_Arithmetic_quotient 32 = .ok (.lshl, 1) := by decide +kernel
theorem d_LittleMix_Arithmetic_quotient_33 : decode b_LittleMix_Arithmetic_quotient 33 = .ok (.lload_n 2, 1) := by decide +kernel
theorem d_LittleMix_Arithmetic_quotient_34 : decode b_LittleMix_Arithmetic_quotient 34 = .ok (.iload 10, 2) := by decide +kernel
theorem d_LittleMix_Arithmetic_quotient_36 : decode b_LittleMix_Arithmetic_quotient 36 = .ok (.lushr, 1) := by decide +kernel
theorem d_LittleMix_Arithmetic_quotient_37 : decode b_LittleMix_Arithmetic_quotient 37 = .ok (.lconst 1, 1) := by decide +kernel
theorem d_LittleMix_Arithmetic_quotient_38 : decode b_LittleMix_Arithmetic_quotient 38 = .ok (.land, 1) := by decide +kernel
theorem d_LittleMix_Arithmetic_quotient_39 : decode b_LittleMix_Arithmetic_quotient 39 = .ok (.lor, 1) := by decide +kernel
theorem d_LittleMix_Arithmetic_quotient_40 : decode b_LittleMix_Arithmetic_quotient 40 = .ok (.lstore 6, 2) := by decide +kernel
theorem d_LittleMix_Arithmetic_quotient_42 : decode b_LittleMix_Arithmetic_quotient 42 = .ok (.lload 8, 2) := by decide +kernel
theorem d_LittleMix_Arithmetic_quotient_44 : decode b_LittleMix_Arithmetic_quotient 44 = .ok (.iconst 1, 1) := by decide +kernel
theorem d_LittleMix_Arithmetic_quotient_45 : decode b_LittleMix_Arithmetic_quotient 45 = .ok (.lshl, 1) := by decide +kernel
theorem d_LittleMix_Arithmetic_quotient_46 : decode b_LittleMix_Arithmetic_quotient 46 = .ok (.lstore 8, 2) := by decide +kernel
theorem d_LittleMix_Arithmetic_quotient_48 : decode b_LittleMix_Arithmetic_quotient 48 = .ok (.iload 11, 2) := by decide +kernel
theorem d_LittleMix_Arithmetic_quotient_50 : decode b_LittleMix_Arithmetic_quotient 50 = .ok (.ifCond .ne 13, 3) := by decide +kernel
theorem d_LittleMix_Arithmetic_quotient_53 : decode b_LittleMix_Arithmetic_quotient 53 = .ok (.lload 6, 2) := by decide +kernel
theorem d_LittleMix_Arithmetic_quotient_55 : decode b_LittleMix_Arithmetic_quotient 55 = .ok (.lload 4, 2) := by decide +kernel
theorem d_LittleMix_Arithmetic_quotient_57 : decode b_LittleMix_Arithmetic_quotient 57 = .ok (.invokestatic 17, 3) := by decide +kernel
theorem d_LittleMix_Arithmetic_quotient_60 : decode b_LittleMix_Arithmetic_quotient 60 = .ok (.ifCond .ne 16, 3) := by decide +kernel
theorem d_LittleMix_Arithmetic_quotient_63 : decode b_LittleMix_Arithmetic_quotient 63 = .ok (.lload 6, 2) := by decide +kernel
theorem d_LittleMix_Arithmetic_quotient_65 : decode b_LittleMix_Arithmetic_quotient 65 = .ok (.lload 4, 2) := by decide +kernel
theorem d_LittleMix_Arithmetic_quotient_67 : decode b_LittleMix_Arithmetic_quotient 67 = .ok (.lsub, 1) := by decide +kernel
theorem d_LittleMix_Arithmetic_quotient_68 : decode b_LittleMix_Arithmetic_quotient 68 = .ok (.lstore 6, 2) := by decide +kernel
theorem d_LittleMix_Arithmetic_quotient_70 : decode b_LittleMix_Arithmetic_quotient 70 = .ok (.lload 8, 2) := by decide +kernel
theorem d_LittleMix_Arithmetic_quotient_72 : decode b_LittleMix_Arithmetic_quotient 72 = .ok (.lconst 1, 1) := by decide +kernel
theorem d_LittleMix_Arithmetic_quotient_73 : decode b_LittleMix_Arithmetic_quotient 73 = .ok (.lor, 1) := by decide +kernel
theorem d_LittleMix_Arithmetic_quotient_74 : decode b_LittleMix_Arithmetic_quotient 74 = .ok (.lstore 8, 2) := by decide +kernel
theorem d_LittleMix_Arithmetic_quotient_76 : decode b_LittleMix_Arithmetic_quotient 76 = .ok (.iinc 10 (-1), 3) := by decide +kernel
theorem d_LittleMix_Arithmetic_quotient_79 : decode b_LittleMix_Arithmetic_quotient 79 = .ok (.goto (-69), 3) := by decide +kernel
theorem d_LittleMix_Arithmetic_quotient_82 : decode b_LittleMix_Arithmetic_quotient 82 = .ok (.lload 8, 2) := by decide +kernel
theorem d_LittleMix_Arithmetic_quotient_84 : decode b_LittleMix_Arithmetic_quotient 84 = .ok (.lreturn, 1) := by decide +kernel
theorem d_LittleMix_Arithmetic_upper_0 : decode b_LittleMix_Arithmetic_upper 0 = .ok (.lload_n 0, 1) := by decide +kernel
theorem d_LittleMix_Arithmetic_upper_1 : decode b_LittleMix_Arithmetic_upper 1 = .ok (.bipush 32, 2) := by decide +kernel
theorem d_LittleMix_Arithmetic_upper_3 : decode b_LittleMix_Arithmetic_upper 3 = .ok (.lushr, 1) := by decide +kernel
theorem d_LittleMix_Arithmetic_upper_4 : decode b_LittleMix_Arithmetic_upper 4 = .ok (.lload_n 2, 1) := by decide +kernel
theorem d_LittleMix_Arithmetic_upper_5 : decode b_LittleMix_Arithmetic_upper 5 = .ok (.ldc2_w 11, 3) := by decide +kernel
theorem d_LittleMix_Arithmetic_upper_8 : decode b_LittleMix_Arithmetic_upper 8 = .ok (.land, 1) := by decide +kernel
theorem d_LittleMix_Arithmetic_upper_9 : decode b_LittleMix_Arithmetic_upper 9 = .ok (.lmul, 1) := by decide +kernel
theorem d_LittleMix_Arithmetic_upper_10 : decode b_LittleMix_Arithmetic_upper 10 = .ok (.lload_n 0, 1) := by decide +kernel
theorem d_LittleMix_Arithmetic_upper_11 : decode b_LittleMix_Arithmetic_upper 11 = .ok (.ldc2_w 11, 3) := by decide +kernel
theorem d_LittleMix_Arithmetic_upper_14 : decode b_LittleMix_Arithmetic_upper 14 = .ok (.land, 1) := by decide +kernel
theorem d_LittleMix_Arithmetic_upper_15 : decode b_LittleMix_Arithmetic_upper 15 = .ok (.lload_n 2, 1) := by decide +kernel
theorem d_LittleMix_Arithmetic_upper_16 : decode b_LittleMix_Arithmetic_upper 16 = .ok (.ldc2_w 11, 3) := by decide +kernel
theorem d_LittleMix_Arithmetic_upper_19 : decode b_LittleMix_Arithmetic_upper 19 = .ok (.land, 1) := by decide +kernel
theorem d_LittleMix_Arithmetic_upper_20 : decode b_LittleMix_Arithmetic_upper 20 = .ok (.lmul, 1) := by decide +kernel
theorem d_LittleMix_Arithmetic_upper_21 : decode b_LittleMix_Arithmetic_upper 21 = .ok (.bipush 32, 2) := by decide +kernel
theorem d_LittleMix_Arithmetic_upper_23 : decode b_LittleMix_Arithmetic_upper 23 = .ok (.lushr, 1) := by decide +kernel
theorem d_LittleMix_Arithmetic_upper_24 : decode b_LittleMix_Arithmetic_upper 24 = .ok (.ladd, 1) := by decide +kernel
theorem d_LittleMix_Arithmetic_upper_25 : decode b_LittleMix_Arithmetic_upper 25 = .ok (.lstore 4, 2) := by decide +kernel
