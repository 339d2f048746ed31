abbrev b_Mod_after : ByteArray := prog_14_method_25_code
abbrev b_Mod_among : ByteArray := prog_14_method_11_code
abbrev b_Mod_at : ByteArray := prog_14_method_5_code
abbrev b_Mod_blanks : ByteArray := prog_14_method_9_code
abbrev b_Mod_hex : ByteArray := prog_14_method_16_code
abbrev b_Mod_is : ByteArray := prog_14_method_10_code
abbrev b_Mod_isDigit : ByteArray := prog_14_method_6_code
abbrev b_Mod_isLetter : ByteArray := prog_14_method_7_code
abbrev b_Mod_labelNamed : ByteArray := prog_14_method_15_code
abbrev b_Mod_specialNamed : ByteArray := prog_14_method_14_code
abbrev b_Mod_specialOf : ByteArray := prog_14_method_12_code
abbrev b_Mod_word : ByteArray := prog_14_method_8_code
abbrev y_Mod_after : MethodName := ⟨"LittleMixModel", "after", "(I)I"⟩
abbrev y_Mod_among : MethodName := ⟨"LittleMixModel", "among", "(IILjava/lang/String;)I"⟩
abbrev y_Mod_at : MethodName := ⟨"LittleMixModel", "at", "(I)I"⟩
abbrev y_Mod_blanks : MethodName := ⟨"LittleMixModel", "blanks", "(I)I"⟩
abbrev y_Mod_hex : MethodName := ⟨"LittleMixModel", "hex", "(I)I"⟩
abbrev y_Mod_is : MethodName := ⟨"LittleMixModel", "is", "(IILjava/lang/String;)Z"⟩
abbrev y_Mod_isDigit : MethodName := ⟨"LittleMixModel", "isDigit", "(I)Z"⟩
abbrev y_Mod_isLetter : MethodName := ⟨"LittleMixModel", "isLetter", "(I)Z"⟩
abbrev y_Mod_labelNamed : MethodName := ⟨"LittleMixModel", "labelNamed", "(II)I"⟩
abbrev y_Mod_specialNamed : MethodName := ⟨"LittleMixModel", "specialNamed", "(II)I"⟩
abbrev y_Mod_specialOf : MethodName := ⟨"LittleMixModel", "specialOf", "(I)I"⟩
abbrev y_Mod_word : MethodName := ⟨"LittleMixModel", "word", "(I)I"⟩
theorem p_Mod_among : y_Mod_among.cls ≠ "java/lang/invoke/MethodHandle" ∧ y_Mod_among.cls ≠ "java/lang/invoke/VarHandle" ∧ (parseMethodDescriptor y_Mod_among.desc).map (fun d => d.parameters.length) = some 3 := by decide +kernel
theorem p_Mod_at : y_Mod_at.cls ≠ "java/lang/invoke/MethodHandle" ∧ y_Mod_at.cls ≠ "java/lang/invoke/VarHandle" ∧ (parseMethodDescriptor y_Mod_at.desc).map (fun d => d.parameters.length) = some 1 := by decide +kernel
theorem p_Mod_isDigit : y_Mod_isDigit.cls ≠ "java/lang/invoke/MethodHandle" ∧ y_Mod_isDigit.cls ≠ "java/lang/invoke/VarHandle" ∧ (parseMethodDescriptor y_Mod_isDigit.desc).map (fun d => d.parameters.length) = some 1 := by decide +kernel
theorem p_Mod_isLetter : y_Mod_isLetter.cls ≠ "java/lang/invoke/MethodHandle" ∧ y_Mod_isLetter.cls ≠ "java/lang/invoke/VarHandle" ∧ (parseMethodDescriptor y_Mod_isLetter.desc).map (fun d => d.parameters.length) = some 1 := by decide +kernel
theorem p_Mod_specialOf : y_Mod_specialOf.cls ≠ "java/lang/invoke/MethodHandle" ∧ y_Mod_specialOf.cls ≠ "java/lang/invoke/VarHandle" ∧ (parseMethodDescriptor y_Mod_specialOf.desc).map (fun d => d.parameters.length) = some 1 := by decide +kernel
theorem k_982 : (Jvm.Cond.fieldLink "LittleMixModel" (88 : Nat) "LittleMixModel" "size" "I") ∈ mx_T := List.mem_filter.mpr ⟨List.mem_append_right _ ((List.mem_append_right _ (List.mem_append_right _ (List.mem_append_right _ (List.mem_append_right _ (List.mem_append_left _ (List.mem_of_getElem? (l := tables_1_5) (i := 22) (by decide +kernel)))))))), rfl⟩
theorem k_988 : (Jvm.Cond.fieldLink "LittleMixModel" (133 : Nat) "LittleMixModel" "labels" "I") ∈ mx_T := List.mem_filter.mpr ⟨List.mem_append_right _ ((List.mem_append_right _ (List.mem_append_right _ (List.mem_append_right _ (List.mem_append_right _ (List.mem_append_left _ (List.mem_of_getElem? (l := tables_1_5) (i := 28) (by decide +kernel)))))))), rfl⟩
theorem k_1127 : (Jvm.Cond.methodLink "LittleMixModel" (91 : Nat) ({ cls := "LittleMixModel", name := "at", desc := "(I)I" } : Jvm.MethodName)) ∈ mx_T := List.mem_filter.mpr ⟨List.mem_append_right _ ((List.mem_append_right _ (List.mem_append_right _ (List.mem_append_right _ (List.mem_append_right _ (List.mem_append_left _ (List.mem_of_getElem? (l := tables_1_5) (i := 167) (by decide +kernel)))))))), rfl⟩
theorem k_1129 : (Jvm.Cond.instanceMethod ({ cls := "LittleMixModel", name := "at", desc := "(I)I" } : Jvm.MethodName)) ∈ mx_T := List.mem_filter.mpr ⟨List.mem_append_right _ ((List.mem_append_right _ (List.mem_append_right _ (List.mem_append_right _ (List.mem_append_right _ (List.mem_append_left _ (List.mem_of_getElem? (l := tables_1_5) (i := 169) (by decide +kernel)))))))), rfl⟩
theorem k_1130 : (Jvm.Cond.code ({ cls := "LittleMixModel", name := "at", desc := "(I)I" } : Jvm.MethodName) prog_14_method_5_code (2 : Nat) (Option.some Jvm.ClassFile.FieldType.int)) ∈ mx_T := List.mem_filter.mpr ⟨List.mem_append_right _ ((List.mem_append_right _ (List.mem_append_right _ (List.mem_append_right _ (List.mem_append_right _ (List.mem_append_left _ (List.mem_of_getElem? (l := tables_1_5) (i := 170) rfl))))))), rfl⟩
theorem k_1131 : (Jvm.Cond.methodLink "LittleMixModel" (99 : Nat) ({ cls := "LittleMixModel", name := "isLetter", desc := "(I)Z" } : Jvm.MethodName)) ∈ mx_T := List.mem_filter.mpr ⟨List.mem_append_right _ ((List.mem_append_right _ (List.mem_append_right _ (List.mem_append_right _ (List.mem_append_right _ (List.mem_append_left _ (List.mem_of_getElem? (l := tables_1_5) (i := 171) (by decide +kernel)))))))), rfl⟩
theorem k_1132 : (Jvm.Cond.static ({ cls := "LittleMixModel", name := "isLetter", desc := "(I)Z" } : Jvm.MethodName)) ∈ mx_T := List.mem_filter.mpr ⟨List.mem_append_right _ ((List.mem_append_right _ (List.mem_append_right _ (List.mem_append_right _ (List.mem_append_right _ (List.mem_append_left _ (List.mem_of_getElem? (l := tables_1_5) (i := 172) (by decide +kernel)))))))), rfl⟩
theorem k_1133 : (Jvm.Cond.code ({ cls := "LittleMixModel", name := "isLetter", desc := "(I)Z" } : Jvm.MethodName) prog_14_method_7_code (1 : Nat) (Option.some Jvm.ClassFile.FieldType.boolean)) ∈ mx_T := List.mem_filter.mpr ⟨List.mem_append_right _ ((List.mem_append_right _ (List.mem_append_right _ (List.mem_append_right _ (List.mem_append_right _ (List.mem_append_left _ (List.mem_of_getElem? (l := tables_1_5) (i := 173) rfl))))))), rfl⟩
theorem k_1138 : (Jvm.Cond.methodLink "LittleMixModel" (95 : Nat) ({ cls := "LittleMixModel", name := "isDigit", desc := "(I)Z" } : Jvm.MethodName)) ∈ mx_T := List.mem_filter.mpr ⟨List.mem_append_right _ ((List.mem_append_right _ (List.mem_append_right _ (List.mem_append_right _ (List.mem_append_right _ (List.mem_append_left _ (List.mem_of_getElem? (l := tables_1_5) (i := 178) (by decide +kernel)))))))), rfl⟩
theorem k_1139 : (Jvm.Cond.static ({ cls := "LittleMixModel", name := "isDigit", desc := "(I)Z" } : Jvm.MethodName)) ∈ mx_T := List.mem_filter.mpr ⟨List.mem_append_right _ ((List.mem_append_right _ (List.mem_append_right _ (List.mem_append_right _ (List.mem_append_right _ (List.mem_append_left _ (List.mem_of_getElem? (l := tables_1_5) (i := 179) (by decide +kernel)))))))), rfl⟩
theorem k_1140 : (Jvm.Cond.code ({ cls := "LittleMixModel", name := "isDigit", desc := "(I)Z" } : Jvm.MethodName) prog_14_method_6_code (1 : Nat) (Option.some Jvm.ClassFile.FieldType.boolean)) ∈ mx_T := List.mem_filter.mpr ⟨List.mem_append_right _ ((List.mem_append_right _ (List.mem_append_right _ (List.mem_append_right _ (List.mem_append_right _ (List.mem_append_left _ (List.mem_of_getElem? (l := tables_1_5) (i := 180) rfl))))))), rfl⟩
theorem k_1150 : (Jvm.Cond.methodLink "LittleMixModel" (126 : Nat) ({ cls := "LittleMixModel", name := "among", desc := "(IILjava/lang/String;)I" } : Jvm.MethodName)) ∈ mx_T := List.mem_filter.mpr ⟨List.mem_append_right _ ((List.mem_append_right _ (List.mem_append_right _ (List.mem_append_right _ (List.mem_append_right _ (List.mem_append_left _ (List.mem_of_getElem? (l := tables_1_5) (i := 190) (by decide +kernel)))))))), rfl⟩
theorem k_1152 : (Jvm.Cond.instanceMethod ({ cls := "LittleMixModel", name := "among", desc := "(IILjava/lang/String;)I" } : Jvm.MethodName)) ∈ mx_T := List.mem_filter.mpr ⟨List.mem_append_right _ ((List.mem_append_right _ (List.mem_append_right _ (List.mem_append_right _ (List.mem_append_right _ (List.mem_append_left _ (List.mem_of_getElem? (l := tables_1_5) (i := 192) (by decide +kernel)))))))), rfl⟩
theorem k_1153 : (Jvm.Cond.code ({ cls := "LittleMixModel", name := "among", desc := "(IILjava/lang/String;)I" } : Jvm.MethodName) prog_14_method_11_code (9 : Nat) (Option.some Jvm.ClassFile.FieldType.int)) ∈ mx_T := List.mem_filter.mpr ⟨List.mem_append_right _ ((List.mem_append_right _ (List.mem_append_right _ (List.mem_append_right _ (List.mem_append_right _ (List.mem_append_left _ (List.mem_of_getElem? (l := tables_1_5) (i := 193) rfl))))))), rfl⟩
theorem k_1154 : (Jvm.Cond.methodLink "LittleMixModel" (102 : Nat) ({ cls := "java/lang/String", name := "length", desc := "()I" } : Jvm.MethodName)) ∈ mx_T := List.mem_filter.mpr ⟨List.mem_append_right _ ((List.mem_append_right _ (List.mem_append_right _ (List.mem_append_right _ (List.mem_append_right _ (List.mem_append_left _ (List.mem_of_getElem? (l := tables_1_5) (i := 194) (by decide +kernel)))))))), rfl⟩
theorem k_1155 : (Jvm.Cond.methodLink "LittleMixModel" (108 : Nat) ({ cls := "java/lang/String", name := "charAt", desc := "(I)C" } : Jvm.MethodName)) ∈ mx_T := List.mem_filter.mpr ⟨List.mem_append_right _ ((List.mem_append_right _ (List.mem_append_right _ (List.mem_append_right _ (List.mem_append_right _ (List.mem_append_left _ (List.mem_of_getElem? (l := tables_1_5) (i := 195) (by decide +kernel)))))))), rfl⟩
theorem k_1205 : (Jvm.Cond.methodLink "LittleMixModel" (130 : Nat) ({ cls := "LittleMixModel", name := "specialOf", desc := "(I)I" } : Jvm.MethodName)) ∈ mx_T := List.mem_filter.mpr ⟨List.mem_append_right _ ((List.mem_append_right _ (List.mem_append_right _ (List.mem_append_right _ (List.mem_append_right _ (List.mem_append_right _ (List.mem_of_getElem? (l := tables_1_6) (i := 5) (by decide +kernel)))))))), rfl⟩
theorem k_1206 : (Jvm.Cond.static ({ cls := "LittleMixModel", name := "specialOf", desc := "(I)I" } : Jvm.MethodName)) ∈ mx_T := List.mem_filter.mpr ⟨List.mem_append_right _ ((List.mem_append_right _ (List.mem_append_right _ (List.mem_append_right _ (List.mem_append_right _ (List.mem_append_right _ (List.mem_of_getElem? (l := tables_1_6) (i := 6) (by decide +kernel)))))))), rfl⟩
theorem k_1207 : (Jvm.Cond.code ({ cls := "LittleMixModel", name := "specialOf", desc := "(I)I" } : Jvm.MethodName) prog_14_method_12_code (1 : Nat) (Option.some Jvm.ClassFile.FieldType.int)) ∈ mx_T := List.mem_filter.mpr ⟨List.mem_append_right _ ((List.mem_append_right _ (List.mem_append_right _ (List.mem_append_right _ (List.mem_append_right _ (List.mem_append_right _ (List.mem_of_getElem? (l := tables_1_6) (i := 7) rfl))))))), rfl⟩
theorem sl_Mod_at : Cond.selects y_Mod_at.cls y_Mod_at y_Mod_at ∈ mx_T := List.mem_filter.mpr ⟨List.mem_append_left _ (by decide +kernel), by decide +kernel⟩
theorem sl_Mod_among : Cond.selects y_Mod_among.cls y_Mod_among y_Mod_among ∈ mx_T := List.mem_filter.mpr ⟨List.mem_append_left _ (by decide +kernel), by decide +kernel⟩
theorem d_Mod_after_0 : decode b_Mod_after 0 = .ok (.iload_n 1, 1) := by decide +kernel
theorem d_Mod_after_1 : decode b_Mod_after 1 = .ok (.istore_n 2, 1) := by decide +kernel
theorem d_Mod_after_2 : decode b_Mod_after 2 = .ok (.iload_n 2, 1) := by decide +kernel
theorem d_Mod_after_3 : decode b_Mod_after 3 = .ok (.aload_n 0, 1) := by decide +kernel
theorem d_Mod_after_4 : decode b_Mod_after 4 = .ok (.getfield 88, 3) := by decide +kernel
theorem d_Mod_after_7 : decode b_Mod_after 7 = .ok (.if_icmp .ge 20, 3) := by decide +kernel
theorem d_Mod_after_10 : decode b_Mod_after 10 = .ok (.aload_n 0, 1) := by decide +kernel
theorem d_Mod_after_11 : decode b_Mod_after 11 = .ok (.getfield 13, 3) := by decide +kernel
theorem d_Mod_after_14 : decode b_Mod_after 14 = .ok (.iload_n 2, 1) := by decide +kernel
theorem d_Mod_after_15 : decode b_Mod_after 15 = .ok (.iaload, 1) := by decide +kernel
theorem d_Mod_after_16 : decode b_Mod_after 16 = .ok (.bipush 10, 2) := by decide +kernel
theorem d_Mod_after_18 : decode b_Mod_after 18 = .ok (.if_icmp .eq 9, 3) := by decide +kernel
theorem d_Mod_after_21 : decode b_Mod_after 21 = .ok (.iinc 2 1, 3) := by decide +kernel
theorem d_Mod_after_24 : decode b_Mod_after 24 = .ok (.goto (-22), 3) := by decide +kernel
theorem d_Mod_after_27 : decode b_Mod_after 27 = .ok (.iload_n 2, 1) := by decide +kernel
theorem d_Mod_after_28 : decode b_Mod_after 28 = .ok (.iconst 1, 1) := by decide +kernel
theorem d_Mod_after_29 : decode b_Mod_after 29 = .ok (.iadd, 1) := by decide +kernel
theorem d_Mod_after_30 : decode b_Mod_after 30 = .ok (.ireturn, 1) := by decide +kernel
theorem d_Mod_among_0 : decode b_Mod_among 0 = .ok (.iconst 0, 1) := by decide +kernel
theorem d_Mod_among_1 : decode b_Mod_among 1 = .ok (.istore 4, 2) := by decide +kernel
theorem d_Mod_among_3 : decode b_Mod_among 3 = .ok (.iconst 0, 1) := by decide +kernel
theorem d_Mod_among_4 : decode b_Mod_among 4 = .ok (.istore 5, 2) := by decide +kernel
theorem d_Mod_among_6 : decode b_Mod_among 6 = .ok (.iconst 0, 1) := by decide +kernel
theorem d_Mod_among_7 : decode b_Mod_among 7 = .ok (.istore 6, 2) := by decide +kernel
theorem d_Mod_among_9 : decode b_Mod_among 9 = .ok (.iload 6, 2) := by decide +kernel
theorem d_Mod_among_11 : decode b_Mod_among 11 = .ok (.aload_n 3, 1) := by decide +kernel
theorem d_Mod_among_12 : decode b_Mod_among 12 = .ok (.invokevirtual 102, 3) := by decide +kernel
theorem d_Mod_among_15 : decode b_Mod_among 15 = .ok (.if_icmp .ge 113, 3) := by decide +kernel
theorem d_Mod_among_18 : decode b_Mod_among 18 = .ok (.aload_n 3, 1) := by decide +kernel
theorem d_Mod_among_19 : decode b_Mod_among 19 = .ok (.iload 6, 2) := by decide +kernel
theorem d_Mod_among_21 : decode b_Mod_among 21 = .ok (.invokevirtual 108, 3) := by decide +kernel
theorem d_Mod_among_24 : decode b_Mod_among 24 = .ok (.bipush 32, 2) := by decide +kernel
theorem d_Mod_among_26 : decode b_Mod_among 26 = .ok (.if_icmp .eq 6, 3) := by decide +kernel
theorem d_Mod_among_29 : decode b_Mod_among 29 = .ok (.goto 93, 3) := by decide +kernel
theorem d_Mod_among_32 : decode b_Mod_among 32 = .ok (.iload_n 2, 1) := by decide +kernel
theorem d_Mod_among_33 : decode b_Mod_among 33 = .ok (.iload_n 1, 1) := by decide +kernel
theorem d_Mod_among_34 : decode b_Mod_among 34 = .ok (.if_icmp .le 18, 3) := by decide +kernel
theorem d_Mod_among_37 : decode b_Mod_among 37 = .ok (.iload_n 2, 1) := by decide +kernel
theorem d_Mod_among_38 : decode b_Mod_among 38 = .ok (.iload_n 1, 1) := by decide +kernel
theorem d_Mod_among_39 : decode b_Mod_among 39 = .ok (.isub, 1) := by decide +kernel
theorem d_Mod_among_40 : decode b_Mod_among 40 = .ok (.iload 6, 2) := by decide +kernel
theorem d_Mod_among_42 : decode b_Mod_among 42 = .ok (.iload 4, 2) := by decide +kernel
theorem d_Mod_among_44 : decode b_Mod_among 44 = .ok (.isub, 1) := by decide +kernel
theorem d_Mod_among_45 : decode b_Mod_among 45 = .ok (.if_icmp .ne 7, 3) := by decide +kernel
theorem d_Mod_among_48 : decode b_Mod_among 48 = .ok (.iconst 1, 1) := by decide +kernel
theorem d_Mod_among_49 : decode b_Mod_among 49 = .ok (.goto 4, 3) := by decide +kernel
theorem d_Mod_among_52 : decode b_Mod_among 52 = .ok (.iconst 0, 1) := by decide +kernel
theorem d_Mod_among_53 : decode b_Mod_among 53 = .ok (.istore 7, 2) := by decide +kernel
theorem d_Mod_among_55 : decode b_Mod_among 55 = .ok (.iload 4, 2) := by decide +kernel
theorem d_Mod_among_57 : decode b_Mod_among 57 = .ok (.istore 8, 2) := by decide +kernel
theorem d_Mod_among_59 : decode b_Mod_among 59 = .ok (.iload 7, 2) := by decide +kernel
theorem d_Mod_among_61 : decode b_Mod_among 61 = .ok (.ifCond .eq 44, 3) := by decide +kernel
theorem d_Mod_among_64 : decode b_Mod_among 64 = .ok (.iload 8, 2) := by decide +kernel
theorem d_Mod_among_66 : decode b_Mod_among 66 = .ok (.iload 6, 2) := by decide +kernel
theorem d_Mod_among_68 : decode b_Mod_among 68 = .ok (.if_icmp .ge 37, 3) := by decide +kernel
theorem d_Mod_among_71 : decode b_Mod_among 71 = .ok (.aload_n 0, 1) := by decide +kernel
theorem d_Mod_among_72 : decode b_Mod_among 72 = .ok (.getfield 13, 3) := by decide +kernel
theorem d_Mod_among_75 : decode b_Mod_among 75 = .ok (.iload_n 1, 1) := by decide +kernel
theorem d_Mod_among_76 : decode b_Mod_among 76 = .ok (.iload 8, 2) := by decide +kernel
theorem d_Mod_among_78 : decode b_Mod_among 78 = .ok (.iadd, 1) := by decide +kernel
theorem d_Mod_among_79 : decode b_Mod_among 79 = .ok (.iload 4, 2) := by decide +kernel
theorem d_Mod_among_81 : decode b_Mod_among 81 = .ok (.isub, 1) := by decide +kernel
theorem d_Mod_among_82 : decode b_Mod_among 82 = .ok (.iaload, 1) := by decide +kernel
theorem d_Mod_among_83 : decode b_Mod_among 83 = .ok (.aload_n 3, 1) := by decide +kernel
theorem d_Mod_among_84 : decode b_Mod_among 84 = .ok (.iload 8, 2) := by decide +kernel
theorem d_Mod_among_86 : decode b_Mod_among 86 = .ok (.invokevirtual 108, 3) := by decide +kernel
theorem d_Mod_among_89 : decode b_Mod_among 89 = .ok (.if_icmp .ne 7, 3) := by decide +kernel
theorem d_Mod_among_92 : decode b_Mod_among 92 = .ok (.iconst 1, 1) := by decide +kernel
theorem d_Mod_among_93 : decode b_Mod_among 93 = .ok (.goto 4, 3) := by decide +kernel
theorem d_Mod_among_96 : decode b_Mod_among 96 = .ok (.iconst 0, 1) := by decide +kernel
theorem d_Mod_among_97 : decode b_Mod_among 97 = .ok (.istore 7, 2) := by decide +kernel
theorem d_Mod_among_99 : decode b_Mod_among 99 = .ok (.iinc 8 1, 3) := by decide +kernel
theorem d_Mod_among_102 : decode b_Mod_among 102 = .ok (.goto (-43), 3) := by decide +kernel
theorem d_Mod_among_105 : decode b_Mod_among 105 = .ok (.iload 7, 2) := by decide +kernel
theorem d_Mod_among_107 : decode b_Mod_among 107 = .ok (.ifCond .eq 6, 3) := by decide +kernel
theorem d_Mod_among_110 : decode b_Mod_among 110 = .ok (.iload 5, 2) := by decide +kernel
theorem d_Mod_among_112 : decode b_Mod_among 112 = .ok (.ireturn, 1) := by decide +kernel
theorem d_Mod_among_113 : decode b_Mod_among 113 = .ok (.iload 6, 2) := by decide +kernel
theorem d_Mod_among_115 : decode b_Mod_among 115 = .ok (.iconst 1, 1) := by decide +kernel
theorem d_Mod_among_116 : decode b_Mod_among 116 = .ok (.iadd, 1) := by decide +kernel
theorem d_Mod_among_117 : decode b_Mod_among 117 = .ok (.istore 4, 2) := by decide +kernel
theorem d_Mod_among_119 : decode b_Mod_among 119 = .ok (.iinc 5 1, 3) := by decide +kernel
theorem d_Mod_among_122 : decode b_Mod_among 122 = .ok (.iinc 6 1, 3) := by decide +kernel
theorem d_Mod_among_125 : decode b_Mod_among 125 = .ok (.goto (-116), 3) := by decide +kernel
theorem d_Mod_among_128 : decode b_Mod_among 128 = .ok (.iconst (-1), 1) := by decide +kernel
theorem d_Mod_among_129 : decode b_Mod_among 129 = .ok (.ireturn, 1) := by decide +kernel
theorem d_Mod_at_0 : decode b_Mod_at 0 = .ok (.iload_n 1, 1) := by decide +kernel
theorem d_Mod_at_1 : decode b_Mod_at 1 = .ok (.aload_n 0, 1) := by decide +kernel
theorem d_Mod_at_2 : decode b_Mod_at 2 = .ok (.getfield 88, 3) := by decide +kernel
theorem d_Mod_at_5 : decode b_Mod_at 5 = .ok (.if_icmp .ge 23, 3) := by decide +kernel
theorem d_Mod_at_8 : decode b_Mod_at 8 = .ok (.aload_n 0, 1) := by decide +kernel
theorem d_Mod_at_9 : decode b_Mod_at 9 = .ok (.getfield 13, 3) := by decide +kernel
theorem d_Mod_at_12 : decode b_Mod_at 12 = .ok (.iload_n 1, 1) := by decide +kernel
theorem d_Mod_at_13 : decode b_Mod_at 13 = .ok (.iaload, 1) := by decide +kernel
theorem d_Mod_at_14 : decode b_Mod_at 14 = .ok (.bipush 10, 2) := by decide +kernel
theorem d_Mod_at_16 : decode b_Mod_at 16 = .ok (.if_icmp .eq 12, 3) := by decide +kernel
theorem d_Mod_at_19 : decode b_Mod_at 19 = .ok (.aload_n 0, 1) := by decide +kernel
theorem d_Mod_at_20 : decode b_Mod_at 20 = .ok (.getfield 13, 3) := by decide +kernel
theorem d_Mod_at_23 : decode b_Mod_at 23 = .ok (.iload_n 1, 1) := by decide +kernel
theorem d_Mod_at_24 : decode b_Mod_at 24 = .ok (.iaload, 1) := by decide +kernel
theorem d_Mod_at_25 : decode b_Mod_at 25 = .ok (.goto 4, 3) := by decide +kernel
theorem d_Mod_at_28 : decode b_Mod_at 28 = .ok (.iconst (-1), 1) := by decide +kernel
theorem d_Mod_at_29 : decode b_Mod_at 29 = .ok (.ireturn, 1) := by decide +kernel
theorem d_Mod_blanks_0 : decode b_Mod_blanks 0 = .ok (.iload_n 1, 1) := by decide +kernel
theorem d_Mod_blanks_1 : decode b_Mod_blanks 1 = .ok (.istore_n 2, 1) := by decide +kernel
theorem d_Mod_blanks_2 : decode b_Mod_blanks 2 = .ok (.aload_n 0, 1) := by decide +kernel
theorem d_Mod_blanks_3 : decode b_Mod_blanks 3 = .ok (.iload_n 2, 1) := by decide +kernel
theorem d_Mod_blanks_4 : decode b_Mod_blanks 4 = .ok (.invokevirtual 91, 3) := by decide +kernel
theorem d_Mod_blanks_7 : decode b_Mod_blanks 7 = .ok (.bipush 32, 2) := by decide +kernel
theorem d_Mod_blanks_9 : decode b_Mod_blanks 9 = .ok (.if_icmp .ne 9, 3) := by decide +kernel
theorem d_Mod_blanks_12 : decode b_Mod_blanks 12 = .ok (.iinc 2 1, 3) := by decide +kernel
theorem d_Mod_blanks_15 : decode b_Mod_blanks 15 = .ok (.goto (-13), 3) := by decide +kernel
theorem d_Mod_blanks_18 : decode b_Mod_blanks 18 = .ok (.iload_n 2, 1) := by decide +kernel
theorem d_Mod_blanks_19 : decode b_Mod_blanks 19 = .ok (.ireturn, 1) := by decide +kernel
theorem d_Mod_hex_0 : decode b_Mod_hex 0 = .ok (.iload_n 0, 1) := by decide +kernel
theorem d_Mod_hex_1 : decode b_Mod_hex 1 = .ok (.invokestatic 95, 3) := by decide +kernel
theorem d_Mod_hex_4 : decode b_Mod_hex 4 = .ok (.ifCond .eq 10, 3) := by decide +kernel
theorem d_Mod_hex_7 : decode b_Mod_hex 7 = .ok (.iload_n 0, 1) := by decide +kernel
theorem d_Mod_hex_8 : decode b_Mod_hex 8 = .ok (.bipush 48, 2) := by decide +kernel
theorem d_Mod_hex_10 : decode b_Mod_hex 10 = .ok (.isub, 1) := by decide +kernel
theorem d_Mod_hex_11 : decode b_Mod_hex 11 = .ok (.goto 48, 3) := by decide +kernel
theorem d_Mod_hex_14 : decode b_Mod_hex 14 = .ok (.iload_n 0, 1) := by decide +kernel
theorem d_Mod_hex_15 : decode b_Mod_hex 15 = .ok (.bipush 97, 2) := by decide +kernel
theorem d_Mod_hex_17 : decode b_Mod_hex 17 = .ok (.if_icmp .lt 19, 3) := by decide +kernel
theorem d_Mod_hex_20 : decode b_Mod_hex 20 = .ok (.iload_n 0, 1) := by decide +kernel
theorem d_Mod_hex_21 : decode b_Mod_hex 21 = .ok (.bipush 102, 2) := by decide +kernel
theorem d_Mod_hex_23 : decode b_Mod_hex 23 = .ok (.if_icmp .gt 13, 3) := by decide +kernel
theorem d_Mod_hex_26 : decode b_Mod_hex 26 = .ok (.iload_n 0, 1) := by decide +kernel
theorem d_Mod_hex_27 : decode b_Mod_hex 27 = .ok (.bipush 97, 2) := by decide +kernel
theorem d_Mod_hex_29 : decode b_Mod_hex 29 = .ok (.isub, 1) := by decide +kernel
theorem d_Mod_hex_30 : decode b_Mod_hex 30 = .ok (.bipush 10, 2) := by decide +kernel
theorem d_Mod_hex_32 : decode b_Mod_hex 32 = .ok (.iadd, 1) := by decide +kernel
theorem d_Mod_hex_33 : decode b_Mod_hex 33 = .ok (.goto 26, 3) := by decide +kernel
theorem d_Mod_hex_36 : decode b_Mod_hex 36 = .ok (.iload_n 0, 1) := by decide +kernel
theorem d_Mod_hex_37 : decode b_Mod_hex 37 = .ok (.bipush 65, 2) := by decide +kernel
theorem d_Mod_hex_39 : decode b_Mod_hex 39 = .ok (.if_icmp .lt 19, 3) := by decide +kernel
theorem d_Mod_hex_42 : decode b_Mod_hex 42 = .ok (.iload_n 0, 1) := by decide +kernel
theorem d_Mod_hex_43 : decode b_Mod_hex 43 = .ok (.bipush 70, 2) := by decide +kernel
theorem d_Mod_hex_45 : decode b_Mod_hex 45 = .ok (.if_icmp .gt 13, 3) := by decide +kernel
theorem d_Mod_hex_48 : decode b_Mod_hex 48 = .ok (.iload_n 0, 1) := by decide +kernel
theorem d_Mod_hex_49 : decode b_Mod_hex 49 = .ok (.bipush 65, 2) := by decide +kernel
theorem d_Mod_hex_51 : decode b_Mod_hex 51 = .ok (.isub, 1) := by decide +kernel
theorem d_Mod_hex_52 : decode b_Mod_hex 52 = .ok (.bipush 10, 2) := by decide +kernel
theorem d_Mod_hex_54 : decode b_Mod_hex 54 = .ok (.iadd, 1) := by decide +kernel
theorem d_Mod_hex_55 : decode b_Mod_hex 55 = .ok (.goto 4, 3) := by decide +kernel
theorem d_Mod_hex_58 : decode b_Mod_hex 58 = .ok (.iconst (-1), 1) := by decide +kernel
theorem d_Mod_hex_59 : decode b_Mod_hex 59 = .ok (.ireturn, 1) := by decide +kernel
theorem d_Mod_is_0 : decode b_Mod_is 0 = .ok (.iload_n 2, 1) := by decide +kernel
theorem d_Mod_is_1 : decode b_Mod_is 1 = .ok (.iload_n 1, 1) := by decide +kernel
theorem d_Mod_is_2 : decode b_Mod_is 2 = .ok (.isub, 1) := by decide +kernel
theorem d_Mod_is_3 : decode b_Mod_is 3 = .ok (.aload_n 3, 1) := by decide +kernel
theorem d_Mod_is_4 : decode b_Mod_is 4 = .ok (.invokevirtual 102, 3) := by decide +kernel
theorem d_Mod_is_7 : decode b_Mod_is 7 = .ok (.if_icmp .ne 7, 3) := by decide +kernel
theorem d_Mod_is_10 : decode b_Mod_is 10 = .ok (.iconst 1, 1) := by decide +kernel
theorem d_Mod_is_11 : decode b_Mod_is 11 = .ok (.goto 4, 3) := by decide +kernel
theorem d_Mod_is_14 : decode b_Mod_is 14 = .ok (.iconst 0, 1) := by decide +kernel
theorem d_Mod_is_15 : decode b_Mod_is 15 = .ok (.istore 4, 2) := by decide +kernel
theorem d_Mod_is_17 : decode b_Mod_is 17 = .ok (.iconst 0, 1) := by decide +kernel
theorem d_Mod_is_18 : decode b_Mod_is 18 = .ok (.istore 5, 2) := by decide +kernel
theorem d_Mod_is_20 : decode b_Mod_is 20 = .ok (.iload 4, 2) := by decide +kernel
theorem d_Mod_is_22 : decode b_Mod_is 22 = .ok (.ifCond .eq 43, 3) := by decide +kernel
theorem d_Mod_is_25 : decode b_Mod_is 25 = .ok (.iload 5, 2) := by decide +kernel
theorem d_Mod_is_27 : decode b_Mod_is 27 = .ok (.aload_n 3, 1) := by decide +kernel
theorem d_Mod_is_28 : decode b_Mod_is 28 = .ok (.invokevirtual 102, 3) := by decide +kernel
theorem d_Mod_is_31 : decode b_Mod_is 31 = .ok (.if_icmp .ge 34, 3) := by decide +kernel
theorem d_Mod_is_34 : decode b_Mod_is 34 = .ok (.aload_n 0, 1) := by decide +kernel
theorem d_Mod_is_35 : decode b_Mod_is 35 = .ok (.getfield 13, 3) := by decide +kernel
theorem d_Mod_is_38 : decode b_Mod_is 38 = .ok (.iload_n 1, 1) := by decide +kernel
theorem d_Mod_is_39 : decode b_Mod_is 39 = .ok (.iload 5, 2) := by decide +kernel
theorem d_Mod_is_41 : decode b_Mod_is 41 = .ok (.iadd, 1) := by decide +kernel
theorem d_Mod_is_42 : decode b_Mod_is 42 = .ok (.iaload, 1) := by decide +kernel
theorem d_Mod_is_43 : decode b_Mod_is 43 = .ok (.aload_n 3, 1) := by decide +kernel
theorem d_Mod_is_44 : decode b_Mod_is 44 = .ok (.iload 5, 2) := by decide +kernel
theorem d_Mod_is_46 : decode b_Mod_is 46 = .ok (.invokevirtual 108, 3) := by decide +kernel
theorem d_Mod_is_49 : decode b_Mod_is 49 = .ok (.if_icmp .ne 7, 3) := by decide +kernel
theorem d_Mod_is_52 : decode b_Mod_is 52 = .ok (.iconst 1, 1) := by decide +kernel
theorem d_Mod_is_53 : decode b_Mod_is 53 = .ok (.goto 4, 3) := by decide +kernel
theorem d_Mod_is_56 : decode b_Mod_is 56 = .ok (.iconst 0, 1) := by decide +kernel
theorem d_Mod_is_57 : decode b_Mod_is 57 = .ok (.istore 4, 2) := by decide +kernel
theorem d_Mod_is_59 : decode b_Mod_is 59 = .ok (.iinc 5 1, 3) := by decide +kernel
theorem d_Mod_is_62 : decode b_Mod_is 62 = .ok (.goto (-42), 3) := by decide +kernel
theorem d_Mod_is_65 : decode b_Mod_is 65 = .ok (.iload 4, 2) := by decide +kernel
theorem d_Mod_is_67 : decode b_Mod_is 67 = .ok (.ireturn, 1) := by decide +kernel
theorem d_Mod_isDigit_0 : decode b_Mod_isDigit 0 = .ok (.iload_n 0, 1) := by decide +kernel
theorem d_Mod_isDigit_1 : decode b_Mod_isDigit 1 = .ok (.bipush 48, 2) := by decide +kernel
theorem d_Mod_isDigit_3 : decode b_Mod_isDigit 3 = .ok (.if_icmp .lt 13, 3) := by decide +kernel
theorem d_Mod_isDigit_6 : decode b_Mod_isDigit 6 = .ok (.iload_n 0, 1) := by decide +kernel
theorem d_Mod_isDigit_7 : decode b_Mod_isDigit 7 = .ok (.bipush 57, 2) := by decide +kernel
theorem d_Mod_isDigit_9 : decode b_Mod_isDigit 9 = .ok (.if_icmp .gt 7, 3) := by decide +kernel
theorem d_Mod_isDigit_12 : decode b_Mod_isDigit 12 = .ok (.iconst 1, 1) := by decide +kernel
theorem d_Mod_isDigit_13 : decode b_Mod_isDigit 13 = .ok (.goto 4, 3) := by decide +kernel
theorem d_Mod_isDigit_16 : decode b_Mod_isDigit 16 = .ok (.iconst 0, 1) := by decide +kernel
theorem d_Mod_isDigit_17 : decode b_Mod_isDigit 17 = .ok (.ireturn, 1) := by decide +kernel
theorem d_Mod_isLetter_0 : decode b_Mod_isLetter 0 = .ok (.iload_n 0, 1) := by decide +kernel
theorem d_Mod_isLetter_1 : decode b_Mod_isLetter 1 = .ok (.bipush 97, 2) := by decide +kernel
theorem d_Mod_isLetter_3 : decode b_Mod_isLetter 3 = .ok (.if_icmp .lt 9, 3) := by decide +kernel
theorem d_Mod_isLetter_6 : decode b_Mod_isLetter 6 = .ok (.iload_n 0, 1) := by decide +kernel
theorem d_Mod_isLetter_7 : decode b_Mod_isLetter 7 = .ok (.bipush 122, 2) := by decide +kernel
theorem d_Mod_isLetter_9 : decode b_Mod_isLetter 9 = .ok (.if_icmp .le 15, 3) := by decide +kernel
theorem d_Mod_isLetter_12 : decode b_Mod_isLetter 12 = .ok (.iload_n 0, 1) := by decide +kernel
theorem d_Mod_isLetter_13 : decode b_Mod_isLetter 13 = .ok (.bipush 65, 2) := by decide +kernel
theorem d_Mod_isLetter_15 : decode b_Mod_isLetter 15 = .ok (.if_icmp .lt 13, 3) := by decide +kernel
theorem d_Mod_isLetter_18 : decode b_Mod_isLetter 18 = .ok (.iload_n 0, 1) := by decide +kernel
theorem d_Mod_isLetter_19 : decode b_Mod_isLetter 19 = .ok (.bipush 90, 2) := by decide +kernel
theorem d_Mod_isLetter_21 : decode b_Mod_isLetter 21 = .ok (.if_icmp .gt 7, 3) := by decide +kernel
theorem d_Mod_isLetter_24 : decode b_Mod_isLetter 24 = .ok (.iconst 1, 1) := by decide +kernel
theorem d_Mod_isLetter_25 : decode b_Mod_isLetter 25 = .ok (.goto 4, 3) := by decide +kernel
theorem d_Mod_isLetter_28 : decode b_Mod_isLetter 28 = .ok (.iconst 0, 1) := by decide +kernel
theorem d_Mod_isLetter_29 : decode b_Mod_isLetter 29 = .ok (.ireturn, 1) := by decide +kernel
theorem d_Mod_labelNamed_0 : decode b_Mod_labelNamed 0 = .ok (.iconst 0, 1) := by decide +kernel
theorem d_Mod_labelNamed_1 : decode b_Mod_labelNamed 1 = .ok (.istore_n 3, 1) := by decide +kernel
theorem d_Mod_labelNamed_2 : decode b_Mod_labelNamed 2 = .ok (.iload_n 3, 1) := by decide +kernel
theorem d_Mod_labelNamed_3 : decode b_Mod_labelNamed 3 = .ok (.aload_n 0, 1) := by decide +kernel
theorem d_Mod_labelNamed_4 : decode b_Mod_labelNamed 4 = .ok (.getfield 133, 3) := by decide +kernel
theorem d_Mod_labelNamed_7 : decode b_Mod_labelNamed 7 = .ok (.if_icmp .ge 90, 3) := by decide +kernel
theorem d_Mod_labelNamed_10 : decode b_Mod_labelNamed 10 = .ok (.aload_n 0, 1) := by decide +kernel
theorem d_Mod_labelNamed_11 : decode b_Mod_labelNamed 11 = .ok (.getfield 23, 3) := by decide +kernel
theorem d_Mod_labelNamed_14 : decode b_Mod_labelNamed 14 = .ok (.iload_n 3, 1) := by decide +kernel
theorem d_Mod_labelNamed_15 : decode b_Mod_labelNamed 15 = .ok (.iaload, 1) := by decide +kernel
theorem d_Mod_labelNamed_16 : decode b_Mod_labelNamed 16 = .ok (.iload_n 2, 1) := by decide +kernel
theorem d_Mod_labelNamed_17 : decode b_Mod_labelNamed 17 = .ok (.iload_n 1, 1) := by decide +kernel
theorem d_Mod_labelNamed_18 : decode b_Mod_labelNamed 18 = .ok (.isub, 1) := by decide +kernel
theorem d_Mod_labelNamed_19 : decode b_Mod_labelNamed 19 = .ok (.if_icmp .ne 7, 3) := by decide +kernel
theorem d_Mod_labelNamed_22 : decode b_Mod_labelNamed 22 = .ok (.iconst 1, 1) := by decide +kernel
theorem d_Mod_labelNamed_23 : decode b_Mod_labelNamed 23 = .ok (.goto 4, 3) := by decide +kernel
theorem d_Mod_labelNamed_26 : decode b_Mod_labelNamed 26 = .ok (.iconst 0, 1) := by decide +kernel
theorem d_Mod_labelNamed_27 : decode b_Mod_labelNamed 27 = .ok (.istore 4, 2) := by decide +kernel
theorem d_Mod_labelNamed_29 : decode b_Mod_labelNamed 29 = .ok (.iconst 0, 1) := by decide +kernel
theorem d_Mod_labelNamed_30 : decode b_Mod_labelNamed 30 = .ok (.istore 5, 2) := by decide +kernel
theorem d_Mod_labelNamed_32 : decode b_Mod_labelNamed 32 = .ok (.iload 4, 2) := by decide +kernel
theorem d_Mod_labelNamed_34 : decode b_Mod_labelNamed 34 = .ok (.ifCond .eq 50, 3) := by decide +kernel
theorem d_Mod_labelNamed_37 : decode b_Mod_labelNamed 37 = .ok (.iload 5, 2) := by decide +kernel
theorem d_Mod_labelNamed_39 : decode b_Mod_labelNamed 39 = .ok (.iload_n 2, 1) := by decide +kernel
theorem d_Mod_labelNamed_40 : decode b_Mod_labelNamed 40 = .ok (.iload_n 1, 1) := by decide +kernel
theorem d_Mod_labelNamed_41 : decode b_Mod_labelNamed 41 = .ok (.isub, 1) := by decide +kernel
theorem d_Mod_labelNamed_42 : decode b_Mod_labelNamed 42 = .ok (.if_icmp .ge 42, 3) := by decide +kernel
theorem d_Mod_labelNamed_45 : decode b_Mod_labelNamed 45 = .ok (.aload_n 0, 1) := by decide +kernel
theorem d_Mod_labelNamed_46 : decode b_Mod_labelNamed 46 = .ok (.getfield 13, 3) := by decide +kernel
theorem d_Mod_labelNamed_49 : decode b_Mod_labelNamed 49 = .ok (.aload_n 0, 1) := by decide +kernel
theorem d_Mod_labelNamed_50 : decode b_Mod_labelNamed 50 = .ok (.getfield 20, 3) := by decide +kernel
theorem d_Mod_labelNamed_53 : decode b_Mod_labelNamed 53 = .ok (.iload_n 3, 1) := by decide +kernel
theorem d_Mod_labelNamed_54 : decode b_Mod_labelNamed 54 = .ok (.iaload, 1) := by decide +kernel
theorem d_Mod_labelNamed_55 : decode b_Mod_labelNamed 55 = .ok (.iload 5, 2) := by decide +kernel
theorem d_Mod_labelNamed_57 : decode b_Mod_labelNamed 57 = .ok (.iadd, 1) := by decide +kernel
theorem d_Mod_labelNamed_58 : decode b_Mod_labelNamed 58 = .ok (.iaload, 1) := by decide +kernel
theorem d_Mod_labelNamed_59 : decode b_Mod_labelNamed 59 = .ok (.aload_n 0, 1) := by decide +kernel
theorem d_Mod_labelNamed_60 : decode b_Mod_labelNamed 60 = .ok (.getfield 13, 3) := by decide +kernel
theorem d_Mod_labelNamed_63 : decode b_Mod_labelNamed 63 = .ok (.iload_n 1, 1) := by decide +kernel
theorem d_Mod_labelNamed_64 : decode b_Mod_labelNamed 64 = .ok (.iload 5, 2) := by decide +kernel
theorem d_Mod_labelNamed_66 : decode b_Mod_labelNamed 66 = .ok (.iadd, 1) := by decide +kernel
