abbrev b_Mac_divided : ByteArray := prog_6_method_11_code
abbrev b_Mac_dividedWithoutSigns : ByteArray := prog_6_method_12_code
abbrev b_Mac_overflowIf : ByteArray := prog_6_method_9_code
abbrev b_Mac_placeFromHere : ByteArray := prog_6_method_16_code
abbrev b_Mac_subtracted : ByteArray := prog_6_method_14_code
abbrev b_Mac_target : ByteArray := prog_6_method_17_code
abbrev b_Mac_withSign : ByteArray := prog_6_method_21_code
abbrev y_Mac_divided : MethodName := ⟨"LittleMix$Machine", "divided", "()J"⟩
abbrev y_Mac_dividedWithoutSigns : MethodName := ⟨"LittleMix$Machine", "dividedWithoutSigns", "()J"⟩
abbrev y_Mac_overflowIf : MethodName := ⟨"LittleMix$Machine", "overflowIf", "(Z)V"⟩
abbrev y_Mac_placeFromHere : MethodName := ⟨"LittleMix$Machine", "placeFromHere", "(II)J"⟩
abbrev y_Mac_subtracted : MethodName := ⟨"LittleMix$Machine", "subtracted", "()J"⟩
abbrev y_Mac_target : MethodName := ⟨"LittleMix$Machine", "target", "()J"⟩
abbrev y_Mac_withSign : MethodName := ⟨"LittleMix$Machine", "withSign", "(JI)J"⟩
theorem p_LittleMix_Arithmetic_quotient : y_LittleMix_Arithmetic_quotient.cls ≠ "java/lang/invoke/MethodHandle" ∧ y_LittleMix_Arithmetic_quotient.cls ≠ "java/lang/invoke/VarHandle" ∧ (parseMethodDescriptor y_LittleMix_Arithmetic_quotient.desc).map (fun d => d.parameters.length) = some 3 := by decide +kernel
theorem p_Mac_overflowIf : y_Mac_overflowIf.cls ≠ "java/lang/invoke/MethodHandle" ∧ y_Mac_overflowIf.cls ≠ "java/lang/invoke/VarHandle" ∧ (parseMethodDescriptor y_Mac_overflowIf.desc).map (fun d => d.parameters.length) = some 1 := by decide +kernel
theorem p_Mac_placeFromHere : y_Mac_placeFromHere.cls ≠ "java/lang/invoke/MethodHandle" ∧ y_Mac_placeFromHere.cls ≠ "java/lang/invoke/VarHandle" ∧ (parseMethodDescriptor y_Mac_placeFromHere.desc).map (fun d => d.parameters.length) = some 2 := by decide +kernel
theorem p_Reg_get : y_Reg_get.cls ≠ "java/lang/invoke/MethodHandle" ∧ y_Reg_get.cls ≠ "java/lang/invoke/VarHandle" ∧ (parseMethodDescriptor y_Reg_get.desc).map (fun d => d.parameters.length) = some 1 := by decide +kernel
theorem p_Math_floorDiv : y_Math_floorDiv.cls ≠ "java/lang/invoke/MethodHandle" ∧ y_Math_floorDiv.cls ≠ "java/lang/invoke/VarHandle" ∧ (parseMethodDescriptor y_Math_floorDiv.desc).map (fun d => d.parameters.length) = some 2 := by decide +kernel
theorem p_Math_floorMod : y_Math_floorMod.cls ≠ "java/lang/invoke/MethodHandle" ∧ y_Math_floorMod.cls ≠ "java/lang/invoke/VarHandle" ∧ (parseMethodDescriptor y_Math_floorMod.desc).map (fun d => d.parameters.length) = some 2 := by decide +kernel
theorem k_338 : (Jvm.Cond.fieldLink "LittleMix$Machine" (70 : Nat) "LittleMix$Machine" "word" "I") ∈ mx_T := List.mem_filter.mpr ⟨List.mem_append_right _ ((List.mem_append_right _ (List.mem_append_left _ (List.mem_of_getElem? (l := tables_1_2) (i := 98) (by decide +kernel))))), rfl⟩
theorem k_339 : (Jvm.Cond.fieldLink "LittleMix$Machine" (73 : Nat) "LittleMix$Machine" "op" "I") ∈ mx_T := List.mem_filter.mpr ⟨List.mem_append_right _ ((List.mem_append_right _ (List.mem_append_left _ (List.mem_of_getElem? (l := tables_1_2) (i := 99) (by decide +kernel))))), rfl⟩
theorem k_343 : (Jvm.Cond.fieldLink "LittleMix$Machine" (89 : Nat) "LittleMix$Machine" "left" "J") ∈ mx_T := List.mem_filter.mpr ⟨List.mem_append_right _ ((List.mem_append_right _ (List.mem_append_left _ (List.mem_of_getElem? (l := tables_1_2) (i := 103) (by decide +kernel))))), rfl⟩
theorem k_344 : (Jvm.Cond.fieldLink "LittleMix$Machine" (92 : Nat) "LittleMix$Machine" "right" "J") ∈ mx_T := List.mem_filter.mpr ⟨List.mem_append_right _ ((List.mem_append_right _ (List.mem_append_left _ (List.mem_of_getElem? (l := tables_1_2) (i := 104) (by decide +kernel))))), rfl⟩
theorem k_347 : (Jvm.Cond.fieldLink "LittleMix$Machine" (54 : Nat) "LittleMix$Machine" "event" "I") ∈ mx_T := List.mem_filter.mpr ⟨List.mem_append_right _ ((List.mem_append_right _ (List.mem_append_left _ (List.mem_of_getElem? (l := tables_1_2) (i := 107) (by decide +kernel))))), rfl⟩
theorem k_763 : (Jvm.Cond.constantLong "LittleMix$Machine" (95 : Nat) (4 : Int64)) ∈ mx_T := List.mem_filter.mpr ⟨List.mem_append_right _ ((List.mem_append_right _ (List.mem_append_right _ (List.mem_append_right _ (List.mem_append_left _ (List.mem_of_getElem? (l := tables_1_4) (i := 43) (by decide +kernel))))))), rfl⟩
theorem k_781 : (Jvm.Cond.methodLink "LittleMix$Machine" (154 : Nat) ({ cls := "LittleMix$Machine", name := "overflowIf", desc := "(Z)V" } : Jvm.MethodName)) ∈ mx_T := List.mem_filter.mpr ⟨List.mem_append_right _ ((List.mem_append_right _ (List.mem_append_right _ (List.mem_append_right _ (List.mem_append_left _ (List.mem_of_getElem? (l := tables_1_4) (i := 61) (by decide +kernel))))))), rfl⟩
theorem k_783 : (Jvm.Cond.instanceMethod ({ cls := "LittleMix$Machine", name := "overflowIf", desc := "(Z)V" } : Jvm.MethodName)) ∈ mx_T := List.mem_filter.mpr ⟨List.mem_append_right _ ((List.mem_append_right _ (List.mem_append_right _ (List.mem_append_right _ (List.mem_append_left _ (List.mem_of_getElem? (l := tables_1_4) (i := 63) (by decide +kernel))))))), rfl⟩
theorem k_784 : (Jvm.Cond.code ({ cls := "LittleMix$Machine", name := "overflowIf", desc := "(Z)V" } : Jvm.MethodName) prog_6_method_9_code (2 : Nat) (Option.none : Option Jvm.ClassFile.FieldType)) ∈ mx_T := List.mem_filter.mpr ⟨List.mem_append_right _ ((List.mem_append_right _ (List.mem_append_right _ (List.mem_append_right _ (List.mem_append_left _ (List.mem_of_getElem? (l := tables_1_4) (i := 64) rfl)))))), rfl⟩
theorem k_792 : (Jvm.Cond.methodLink "LittleMix$Machine" (198 : Nat) ({ cls := "LittleMix$Machine", name := "placeFromHere", desc := "(II)J" } : Jvm.MethodName)) ∈ mx_T := List.mem_filter.mpr ⟨List.mem_append_right _ ((List.mem_append_right _ (List.mem_append_right _ (List.mem_append_right _ (List.mem_append_left _ (List.mem_of_getElem? (l := tables_1_4) (i := 72) (by decide +kernel))))))), rfl⟩
theorem k_794 : (Jvm.Cond.instanceMethod ({ cls := "LittleMix$Machine", name := "placeFromHere", desc := "(II)J" } : Jvm.MethodName)) ∈ mx_T := List.mem_filter.mpr ⟨List.mem_append_right _ ((List.mem_append_right _ (List.mem_append_right _ (List.mem_append_right _ (List.mem_append_left _ (List.mem_of_getElem? (l := tables_1_4) (i := 74) (by decide +kernel))))))), rfl⟩
theorem k_795 : (Jvm.Cond.code ({ cls := "LittleMix$Machine", name := "placeFromHere", desc := "(II)J" } : Jvm.MethodName) prog_6_method_16_code (3 : Nat) (Option.some Jvm.ClassFile.FieldType.long)) ∈ mx_T := List.mem_filter.mpr ⟨List.mem_append_right _ ((List.mem_append_right _ (List.mem_append_right _ (List.mem_append_right _ (List.mem_append_left _ (List.mem_of_getElem? (l := tables_1_4) (i := 75) rfl)))))), rfl⟩
theorem k_806 : (Jvm.Cond.methodLink "LittleMix$Machine" (102 : Nat) ({ cls := "LittleMix$Registers", name := "set", desc := "(IJ)V" } : Jvm.MethodName)) ∈ mx_T := List.mem_filter.mpr ⟨List.mem_append_right _ ((List.mem_append_right _ (List.mem_append_right _ (List.mem_append_right _ (List.mem_append_left _ (List.mem_of_getElem? (l := tables_1_4) (i := 86) (by decide +kernel))))))), rfl⟩
theorem k_814 : (Jvm.Cond.constant "LittleMix$Machine" (196 : Nat) (65535 : Int32)) ∈ mx_T := List.mem_filter.mpr ⟨List.mem_append_right _ ((List.mem_append_right _ (List.mem_append_right _ (List.mem_append_right _ (List.mem_append_left _ (List.mem_of_getElem? (l := tables_1_4) (i := 94) (by decide +kernel))))))), rfl⟩
theorem k_815 : (Jvm.Cond.constant "LittleMix$Machine" (197 : Nat) (65536 : Int32)) ∈ mx_T := List.mem_filter.mpr ⟨List.mem_append_right _ ((List.mem_append_right _ (List.mem_append_right _ (List.mem_append_right _ (List.mem_append_left _ (List.mem_of_getElem? (l := tables_1_4) (i := 95) (by decide +kernel))))))), rfl⟩
theorem k_838 : (Jvm.Cond.methodLink "LittleMix$Machine" (99 : Nat) ({ cls := "LittleMix$Registers", name := "get", desc := "(I)J" } : Jvm.MethodName)) ∈ mx_T := List.mem_filter.mpr ⟨List.mem_append_right _ ((List.mem_append_right _ (List.mem_append_right _ (List.mem_append_right _ (List.mem_append_left _ (List.mem_of_getElem? (l := tables_1_4) (i := 118) (by decide +kernel))))))), rfl⟩
theorem k_839 : (Jvm.Cond.instanceMethod ({ cls := "LittleMix$Registers", name := "get", desc := "(I)J" } : Jvm.MethodName)) ∈ mx_T := List.mem_filter.mpr ⟨List.mem_append_right _ ((List.mem_append_right _ (List.mem_append_right _ (List.mem_append_right _ (List.mem_append_left _ (List.mem_of_getElem? (l := tables_1_4) (i := 119) (by decide +kernel))))))), rfl⟩
theorem k_840 : (Jvm.Cond.selects "LittleMix$Registers" ({ cls := "LittleMix$Registers", name := "get", desc := "(I)J" } : Jvm.MethodName) ({ cls := "LittleMix$Registers", name := "get", desc := "(I)J" } : Jvm.MethodName)) ∈ mx_T := List.mem_filter.mpr ⟨List.mem_append_right _ ((List.mem_append_right _ (List.mem_append_right _ (List.mem_append_right _ (List.mem_append_left _ (List.mem_of_getElem? (l := tables_1_4) (i := 120) (by decide +kernel))))))), rfl⟩
theorem k_841 : (Jvm.Cond.code ({ cls := "LittleMix$Registers", name := "get", desc := "(I)J" } : Jvm.MethodName) prog_10_method_6_code (2 : Nat) (Option.some Jvm.ClassFile.FieldType.long)) ∈ mx_T := List.mem_filter.mpr ⟨List.mem_append_right _ ((List.mem_append_right _ (List.mem_append_right _ (List.mem_append_right _ (List.mem_append_left _ (List.mem_of_getElem? (l := tables_1_4) (i := 121) rfl)))))), rfl⟩
theorem k_851 : (Jvm.Cond.constantLong "LittleMix$Machine" (117 : Nat) (-9223372036854775808 : Int64)) ∈ mx_T := List.mem_filter.mpr ⟨List.mem_append_right _ ((List.mem_append_right _ (List.mem_append_right _ (List.mem_append_right _ (List.mem_append_left _ (List.mem_of_getElem? (l := tables_1_4) (i := 131) (by decide +kernel))))))), rfl⟩
theorem k_868 : (Jvm.Cond.constantLong "LittleMix$Machine" (168 : Nat) (-1 : Int64)) ∈ mx_T := List.mem_filter.mpr ⟨List.mem_append_right _ ((List.mem_append_right _ (List.mem_append_right _ (List.mem_append_right _ (List.mem_append_left _ (List.mem_of_getElem? (l := tables_1_4) (i := 148) (by decide +kernel))))))), rfl⟩
theorem k_869 : (Jvm.Cond.methodLink "LittleMix$Machine" (170 : Nat) ({ cls := "java/lang/Math", name := "floorMod", desc := "(JJ)J" } : Jvm.MethodName)) ∈ mx_T := List.mem_filter.mpr ⟨List.mem_append_right _ ((List.mem_append_right _ (List.mem_append_right _ (List.mem_append_right _ (List.mem_append_left _ (List.mem_of_getElem? (l := tables_1_4) (i := 149) (by decide +kernel))))))), rfl⟩
theorem k_870 : (Jvm.Cond.static ({ cls := "java/lang/Math", name := "floorMod", desc := "(JJ)J" } : Jvm.MethodName)) ∈ mx_T := List.mem_filter.mpr ⟨List.mem_append_right _ ((List.mem_append_right _ (List.mem_append_right _ (List.mem_append_right _ (List.mem_append_left _ (List.mem_of_getElem? (l := tables_1_4) (i := 150) (by decide +kernel))))))), rfl⟩
theorem k_871 : (Jvm.Cond.code ({ cls := "java/lang/Math", name := "floorMod", desc := "(JJ)J" } : Jvm.MethodName) prog_17_method_52_code (6 : Nat) (Option.some Jvm.ClassFile.FieldType.long)) ∈ mx_T := List.mem_filter.mpr ⟨List.mem_append_right _ ((List.mem_append_right _ (List.mem_append_right _ (List.mem_append_right _ (List.mem_append_left _ (List.mem_of_getElem? (l := tables_1_4) (i := 151) rfl)))))), rfl⟩
theorem k_872 : (Jvm.Cond.methodLink "LittleMix$Machine" (175 : Nat) ({ cls := "java/lang/Math", name := "floorDiv", desc := "(JJ)J" } : Jvm.MethodName)) ∈ mx_T := List.mem_filter.mpr ⟨List.mem_append_right _ ((List.mem_append_right _ (List.mem_append_right _ (List.mem_append_right _ (List.mem_append_left _ (List.mem_of_getElem? (l := tables_1_4) (i := 152) (by decide +kernel))))))), rfl⟩
theorem k_873 : (Jvm.Cond.static ({ cls := "java/lang/Math", name := "floorDiv", desc := "(JJ)J" } : Jvm.MethodName)) ∈ mx_T := List.mem_filter.mpr ⟨List.mem_append_right _ ((List.mem_append_right _ (List.mem_append_right _ (List.mem_append_right _ (List.mem_append_left _ (List.mem_of_getElem? (l := tables_1_4) (i := 153) (by decide +kernel))))))), rfl⟩
theorem k_874 : (Jvm.Cond.code ({ cls := "java/lang/Math", name := "floorDiv", desc := "(JJ)J" } : Jvm.MethodName) prog_17_method_49_code (6 : Nat) (Option.some Jvm.ClassFile.FieldType.long)) ∈ mx_T := List.mem_filter.mpr ⟨List.mem_append_right _ ((List.mem_append_right _ (List.mem_append_right _ (List.mem_append_right _ (List.mem_append_left _ (List.mem_of_getElem? (l := tables_1_4) (i := 154) rfl)))))), rfl⟩
theorem k_879 : (Jvm.Cond.methodLink "LittleMix$Machine" (178 : Nat) ({ cls := "LittleMix$Arithmetic", name := "below", desc := "(JJ)Z" } : Jvm.MethodName)) ∈ mx_T := List.mem_filter.mpr ⟨List.mem_append_right _ ((List.mem_append_right _ (List.mem_append_right _ (List.mem_append_right _ (List.mem_append_left _ (List.mem_of_getElem? (l := tables_1_4) (i := 159) (by decide +kernel))))))), rfl⟩
theorem k_883 : (Jvm.Cond.methodLink "LittleMix$Machine" (181 : Nat) ({ cls := "LittleMix$Arithmetic", name := "quotient", desc := "(JJJ)J" } : Jvm.MethodName)) ∈ mx_T := List.mem_filter.mpr ⟨List.mem_append_right _ ((List.mem_append_right _ (List.mem_append_right _ (List.mem_append_right _ (List.mem_append_left _ (List.mem_of_getElem? (l := tables_1_4) (i := 163) (by decide +kernel))))))), rfl⟩
theorem k_884 : (Jvm.Cond.static ({ cls := "LittleMix$Arithmetic", name := "quotient", desc := "(JJJ)J" } : Jvm.MethodName)) ∈ mx_T := List.mem_filter.mpr ⟨List.mem_append_right _ ((List.mem_append_right _ (List.mem_append_right _ (List.mem_append_right _ (List.mem_append_left _ (List.mem_of_getElem? (l := tables_1_4) (i := 164) (by decide +kernel))))))), rfl⟩
theorem k_885 : (Jvm.Cond.code ({ cls := "LittleMix$Arithmetic", name := "quotient", desc := "(JJJ)J" } : Jvm.MethodName) prog_2_method_5_code (12 : Nat) (Option.some Jvm.ClassFile.FieldType.long)) ∈ mx_T := List.mem_filter.mpr ⟨List.mem_append_right _ ((List.mem_append_right _ (List.mem_append_right _ (List.mem_append_right _ (List.mem_append_left _ (List.mem_of_getElem? (l := tables_1_4) (i := 165) rfl)))))), rfl⟩
theorem sl_Mac_placeFromHere : Cond.selects y_Mac_placeFromHere.cls y_Mac_placeFromHere y_Mac_placeFromHere ∈ mx_T := List.mem_filter.mpr ⟨List.mem_append_left _ (by decide +kernel), by decide +kernel⟩
theorem sl_Mac_overflowIf : Cond.selects y_Mac_overflowIf.cls y_Mac_overflowIf y_Mac_overflowIf ∈ mx_T := List.mem_filter.mpr ⟨List.mem_append_left _ (by decide +kernel), by decide +kernel⟩
theorem d_Mac_divided_0 : decode b_Mac_divided 0 = .ok (.aload_n 0, 1) := by decide +kernel
theorem d_Mac_divided_1 : decode b_Mac_divided 1 = .ok (.getfield 92, 3) := by decide +kernel
theorem d_Mac_divided_4 : decode b_Mac_divided 4 = .ok (.lconst 0, 1) := by decide +kernel
theorem d_Mac_divided_5 : decode b_Mac_divided 5 = .ok (.lcmp, 1) := by decide +kernel
theorem d_Mac_divided_6 : decode b_Mac_divided 6 = .ok (.ifCond .ne 25, 3) := by decide +kernel
theorem d_Mac_divided_9 : decode b_Mac_divided 9 = .ok (.aload_n 0, 1) := by decide +kernel
theorem d_Mac_divided_10 : decode b_Mac_divided 10 = .ok (.sipush 128, 3) := by decide +kernel
theorem d_Mac_divided_13 : decode b_Mac_divided 13 = .ok (.putfield 54, 3) := by decide +kernel
theorem d_Mac_divided_16 : decode b_Mac_divided 16 = .ok (.aload_n 0, 1) := by decide +kernel
theorem d_Mac_divided_17 : decode b_Mac_divided 17 = .ok (.getfield 13, 3) := by decide +kernel
theorem d_Mac_divided_20 : decode b_Mac_divided 20 = .ok (.bipush 6, 2) := by decide +kernel
theorem d_Mac_divided_22 : decode b_Mac_divided 22 = .ok (.aload_n 0, 1) := by decide +kernel
theorem d_Mac_divided_23 : decode b_Mac_divided 23 = .ok (.getfield 89, 3) := by decide +kernel
theorem d_Mac_divided_26 : decode b_Mac_divided 26 = .ok (.invokevirtual 102, 3) := by decide +kernel
theorem d_Mac_divided_29 : decode b_Mac_divided 29 = .ok (.lconst 0, 1) := by decide +kernel
theorem d_Mac_divided_30 : decode b_Mac_divided 30 = .ok (.lreturn, 1) := by decide +kernel
theorem d_Mac_divided_31 : decode b_Mac_divided 31 = .ok (.aload_n 0, 1) := by decide +kernel
theorem d_Mac_divided_32 : decode b_Mac_divided 32 = .ok (.getfield 92, 3) := by decide +kernel
theorem d_Mac_divided_35 : decode b_Mac_divided 35 = .ok (.ldc2_w 168, 3) := by decide +kernel
theorem d_Mac_divided_38 : decode b_Mac_divided 38 = .ok (.lcmp, 1) := by decide +kernel
theorem d_Mac_divided_39 : decode b_Mac_divided 39 = .ok (.ifCond .ne 39, 3) := by decide +kernel
theorem d_Mac_divided_42 : decode b_Mac_divided 42 = .ok (.aload_n 0, 1) := by decide +kernel
theorem d_Mac_divided_43 : decode b_Mac_divided 43 = .ok (.aload_n 0, 1) := by decide +kernel
theorem d_Mac_divided_44 : decode b_Mac_divided 44 = .ok (.getfield 89, 3) := by decide +kernel
theorem d_Mac_divided_47 : decode b_Mac_divided 47 = .ok (.ldc2_w 117, 3) := by decide +kernel
theorem d_Mac_divided_50 : decode b_Mac_divided 50 = .ok (.lcmp, 1) := by decide +kernel
theorem d_Mac_divided_51 : decode b_Mac_divided 51 = .ok (.ifCond .ne 7, 3) := by decide +kernel
theorem d_Mac_divided_54 : decode b_Mac_divided 54 = .ok (.iconst 1, 1) := by decide +kernel
theorem d_Mac_divided_55 : decode b_Mac_divided 55 = .ok (.goto 4, 3) := by decide +kernel
theorem d_Mac_divided_58 : decode b_Mac_divided 58 = .ok (.iconst 0, 1) := by decide +kernel
theorem d_Mac_divided_59 : decode b_Mac_divided 59 = .ok (.invokevirtual 154, 3) := by decide +kernel
theorem d_Mac_divided_62 : decode b_Mac_divided 62 = .ok (.aload_n 0, 1) := by decide +kernel
theorem d_Mac_divided_63 : decode b_Mac_divided 63 = .ok (.getfield 13, 3) := by decide +kernel
theorem d_Mac_divided_66 : decode b_Mac_divided 66 = .ok (.bipush 6, 2) := by decide +kernel
theorem d_Mac_divided_68 : decode b_Mac_divided 68 = .ok (.lconst 0, 1) := by decide +kernel
theorem d_Mac_divided_69 : decode b_Mac_divided 69 = .ok (.invokevirtual 102, 3) := by decide +kernel
theorem d_Mac_divided_72 : decode b_Mac_divided 72 = .ok (.aload_n 0, 1) := by decide +kernel
theorem d_Mac_divided_73 : decode b_Mac_divided 73 = .ok (.getfield 89, 3) := by decide +kernel
theorem d_Mac_divided_76 : decode b_Mac_divided 76 = .ok (.lneg, 1) := by decide +kernel
theorem d_Mac_divided_77 : decode b_Mac_divided 77 = .ok (.lreturn, 1) := by decide +kernel
theorem d_Mac_divided_78 : decode b_Mac_divided 78 = .ok (.aload_n 0, 1) := by decide +kernel
theorem d_Mac_divided_79 : decode b_Mac_divided 79 = .ok (.getfield 13, 3) := by decide +kernel
theorem d_Mac_divided_82 : decode b_Mac_divided 82 = .ok (.bipush 6, 2) := by decide +kernel
theorem d_Mac_divided_84 : decode b_Mac_divided 84 = .ok (.aload_n 0, 1) := by decide +kernel
theorem d_Mac_divided_85 : decode b_Mac_divided 85 = .ok (.getfield 89, 3) := by decide +kernel
theorem d_Mac_divided_88 : decode b_Mac_divided 88 = .ok (.aload_n 0, 1) := by decide +kernel
theorem d_Mac_divided_89 : decode b_Mac_divided 89 = .ok (.getfield 92, 3) := by decide +kernel
theorem d_Mac_divided_92 : decode b_Mac_divided 92 = .ok (.invokestatic 170, 3) := by decide +kernel
theorem d_Mac_divided_95 : decode b_Mac_divided 95 = .ok (.invokevirtual 102, 3) := by decide +kernel
theorem d_Mac_divided_98 : decode b_Mac_divided 98 = .ok (.aload_n 0, 1) := by decide +kernel
theorem d_Mac_divided_99 : decode b_Mac_divided 99 = .ok (.getfield 89, 3) := by decide +kernel
theorem d_Mac_divided_102 : decode b_Mac_divided 102 = .ok (.aload_n 0, 1) := by decide +kernel
theorem d_Mac_divided_103 : decode b_Mac_divided 103 = .ok (.getfield 92, 3) := by decide +kernel
theorem d_Mac_divided_106 : decode b_Mac_divided 106 = .ok (.invokestatic 175, 3) := by decide +kernel
theorem d_Mac_divided_109 : decode b_Mac_divided 109 = .ok (.lreturn, 1) := by decide +kernel
theorem d_Mac_dividedWithoutSigns_0 : decode b_Mac_dividedWithoutSigns 0 = .ok (.aload_n 0, 1) := by decide +kernel
theorem d_Mac_dividedWithoutSigns_1 : decode b_Mac_dividedWithoutSigns 1 = .ok (.getfield 13, 3) := by decide +kernel
theorem d_Mac_dividedWithoutSigns_4 : decode b_Mac_dividedWithoutSigns 4 = .ok (.iconst 1, 1) := by decide +kernel
theorem d_Mac_dividedWithoutSigns_5 : decode b_Mac_dividedWithoutSigns 5 = .ok (.invokevirtual 99, 3) := by decide +kernel
theorem d_Mac_dividedWithoutSigns_8 : decode b_Mac_dividedWithoutSigns 8 = .ok (.lstore_n 1, 1) := by decide +kernel
theorem d_Mac_dividedWithoutSigns_9 : decode b_Mac_dividedWithoutSigns 9 = .ok (.lload_n 1, 1) := by decide +kernel
theorem d_Mac_dividedWithoutSigns_10 : decode b_Mac_dividedWithoutSigns 10 = .ok (.aload_n 0, 1) := by decide +kernel
theorem d_Mac_dividedWithoutSigns_11 : decode b_Mac_dividedWithoutSigns 11 = .ok (.getfield 92, 3) := by decide +kernel
theorem d_Mac_dividedWithoutSigns_14 : decode b_Mac_dividedWithoutSigns 14 = .ok (.invokestatic 178, 3) := by decide +kernel
theorem d_Mac_dividedWithoutSigns_17 : decode b_Mac_dividedWithoutSigns 17 = .ok (.ifCond .ne 18, 3) := by decide +kernel
theorem d_Mac_dividedWithoutSigns_20 : decode b_Mac_dividedWithoutSigns 20 = .ok (.aload_n 0, 1) := by decide +kernel
theorem d_Mac_dividedWithoutSigns_21 : decode b_Mac_dividedWithoutSigns 21 = .ok (.getfield 13, 3) := by decide +kernel
theorem d_Mac_dividedWithoutSigns_24 : decode b_Mac_dividedWithoutSigns 24 = .ok (.bipush 6, 2) := by decide +kernel
theorem d_Mac_dividedWithoutSigns_26 : decode b_Mac_dividedWithoutSigns 26 = .ok (.aload_n 0, 1) := by decide +kernel
theorem d_Mac_dividedWithoutSigns_27 : decode b_Mac_dividedWithoutSigns 27 = .ok (.getfield 89, 3) := by decide +kernel
theorem d_Mac_dividedWithoutSigns_30 : decode b_Mac_dividedWithoutSigns 30 = .ok (.invokevirtual 102, 3) := by decide +kernel
theorem d_Mac_dividedWithoutSigns_33 : decode b_Mac_dividedWithoutSigns 33 = .ok (.lload_n 1, 1) := by decide +kernel
theorem d_Mac_dividedWithoutSigns_34 : decode b_Mac_dividedWithoutSigns 34 = .ok (.lreturn, 1) := by decide +kernel
theorem d_Mac_dividedWithoutSigns_35 : decode b_Mac_dividedWithoutSigns 35 = .ok (.lload_n 1, 1) := by decide +kernel
theorem d_Mac_dividedWithoutSigns_36 : decode b_Mac_dividedWithoutSigns 36 = .ok (.aload_n 0, 1) := by decide +kernel
theorem d_Mac_dividedWithoutSigns_37 : decode b_Mac_dividedWithoutSigns 37 = .ok (.getfield 89, 3) := by decide +kernel
theorem d_Mac_dividedWithoutSigns_40 : decode b_Mac_dividedWithoutSigns 40 = .ok (.aload_n 0, 1) := by decide +kernel
theorem d_Mac_dividedWithoutSigns_41 : decode b_Mac_dividedWithoutSigns 41 = .ok (.getfield 92, 3) := by decide +kernel
theorem d_Mac_dividedWithoutSigns_44 : decode b_Mac_dividedWithoutSigns 44 = .ok (.invokestatic 181, 3) := by decide +kernel
theorem d_Mac_dividedWithoutSigns_47 : decode b_Mac_dividedWithoutSigns 47 = .ok (.lstore_n 3, 1) := by decide +kernel
theorem d_Mac_dividedWithoutSigns_48 : decode b_Mac_dividedWithoutSigns 48 = .ok (.aload_n 0, 1) := by decide +kernel
theorem d_Mac_dividedWithoutSigns_49 : decode b_Mac_dividedWithoutSigns 49 = .ok (.getfield 13, 3) := by decide +kernel
theorem d_Mac_dividedWithoutSigns_52 : decode b_Mac_dividedWithoutSigns 52 = .ok (.bipush 6, 2) := by decide +kernel
theorem d_Mac_dividedWithoutSigns_54 : decode b_Mac_dividedWithoutSigns 54 = .ok (.aload_n 0, 1) := by decide +kernel
theorem d_Mac_dividedWithoutSigns_55 : decode b_Mac_dividedWithoutSigns 55 = .ok (.getfield 89, 3) := by decide +kernel
theorem d_Mac_dividedWithoutSigns_58 : decode b_Mac_dividedWithoutSigns 58 = .ok (.lload_n 3, 1) := by decide +kernel
theorem d_Mac_dividedWithoutSigns_59 : decode b_Mac_dividedWithoutSigns 59 = .ok (.aload_n 0, 1) := by decide +kernel
theorem d_Mac_dividedWithoutSigns_60 : decode b_Mac_dividedWithoutSigns 60 = .ok (.getfield 92, 3) := by decide +kernel
theorem d_Mac_dividedWithoutSigns_63 : decode b_Mac_dividedWithoutSigns 63 = .ok (.lmul, 1) := by decide +kernel
theorem d_Mac_dividedWithoutSigns_64 : decode b_Mac_dividedWithoutSigns 64 = .ok (.lsub, 1) := by decide +kernel
theorem d_Mac_dividedWithoutSigns_65 : decode b_Mac_dividedWithoutSigns 65 = .ok (.invokevirtual 102, 3) := by decide +kernel
theorem d_Mac_dividedWithoutSigns_68 : decode b_Mac_dividedWithoutSigns 68 = .ok (.lload_n 3, 1) := by decide +kernel
theorem d_Mac_dividedWithoutSigns_69 : decode b_Mac_dividedWithoutSigns 69 = .ok (.lreturn, 1) := by decide +kernel
theorem d_Mac_overflowIf_0 : decode b_Mac_overflowIf 0 = .ok (.iload_n 1, 1) := by decide +kernel
theorem d_Mac_overflowIf_1 : decode b_Mac_overflowIf 1 = .ok (.ifCond .eq 9, 3) := by decide +kernel
theorem d_Mac_overflowIf_4 : decode b_Mac_overflowIf 4 = .ok (.aload_n 0, 1) := by decide +kernel
theorem d_Mac_overflowIf_5 : decode b_Mac_overflowIf 5 = .ok (.bipush 64, 2) := by decide +kernel
theorem d_Mac_overflowIf_7 : decode b_Mac_overflowIf 7 = .ok (.putfield 54, 3) := by decide +kernel
theorem d_Mac_overflowIf_10 : decode b_Mac_overflowIf 10 = .ok (.return_, 1) := by decide +kernel
theorem d_Mac_placeFromHere_0 : decode b_Mac_placeFromHere 0 = .ok (.aload_n 0, 1) := by decide +kernel
theorem d_Mac_placeFromHere_1 : decode b_Mac_placeFromHere 1 = .ok (.getfield 19, 3) := by decide +kernel
theorem d_Mac_placeFromHere_4 : decode b_Mac_placeFromHere 4 = .ok (.ldc2_w 95, 3) := by decide +kernel
theorem d_Mac_placeFromHere_7 : decode b_Mac_placeFromHere 7 = .ok (.aload_n 0, 1) := by decide +kernel
theorem d_Mac_placeFromHere_8 : decode b_Mac_placeFromHere 8 = .ok (.getfield 73, 3) := by decide +kernel
theorem d_Mac_placeFromHere_11 : decode b_Mac_placeFromHere 11 = .ok (.iconst 1, 1) := by decide +kernel
theorem d_Mac_placeFromHere_12 : decode b_Mac_placeFromHere 12 = .ok (.iand, 1) := by decide +kernel
theorem d_Mac_placeFromHere_13 : decode b_Mac_placeFromHere 13 = .ok (.ifCond .ne 7, 3) := by decide +kernel
theorem d_Mac_placeFromHere_16 : decode b_Mac_placeFromHere 16 = .ok (.iload_n 1, 1) := by decide +kernel
theorem d_Mac_placeFromHere_17 : decode b_Mac_placeFromHere 17 = .ok (.goto 6, 3) := by decide +kernel
theorem d_Mac_placeFromHere_20 : decode b_Mac_placeFromHere 20 = .ok (.iload_n 1, 1) := by decide +kernel
theorem d_Mac_placeFromHere_21 : decode b_Mac_placeFromHere 21 = .ok (.iload_n 2, 1) := by decide +kernel
theorem d_Mac_placeFromHere_22 : decode b_Mac_placeFromHere 22 = .ok (.isub, 1) := by decide +kernel
theorem d_Mac_placeFromHere_23 : decode b_Mac_placeFromHere 23 = .ok (.i2l, 1) := by decide +kernel
theorem d_Mac_placeFromHere_24 : decode b_Mac_placeFromHere 24 = .ok (.lmul, 1) := by decide +kernel
theorem d_Mac_placeFromHere_25 : decode b_Mac_placeFromHere 25 = .ok (.ladd, 1) := by decide +kernel
theorem d_Mac_placeFromHere_26 : decode b_Mac_placeFromHere 26 = .ok (.lreturn, 1) := by decide +kernel
theorem d_Mac_subtracted_0 : decode b_Mac_subtracted 0 = .ok (.aload_n 0, 1) := by decide +kernel
theorem d_Mac_subtracted_1 : decode b_Mac_subtracted 1 = .ok (.aload_n 0, 1) := by decide +kernel
theorem d_Mac_subtracted_2 : decode b_Mac_subtracted 2 = .ok (.getfield 89, 3) := by decide +kernel
theorem d_Mac_subtracted_5 : decode b_Mac_subtracted 5 = .ok (.aload_n 0, 1) := by decide +kernel
theorem d_Mac_subtracted_6 : decode b_Mac_subtracted 6 = .ok (.getfield 92, 3) := by decide +kernel
theorem d_Mac_subtracted_9 : decode b_Mac_subtracted 9 = .ok (.lxor, 1) := by decide +kernel
theorem d_Mac_subtracted_10 : decode b_Mac_subtracted 10 = .ok (.aload_n 0, 1) := by decide +kernel
theorem d_Mac_subtracted_11 : decode b_Mac_subtracted 11 = .ok (.getfield 89, 3) := by decide +kernel
theorem d_Mac_subtracted_14 : decode b_Mac_subtracted 14 = .ok (.aload_n 0, 1) := by decide +kernel
theorem d_Mac_subtracted_15 : decode b_Mac_subtracted 15 = .ok (.getfield 89, 3) := by decide +kernel
theorem d_Mac_subtracted_18 : decode b_Mac_subtracted 18 = .ok (.aload_n 0, 1) := by decide +kernel
theorem d_Mac_subtracted_19 : decode b_Mac_subtracted 19 = .ok (.getfield 92, 3) := by decide +kernel
theorem d_Mac_subtracted_22 : decode b_Mac_subtracted 22 = .ok (.lsub, 1) := by decide +kernel
theorem d_Mac_subtracted_23 : decode b_Mac_subtracted 23 = .ok (.lxor, 1) := by decide +kernel
theorem d_Mac_subtracted_24 : decode b_Mac_subtracted 24 = .ok (.land, 1) := by decide +kernel
theorem d_Mac_subtracted_25 : decode b_Mac_subtracted 25 = .ok (.lconst 0, 1) := by decide +kernel
theorem d_Mac_subtracted_26 : decode b_Mac_subtracted 26 = .ok (.lcmp, 1) := by decide +kernel
theorem d_Mac_subtracted_27 : decode b_Mac_subtracted 27 = .ok (.ifCond .ge 7, 3) := by decide +kernel
theorem d_Mac_subtracted_30 : decode b_Mac_subtracted 30 = .ok (.iconst 1, 1) := by decide +kernel
theorem d_Mac_subtracted_31 : decode b_Mac_subtracted 31 = .ok (.goto 4, 3) := by decide +kernel
theorem d_Mac_subtracted_34 : decode b_Mac_subtracted 34 = .ok (.iconst 0, 1) := by decide +kernel
theorem d_Mac_subtracted_35 : decode b_Mac_subtracted 35 = .ok (.invokevirtual 154, 3) := by decide +kernel
theorem d_Mac_subtracted_38 : decode b_Mac_subtracted 38 = .ok (.aload_n 0, 1) := by decide +kernel
theorem d_Mac_subtracted_39 : decode b_Mac_subtracted 39 = .ok (.getfield 89, 3) := by decide +kernel
theorem d_Mac_subtracted_42 : decode b_Mac_subtracted 42 = .ok (.aload_n 0, 1) := by decide +kernel
theorem d_Mac_subtracted_43 : decode b_Mac_subtracted 43 = .ok (.getfield 92, 3) := by decide +kernel
theorem d_Mac_subtracted_46 : decode b_Mac_subtracted 46 = .ok (.lsub, 1) := by decide +kernel
theorem d_Mac_subtracted_47 : decode b_Mac_subtracted 47 = .ok (.lreturn, 1) := by decide +kernel
theorem d_Mac_target_0 : decode b_Mac_target 0 = .ok (.aload_n 0, 1) := by decide +kernel
theorem d_Mac_target_1 : decode b_Mac_target 1 = .ok (.aload_n 0, 1) := by decide +kernel
theorem d_Mac_target_2 : decode b_Mac_target 2 = .ok (.getfield 70, 3) := by decide +kernel
theorem d_Mac_target_5 : decode b_Mac_target 5 = .ok (.ldc 196, 2) := by decide +kernel
theorem d_Mac_target_7 : decode b_Mac_target 7 = .ok (.iand, 1) := by decide +kernel
theorem d_Mac_target_8 : decode b_Mac_target 8 = .ok (.ldc 197, 2) := by decide +kernel
theorem d_Mac_target_10 : decode b_Mac_target 10 = .ok (.invokevirtual 198, 3) := by decide +kernel
theorem d_Mac_target_13 : decode b_Mac_target 13 = .ok (.lreturn, 1) := by decide +kernel
theorem d_Mac_withSign_0 : decode b_Mac_withSign 0 = .ok (.bipush 64, 2) := by decide +kernel
theorem d_Mac_withSign_2 : decode b_Mac_withSign 2 = .ok (.bipush 8, 2) := by decide +kernel
theorem d_Mac_withSign_4 : decode b_Mac_withSign 4 = .ok (.iload_n 3, 1) := by decide +kernel
theorem d_Mac_withSign_5 : decode b_Mac_withSign 5 = .ok (.imul, 1) := by decide +kernel
theorem d_Mac_withSign_6 : decode b_Mac_withSign 6 = .ok (.isub, 1) := by decide +kernel
theorem d_Mac_withSign_7 : decode b_Mac_withSign 7 = .ok (.istore 4, 2) := by decide +kernel
theorem d_Mac_withSign_9 : decode b_Mac_withSign 9 = .ok (.aload_n 0, 1) := by decide +kernel
theorem d_Mac_withSign_10 : decode b_Mac_withSign 10 = .ok (.getfield 73, 3) := by decide +kernel
theorem d_Mac_withSign_13 : decode b_Mac_withSign 13 = .ok (.iconst 2, 1) := by decide +kernel
theorem d_Mac_withSign_14 : decode b_Mac_withSign 14 = .ok (.iand, 1) := by decide +kernel
theorem d_Mac_withSign_15 : decode b_Mac_withSign 15 = .ok (.ifCond .ne 13, 3) := by decide +kernel
theorem d_Mac_withSign_18 : decode b_Mac_withSign 18 = .ok (.lload_n 1, 1) := by decide +kernel
theorem d_Mac_withSign_19 : decode b_Mac_withSign 19 = .ok (.iload 4, 2) := by decide +kernel
theorem d_Mac_withSign_21 : decode b_Mac_withSign 21 = .ok (.lshl, 1) := by decide +kernel
theorem d_Mac_withSign_22 : decode b_Mac_withSign 22 = .ok (.iload 4, 2) := by decide +kernel
theorem d_Mac_withSign_24 : decode b_Mac_withSign 24 = .ok (.lshr, 1) := by decide +kernel
theorem d_Mac_withSign_25 : decode b_Mac_withSign 25 = .ok (.goto 4, 3) := by decide +kernel
theorem d_Mac_withSign_28 : decode b_Mac_withSign 28 = .ok (.lload_n 1, 1) := by decide +kernel
theorem d_Mac_withSign_29 : decode b_Mac_withSign 29 = .ok (.lreturn, 1) := by decide +kernel
