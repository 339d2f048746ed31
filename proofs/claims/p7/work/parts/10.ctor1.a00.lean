abbrev b_Lab_init : ByteArray := prog_4_method_1_code
abbrev b_Mac_init : ByteArray := prog_6_method_1_code
abbrev b_Mem_init : ByteArray := prog_7_method_1_code
abbrev b_Opd_init : ByteArray := prog_8_method_1_code
abbrev b_Reg_init : ByteArray := prog_10_method_1_code
abbrev b_Sum_init : ByteArray := prog_12_method_1_code
abbrev y_Lab_init : MethodName := ⟨"LittleMix$Labels", "<init>", "([C)V"⟩
abbrev y_Mac_init : MethodName := ⟨"LittleMix$Machine", "<init>", "(LLittleMix$Memory;LLittleMix$Registers;)V"⟩
abbrev y_Mem_init : MethodName := ⟨"LittleMix$Memory", "<init>", "()V"⟩
abbrev y_Opd_init : MethodName := ⟨"LittleMix$Operands", "<init>", "()V"⟩
abbrev y_Reg_init : MethodName := ⟨"LittleMix$Registers", "<init>", "()V"⟩
abbrev y_Sum_init : MethodName := ⟨"LittleMix$Sum", "<init>", "([CLLittleMix$Labels;)V"⟩
theorem k_28 : (Jvm.Cond.instanceMethod ({ cls := "java/lang/Object", name := "<init>", desc := "()V" } : Jvm.MethodName)) ∈ mx_T := List.mem_filter.mpr ⟨List.mem_append_right _ ((List.mem_append_left _ (List.mem_of_getElem? (l := tables_1_1) (i := 28) (by decide +kernel)))), rfl⟩
theorem k_29 : (Jvm.Cond.code ({ cls := "java/lang/Object", name := "<init>", desc := "()V" } : Jvm.MethodName) object_method_1_code (1 : Nat) (Option.none : Option Jvm.ClassFile.FieldType)) ∈ mx_T := List.mem_filter.mpr ⟨List.mem_append_right _ ((List.mem_append_left _ (List.mem_of_getElem? (l := tables_1_1) (i := 29) rfl))), rfl⟩
theorem k_35 : (Jvm.Cond.methodLink "LittleMix$Memory" (1 : Nat) ({ cls := "java/lang/Object", name := "<init>", desc := "()V" } : Jvm.MethodName)) ∈ mx_T := List.mem_filter.mpr ⟨List.mem_append_right _ ((List.mem_append_left _ (List.mem_of_getElem? (l := tables_1_1) (i := 35) (by decide +kernel)))), rfl⟩
theorem k_36 : (Jvm.Cond.fieldLink "LittleMix$Memory" (9 : Nat) "LittleMix$Memory" "octas" "[J") ∈ mx_T := List.mem_filter.mpr ⟨List.mem_append_right _ ((List.mem_append_left _ (List.mem_of_getElem? (l := tables_1_1) (i := 36) (by decide +kernel)))), rfl⟩
theorem k_41 : (Jvm.Cond.arrayClass Jvm.ClassFile.FieldType.long) ∈ mx_T := List.mem_filter.mpr ⟨List.mem_append_right _ ((List.mem_append_left _ (List.mem_of_getElem? (l := tables_1_1) (i := 41) (by decide +kernel)))), rfl⟩
theorem k_47 : (Jvm.Cond.methodLink "LittleMix$Registers" (1 : Nat) ({ cls := "java/lang/Object", name := "<init>", desc := "()V" } : Jvm.MethodName)) ∈ mx_T := List.mem_filter.mpr ⟨List.mem_append_right _ ((List.mem_append_left _ (List.mem_of_getElem? (l := tables_1_1) (i := 47) (by decide +kernel)))), rfl⟩
theorem k_48 : (Jvm.Cond.fieldLink "LittleMix$Registers" (9 : Nat) "LittleMix$Registers" "general" "[J") ∈ mx_T := List.mem_filter.mpr ⟨List.mem_append_right _ ((List.mem_append_left _ (List.mem_of_getElem? (l := tables_1_1) (i := 48) (by decide +kernel)))), rfl⟩
theorem k_49 : (Jvm.Cond.fieldLink "LittleMix$Registers" (15 : Nat) "LittleMix$Registers" "specials" "[J") ∈ mx_T := List.mem_filter.mpr ⟨List.mem_append_right _ ((List.mem_append_left _ (List.mem_of_getElem? (l := tables_1_1) (i := 49) (by decide +kernel)))), rfl⟩
theorem k_50 : (Jvm.Cond.fieldLink "LittleMix$Registers" (18 : Nat) "LittleMix$Registers" "stack" "[J") ∈ mx_T := List.mem_filter.mpr ⟨List.mem_append_right _ ((List.mem_append_left _ (List.mem_of_getElem? (l := tables_1_1) (i := 50) (by decide +kernel)))), rfl⟩
theorem k_54 : (Jvm.Cond.fieldLink "LittleMix$Registers" (21 : Nat) "LittleMix$Registers" "global" "I") ∈ mx_T := List.mem_filter.mpr ⟨List.mem_append_right _ ((List.mem_append_left _ (List.mem_of_getElem? (l := tables_1_1) (i := 54) (by decide +kernel)))), rfl⟩
theorem k_79 : (Jvm.Cond.methodLink "LittleMix$Operands" (1 : Nat) ({ cls := "java/lang/Object", name := "<init>", desc := "()V" } : Jvm.MethodName)) ∈ mx_T := List.mem_filter.mpr ⟨List.mem_append_right _ ((List.mem_append_left _ (List.mem_of_getElem? (l := tables_1_1) (i := 79) (by decide +kernel)))), rfl⟩
theorem k_80 : (Jvm.Cond.fieldLink "LittleMix$Operands" (9 : Nat) "LittleMix$Operands" "values" "[J") ∈ mx_T := List.mem_filter.mpr ⟨List.mem_append_right _ ((List.mem_append_left _ (List.mem_of_getElem? (l := tables_1_1) (i := 80) (by decide +kernel)))), rfl⟩
theorem k_82 : (Jvm.Cond.fieldLink "LittleMix$Operands" (13 : Nat) "LittleMix$Operands" "registers" "[Z") ∈ mx_T := List.mem_filter.mpr ⟨List.mem_append_right _ ((List.mem_append_left _ (List.mem_of_getElem? (l := tables_1_1) (i := 82) (by decide +kernel)))), rfl⟩
theorem k_105 : (Jvm.Cond.arrayClass Jvm.ClassFile.FieldType.boolean) ∈ mx_T := List.mem_filter.mpr ⟨List.mem_append_right _ ((List.mem_append_left _ (List.mem_of_getElem? (l := tables_1_1) (i := 105) (by decide +kernel)))), rfl⟩
theorem k_113 : (Jvm.Cond.methodLink "LittleMix$Labels" (3 : Nat) ({ cls := "java/lang/Object", name := "<init>", desc := "()V" } : Jvm.MethodName)) ∈ mx_T := List.mem_filter.mpr ⟨List.mem_append_right _ ((List.mem_append_left _ (List.mem_of_getElem? (l := tables_1_1) (i := 113) (by decide +kernel)))), rfl⟩
theorem k_114 : (Jvm.Cond.fieldLink "LittleMix$Labels" (26 : Nat) "LittleMix$Labels" "text" "[C") ∈ mx_T := List.mem_filter.mpr ⟨List.mem_append_right _ ((List.mem_append_left _ (List.mem_of_getElem? (l := tables_1_1) (i := 114) (by decide +kernel)))), rfl⟩
theorem k_115 : (Jvm.Cond.fieldLink "LittleMix$Labels" (11 : Nat) "LittleMix$Labels" "starts" "[I") ∈ mx_T := List.mem_filter.mpr ⟨List.mem_append_right _ ((List.mem_append_left _ (List.mem_of_getElem? (l := tables_1_1) (i := 115) (by decide +kernel)))), rfl⟩
theorem k_116 : (Jvm.Cond.fieldLink "LittleMix$Labels" (15 : Nat) "LittleMix$Labels" "sizes" "[I") ∈ mx_T := List.mem_filter.mpr ⟨List.mem_append_right _ ((List.mem_append_left _ (List.mem_of_getElem? (l := tables_1_1) (i := 116) (by decide +kernel)))), rfl⟩
theorem k_117 : (Jvm.Cond.fieldLink "LittleMix$Labels" (18 : Nat) "LittleMix$Labels" "values" "[J") ∈ mx_T := List.mem_filter.mpr ⟨List.mem_append_right _ ((List.mem_append_left _ (List.mem_of_getElem? (l := tables_1_1) (i := 117) (by decide +kernel)))), rfl⟩
theorem k_118 : (Jvm.Cond.fieldLink "LittleMix$Labels" (22 : Nat) "LittleMix$Labels" "registers" "[Z") ∈ mx_T := List.mem_filter.mpr ⟨List.mem_append_right _ ((List.mem_append_left _ (List.mem_of_getElem? (l := tables_1_1) (i := 118) (by decide +kernel)))), rfl⟩
theorem k_133 : (Jvm.Cond.arrayClass Jvm.ClassFile.FieldType.int) ∈ mx_T := List.mem_filter.mpr ⟨List.mem_append_right _ ((List.mem_append_left _ (List.mem_of_getElem? (l := tables_1_1) (i := 133) (by decide +kernel)))), rfl⟩
theorem k_249 : (Jvm.Cond.methodLink "LittleMix$Sum" (3 : Nat) ({ cls := "java/lang/Object", name := "<init>", desc := "()V" } : Jvm.MethodName)) ∈ mx_T := List.mem_filter.mpr ⟨List.mem_append_right _ ((List.mem_append_right _ (List.mem_append_left _ (List.mem_of_getElem? (l := tables_1_2) (i := 9) (by decide +kernel))))), rfl⟩
theorem k_250 : (Jvm.Cond.fieldLink "LittleMix$Sum" (9 : Nat) "LittleMix$Sum" "text" "[C") ∈ mx_T := List.mem_filter.mpr ⟨List.mem_append_right _ ((List.mem_append_right _ (List.mem_append_left _ (List.mem_of_getElem? (l := tables_1_2) (i := 10) (by decide +kernel))))), rfl⟩
theorem k_251 : (Jvm.Cond.fieldLink "LittleMix$Sum" (15 : Nat) "LittleMix$Sum" "labels" "LLittleMix$Labels;") ∈ mx_T := List.mem_filter.mpr ⟨List.mem_append_right _ ((List.mem_append_right _ (List.mem_append_left _ (List.mem_of_getElem? (l := tables_1_2) (i := 11) (by decide +kernel))))), rfl⟩
theorem k_326 : (Jvm.Cond.methodLink "LittleMix$Machine" (1 : Nat) ({ cls := "java/lang/Object", name := "<init>", desc := "()V" } : Jvm.MethodName)) ∈ mx_T := List.mem_filter.mpr ⟨List.mem_append_right _ ((List.mem_append_right _ (List.mem_append_left _ (List.mem_of_getElem? (l := tables_1_2) (i := 86) (by decide +kernel))))), rfl⟩
theorem k_327 : (Jvm.Cond.constantLong "LittleMix$Machine" (17 : Nat) (256 : Int64)) ∈ mx_T := List.mem_filter.mpr ⟨List.mem_append_right _ ((List.mem_append_right _ (List.mem_append_left _ (List.mem_of_getElem? (l := tables_1_2) (i := 87) (by decide +kernel))))), rfl⟩
theorem k_328 : (Jvm.Cond.fieldLink "LittleMix$Machine" (7 : Nat) "LittleMix$Machine" "memory" "LLittleMix$Memory;") ∈ mx_T := List.mem_filter.mpr ⟨List.mem_append_right _ ((List.mem_append_right _ (List.mem_append_left _ (List.mem_of_getElem? (l := tables_1_2) (i := 88) (by decide +kernel))))), rfl⟩
theorem k_329 : (Jvm.Cond.fieldLink "LittleMix$Machine" (13 : Nat) "LittleMix$Machine" "registers" "LLittleMix$Registers;") ∈ mx_T := List.mem_filter.mpr ⟨List.mem_append_right _ ((List.mem_append_right _ (List.mem_append_left _ (List.mem_of_getElem? (l := tables_1_2) (i := 89) (by decide +kernel))))), rfl⟩
theorem k_330 : (Jvm.Cond.fieldLink "LittleMix$Machine" (19 : Nat) "LittleMix$Machine" "at" "J") ∈ mx_T := List.mem_filter.mpr ⟨List.mem_append_right _ ((List.mem_append_right _ (List.mem_append_left _ (List.mem_of_getElem? (l := tables_1_2) (i := 90) (by decide +kernel))))), rfl⟩
theorem d_Lab_init_0 : decode b_Lab_init 0 = .ok (.aload_n 0, 1) := by decide +kernel
theorem d_Lab_init_1 : decode b_Lab_init 1 = .ok (.invokespecial 3, 3) := by decide +kernel
theorem d_Lab_init_4 : decode b_Lab_init 4 = .ok (.aload_n 0, 1) := by decide +kernel
theorem d_Lab_init_5 : decode b_Lab_init 5 = .ok (.bipush 40, 2) := by decide +kernel
theorem d_Lab_init_7 : decode b_Lab_init 7 = .ok (.newarray .int, 2) := by decide +kernel
theorem d_Lab_init_9 : decode b_Lab_init 9 = .ok (.putfield 11, 3) := by decide +kernel
theorem d_Lab_init_12 : decode b_Lab_init 12 = .ok (.aload_n 0, 1) := by decide +kernel
theorem d_Lab_init_13 : decode b_Lab_init 13 = .ok (.bipush 40, 2) := by decide +kernel
theorem d_Lab_init_15 : decode b_Lab_init 15 = .ok (.newarray .int, 2) := by decide +kernel
theorem d_Lab_init_17 : decode b_Lab_init 17 = .ok (.putfield 15, 3) := by decide +kernel
theorem d_Lab_init_20 : decode b_Lab_init 20 = .ok (.aload_n 0, 1) := by decide +kernel
theorem d_Lab_init_21 : decode b_Lab_init 21 = .ok (.bipush 40, 2) := by decide +kernel
theorem d_Lab_init_23 : decode b_Lab_init 23 = .ok (.newarray .long, 2) := by decide +kernel
theorem d_Lab_init_25 : decode b_Lab_init 25 = .ok (.putfield 18, 3) := by decide +kernel
theorem d_Lab_init_28 : decode b_Lab_init 28 = .ok (.aload_n 0, 1) := by decide +kernel
theorem d_Lab_init_29 : decode b_Lab_init 29 = .ok (.bipush 40, 2) := by decide +kernel
theorem d_Lab_init_31 : decode b_Lab_init 31 = .ok (.newarray .boolean, 2) := by decide +kernel
theorem d_Lab_init_33 : decode b_Lab_init 33 = .ok (.putfield 22, 3) := by decide +kernel
theorem d_Lab_init_36 : decode b_Lab_init 36 = .ok (.aload_n 0, 1) := by decide +kernel
theorem d_Lab_init_37 : decode b_Lab_init 37 = .ok (.aload_n 1, 1) := by decide +kernel
theorem d_Lab_init_38 : decode b_Lab_init 38 = .ok (.putfield 26, 3) := by decide +kernel
theorem d_Lab_init_41 : decode b_Lab_init 41 = .ok (.return_, 1) := by decide +kernel
theorem d_Mac_init_0 : decode b_Mac_init 0 = .ok (.aload_n 0, 1) := by decide +kernel
theorem d_Mac_init_1 : decode b_Mac_init 1 = .ok (.invokespecial 1, 3) := by decide +kernel
theorem d_Mac_init_4 : decode b_Mac_init 4 = .ok (.aload_n 0, 1) := by decide +kernel
theorem d_Mac_init_5 : decode b_Mac_init 5 = .ok (.aload_n 1, 1) := by decide +kernel
theorem d_Mac_init_6 : decode b_Mac_init 6 = .ok (.putfield 7, 3) := by decide +kernel
theorem d_Mac_init_9 : decode b_Mac_init 9 = .ok (.aload_n 0, 1) := by decide +kernel
theorem d_Mac_init_10 : decode b_Mac_init 10 = .ok (.aload_n 2, 1) := by decide +kernel
theorem d_Mac_init_11 : decode b_Mac_init 11 = .ok (.putfield 13, 3) := by decide +kernel
theorem d_Mac_init_14 : decode b_Mac_init 14 = .ok (.aload_n 0, 1) := by decide +kernel
theorem d_Mac_init_15 : decode b_Mac_init 15 = .ok (.ldc2_w 17, 3) := by decide +kernel
theorem d_Mac_init_18 : decode b_Mac_init 18 = .ok (.putfield 19, 3) := by decide +kernel
theorem d_Mac_init_21 : decode b_Mac_init 21 = .ok (.return_, 1) := by decide +kernel
theorem d_Mem_init_0 : decode b_Mem_init 0 = .ok (.aload_n 0, 1) := by decide +kernel
theorem d_Mem_init_1 : decode b_Mem_init 1 = .ok (.invokespecial 1, 3) := by decide +kernel
theorem d_Mem_init_4 : decode b_Mem_init 4 = .ok (.aload_n 0, 1) := by decide +kernel
theorem d_Mem_init_5 : decode b_Mem_init 5 = .ok (.sipush 512, 3) := by decide +kernel
theorem d_Mem_init_8 : decode b_Mem_init 8 = .ok (.newarray .long, 2) := by decide +kernel
theorem d_Mem_init_10 : decode b_Mem_init 10 = .ok (.putfield 9, 3) := by decide +kernel
theorem d_Mem_init_13 : decode b_Mem_init 13 = .ok (.return_, 1) := by decide +kernel
theorem d_Opd_init_0 : decode b_Opd_init 0 = .ok (.aload_n 0, 1) := by decide +kernel
theorem d_Opd_init_1 : decode b_Opd_init 1 = .ok (.invokespecial 1, 3) := by decide +kernel
theorem d_Opd_init_4 : decode b_Opd_init 4 = .ok (.aload_n 0, 1) := by decide +kernel
theorem d_Opd_init_5 : decode b_Opd_init 5 = .ok (.iconst 3, 1) := by decide +kernel
theorem d_Opd_init_6 : decode b_Opd_init 6 = .ok (.newarray .long, 2) := by decide +kernel
theorem d_Opd_init_8 : decode b_Opd_init 8 = .ok (.putfield 9, 3) := by decide +kernel
theorem d_Opd_init_11 : decode b_Opd_init 11 = .ok (.aload_n 0, 1) := by decide +kernel
theorem d_Opd_init_12 : decode b_Opd_init 12 = .ok (.iconst 3, 1) := by decide +kernel
theorem d_Opd_init_13 : decode b_Opd_init 13 = .ok (.newarray .boolean, 2) := by decide +kernel
theorem d_Opd_init_15 : decode b_Opd_init 15 = .ok (.putfield 13, 3) := by decide +kernel
theorem d_Opd_init_18 : decode b_Opd_init 18 = .ok (.return_, 1) := by decide +kernel
theorem d_Reg_init_0 : decode b_Reg_init 0 = .ok (.aload_n 0, 1) := by decide +kernel
theorem d_Reg_init_1 : decode b_Reg_init 1 = .ok (.invokespecial 1, 3) := by decide +kernel
theorem d_Reg_init_4 : decode b_Reg_init 4 = .ok (.aload_n 0, 1) := by decide +kernel
theorem d_Reg_init_5 : decode b_Reg_init 5 = .ok (.sipush 256, 3) := by decide +kernel
theorem d_Reg_init_8 : decode b_Reg_init 8 = .ok (.newarray .long, 2) := by decide +kernel
theorem d_Reg_init_10 : decode b_Reg_init 10 = .ok (.putfield 9, 3) := by decide +kernel
theorem d_Reg_init_13 : decode b_Reg_init 13 = .ok (.aload_n 0, 1) := by decide +kernel
theorem d_Reg_init_14 : decode b_Reg_init 14 = .ok (.bipush 28, 2) := by decide +kernel
theorem d_Reg_init_16 : decode b_Reg_init 16 = .ok (.newarray .long, 2) := by decide +kernel
theorem d_Reg_init_18 : decode b_Reg_init 18 = .ok (.putfield 15, 3) := by decide +kernel
theorem d_Reg_init_21 : decode b_Reg_init 21 = .ok (.aload_n 0, 1) := by decide +kernel
theorem d_Reg_init_22 : decode b_Reg_init 22 = .ok (.sipush 300, 3) := by decide +kernel
theorem d_Reg_init_25 : decode b_Reg_init 25 = .ok (.newarray .long, 2) := by decide +kernel
theorem d_Reg_init_27 : decode b_Reg_init 27 = .ok (.putfield 18, 3) := by decide +kernel
theorem d_Reg_init_30 : decode b_Reg_init 30 = .ok (.aload_n 0, 1) := by decide +kernel
theorem d_Reg_init_31 : decode b_Reg_init 31 = .ok (.sipush 255, 3) := by decide +kernel
theorem d_Reg_init_34 : decode b_Reg_init 34 = .ok (.putfield 21, 3) := by decide +kernel
theorem d_Reg_init_37 : decode b_Reg_init 37 = .ok (.return_, 1) := by decide +kernel
theorem d_Sum_init_0 : decode b_Sum_init 0 = .ok (.aload_n 0, 1) := by decide +kernel
theorem d_Sum_init_1 : decode b_Sum_init 1 = .ok (.invokespecial 3, 3) := by decide +kernel
theorem d_Sum_init_4 : decode b_Sum_init 4 = .ok (.aload_n 0, 1) := by decide +kernel
theorem d_Sum_init_5 : decode b_Sum_init 5 = .ok (.aload_n 1, 1) := by decide +kernel
theorem d_Sum_init_6 : decode b_Sum_init 6 = .ok (.putfield 9, 3) := by decide +kernel
theorem d_Sum_init_9 : decode b_Sum_init 9 = .ok (.aload_n 0, 1) := by decide +kernel
theorem d_Sum_init_10 : decode b_Sum_init 10 = .ok (.aload_n 2, 1) := by decide +kernel
theorem d_Sum_init_11 : decode b_Sum_init 11 = .ok (.putfield 15, 3) := by decide +kernel
theorem d_Sum_init_14 : decode b_Sum_init 14 = .ok (.return_, 1) := by decide +kernel
