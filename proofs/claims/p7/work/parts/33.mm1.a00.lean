abbrev b_Mod_away : ByteArray := prog_14_method_62_code
abbrev b_Mod_divide : ByteArray := prog_14_method_47_code
abbrev b_Mod_events : ByteArray := prog_14_method_48_code
abbrev b_Mod_get : ByteArray := prog_14_method_41_code
abbrev b_Mod_left : ByteArray := prog_14_method_53_code
abbrev b_Mod_multiply : ByteArray := prog_14_method_46_code
abbrev b_Mod_product : ByteArray := prog_14_method_49_code
abbrev b_Mod_quotient : ByteArray := prog_14_method_50_code
abbrev b_Mod_set : ByteArray := prog_14_method_42_code
abbrev b_Mod_sum : ByteArray := prog_14_method_52_code
abbrev b_Mod_unsignedQuotient : ByteArray := prog_14_method_51_code
abbrev y_Mod_away : MethodName := ⟨"LittleMixModel", "away", "(III)J"⟩
abbrev y_Mod_divide : MethodName := ⟨"LittleMixModel", "divide", "(JJJ)J"⟩
abbrev y_Mod_events : MethodName := ⟨"LittleMixModel", "events", "(IJJ)V"⟩
abbrev y_Mod_get : MethodName := ⟨"LittleMixModel", "get", "(I)J"⟩
abbrev y_Mod_left : MethodName := ⟨"LittleMixModel", "left", "(JJZ)J"⟩
abbrev y_Mod_multiply : MethodName := ⟨"LittleMixModel", "multiply", "(JJ)J"⟩
abbrev y_Mod_product : MethodName := ⟨"LittleMixModel", "product", "(JJ)J"⟩
abbrev y_Mod_quotient : MethodName := ⟨"LittleMixModel", "quotient", "(JJ)J"⟩
abbrev y_Mod_set : MethodName := ⟨"LittleMixModel", "set", "(IJ)V"⟩
abbrev y_Mod_sum : MethodName := ⟨"LittleMixModel", "sum", "(JJZ)J"⟩
abbrev y_Mod_unsignedQuotient : MethodName := ⟨"LittleMixModel", "unsignedQuotient", "(JJ)J"⟩
theorem p_Mod_divide : y_Mod_divide.cls ≠ "java/lang/invoke/MethodHandle" ∧ y_Mod_divide.cls ≠ "java/lang/invoke/VarHandle" ∧ (parseMethodDescriptor y_Mod_divide.desc).map (fun d => d.parameters.length) = some 3 := by decide +kernel
theorem p_Mod_events : y_Mod_events.cls ≠ "java/lang/invoke/MethodHandle" ∧ y_Mod_events.cls ≠ "java/lang/invoke/VarHandle" ∧ (parseMethodDescriptor y_Mod_events.desc).map (fun d => d.parameters.length) = some 3 := by decide +kernel
theorem p_Mod_multiply : y_Mod_multiply.cls ≠ "java/lang/invoke/MethodHandle" ∧ y_Mod_multiply.cls ≠ "java/lang/invoke/VarHandle" ∧ (parseMethodDescriptor y_Mod_multiply.desc).map (fun d => d.parameters.length) = some 2 := by decide +kernel
theorem k_1016 : (Jvm.Cond.fieldLink "LittleMixModel" (307 : Nat) "LittleMixModel" "upper" "J") ∈ mx_T := List.mem_filter.mpr ⟨List.mem_append_right _ ((List.mem_append_right _ (List.mem_append_right _ (List.mem_append_right _ (List.mem_append_right _ (List.mem_append_left _ (List.mem_of_getElem? (l := tables_1_5) (i := 56) (by decide +kernel)))))))), rfl⟩
theorem k_1017 : (Jvm.Cond.fieldLink "LittleMixModel" (320 : Nat) "LittleMixModel" "rest" "J") ∈ mx_T := List.mem_filter.mpr ⟨List.mem_append_right _ ((List.mem_append_right _ (List.mem_append_right _ (List.mem_append_right _ (List.mem_append_right _ (List.mem_append_left _ (List.mem_of_getElem? (l := tables_1_5) (i := 57) (by decide +kernel)))))))), rfl⟩
theorem k_1018 : (Jvm.Cond.fieldLink "LittleMixModel" (323 : Nat) "LittleMixModel" "event" "I") ∈ mx_T := List.mem_filter.mpr ⟨List.mem_append_right _ ((List.mem_append_right _ (List.mem_append_right _ (List.mem_append_right _ (List.mem_append_right _ (List.mem_append_left _ (List.mem_of_getElem? (l := tables_1_5) (i := 58) (by decide +kernel)))))))), rfl⟩
theorem k_1019 : (Jvm.Cond.fieldLink "LittleMixModel" (326 : Nat) "LittleMixModel" "eventY" "J") ∈ mx_T := List.mem_filter.mpr ⟨List.mem_append_right _ ((List.mem_append_right _ (List.mem_append_right _ (List.mem_append_right _ (List.mem_append_right _ (List.mem_append_left _ (List.mem_of_getElem? (l := tables_1_5) (i := 59) (by decide +kernel)))))))), rfl⟩
theorem k_1020 : (Jvm.Cond.fieldLink "LittleMixModel" (329 : Nat) "LittleMixModel" "eventZ" "J") ∈ mx_T := List.mem_filter.mpr ⟨List.mem_append_right _ ((List.mem_append_right _ (List.mem_append_right _ (List.mem_append_right _ (List.mem_append_right _ (List.mem_append_left _ (List.mem_of_getElem? (l := tables_1_5) (i := 60) (by decide +kernel)))))))), rfl⟩
theorem k_1245 : (Jvm.Cond.constantLong "LittleMixModel" (271 : Nat) (4 : Int64)) ∈ mx_T := List.mem_filter.mpr ⟨List.mem_append_right _ ((List.mem_append_right _ (List.mem_append_right _ (List.mem_append_right _ (List.mem_append_right _ (List.mem_append_right _ (List.mem_of_getElem? (l := tables_1_6) (i := 45) (by decide +kernel)))))))), rfl⟩
theorem k_1309 : (Jvm.Cond.methodLink "LittleMixModel" (336 : Nat) ({ cls := "LittleMixModel", name := "events", desc := "(IJJ)V" } : Jvm.MethodName)) ∈ mx_T := List.mem_filter.mpr ⟨List.mem_append_right _ ((List.mem_append_right _ (List.mem_append_right _ (List.mem_append_right _ (List.mem_append_right _ (List.mem_append_right _ (List.mem_of_getElem? (l := tables_1_6) (i := 109) (by decide +kernel)))))))), rfl⟩
theorem k_1311 : (Jvm.Cond.instanceMethod ({ cls := "LittleMixModel", name := "events", desc := "(IJJ)V" } : Jvm.MethodName)) ∈ mx_T := List.mem_filter.mpr ⟨List.mem_append_right _ ((List.mem_append_right _ (List.mem_append_right _ (List.mem_append_right _ (List.mem_append_right _ (List.mem_append_right _ (List.mem_of_getElem? (l := tables_1_6) (i := 111) (by decide +kernel)))))))), rfl⟩
theorem k_1312 : (Jvm.Cond.code ({ cls := "LittleMixModel", name := "events", desc := "(IJJ)V" } : Jvm.MethodName) prog_14_method_48_code (6 : Nat) (Option.none : Option Jvm.ClassFile.FieldType)) ∈ mx_T := List.mem_filter.mpr ⟨List.mem_append_right _ ((List.mem_append_right _ (List.mem_append_right _ (List.mem_append_right _ (List.mem_append_right _ (List.mem_append_right _ (List.mem_of_getElem? (l := tables_1_6) (i := 112) rfl))))))), rfl⟩
theorem k_1325 : (Jvm.Cond.methodLink "LittleMixModel" (332 : Nat) ({ cls := "LittleMixModel", name := "multiply", desc := "(JJ)J" } : Jvm.MethodName)) ∈ mx_T := List.mem_filter.mpr ⟨List.mem_append_right _ ((List.mem_append_right _ (List.mem_append_right _ (List.mem_append_right _ (List.mem_append_right _ (List.mem_append_right _ (List.mem_of_getElem? (l := tables_1_6) (i := 125) (by decide +kernel)))))))), rfl⟩
theorem k_1327 : (Jvm.Cond.instanceMethod ({ cls := "LittleMixModel", name := "multiply", desc := "(JJ)J" } : Jvm.MethodName)) ∈ mx_T := List.mem_filter.mpr ⟨List.mem_append_right _ ((List.mem_append_right _ (List.mem_append_right _ (List.mem_append_right _ (List.mem_append_right _ (List.mem_append_right _ (List.mem_of_getElem? (l := tables_1_6) (i := 127) (by decide +kernel)))))))), rfl⟩
theorem k_1328 : (Jvm.Cond.code ({ cls := "LittleMixModel", name := "multiply", desc := "(JJ)J" } : Jvm.MethodName) prog_14_method_46_code (8 : Nat) (Option.some Jvm.ClassFile.FieldType.long)) ∈ mx_T := List.mem_filter.mpr ⟨List.mem_append_right _ ((List.mem_append_right _ (List.mem_append_right _ (List.mem_append_right _ (List.mem_append_right _ (List.mem_append_right _ (List.mem_of_getElem? (l := tables_1_6) (i := 128) rfl))))))), rfl⟩
theorem k_1342 : (Jvm.Cond.methodLink "LittleMixModel" (342 : Nat) ({ cls := "LittleMixModel", name := "divide", desc := "(JJJ)J" } : Jvm.MethodName)) ∈ mx_T := List.mem_filter.mpr ⟨List.mem_append_right _ ((List.mem_append_right _ (List.mem_append_right _ (List.mem_append_right _ (List.mem_append_right _ (List.mem_append_right _ (List.mem_of_getElem? (l := tables_1_6) (i := 142) (by decide +kernel)))))))), rfl⟩
theorem k_1344 : (Jvm.Cond.instanceMethod ({ cls := "LittleMixModel", name := "divide", desc := "(JJJ)J" } : Jvm.MethodName)) ∈ mx_T := List.mem_filter.mpr ⟨List.mem_append_right _ ((List.mem_append_right _ (List.mem_append_right _ (List.mem_append_right _ (List.mem_append_right _ (List.mem_append_right _ (List.mem_of_getElem? (l := tables_1_6) (i := 144) (by decide +kernel)))))))), rfl⟩
theorem k_1345 : (Jvm.Cond.code ({ cls := "LittleMixModel", name := "divide", desc := "(JJJ)J" } : Jvm.MethodName) prog_14_method_47_code (11 : Nat) (Option.some Jvm.ClassFile.FieldType.long)) ∈ mx_T := List.mem_filter.mpr ⟨List.mem_append_right _ ((List.mem_append_right _ (List.mem_append_right _ (List.mem_append_right _ (List.mem_append_right _ (List.mem_append_right _ (List.mem_of_getElem? (l := tables_1_6) (i := 145) rfl))))))), rfl⟩
theorem sl_Mod_multiply : Cond.selects y_Mod_multiply.cls y_Mod_multiply y_Mod_multiply ∈ mx_T := List.mem_filter.mpr ⟨List.mem_append_left _ (by decide +kernel), by decide +kernel⟩
theorem sl_Mod_events : Cond.selects y_Mod_events.cls y_Mod_events y_Mod_events ∈ mx_T := List.mem_filter.mpr ⟨List.mem_append_left _ (by decide +kernel), by decide +kernel⟩
theorem sl_Mod_divide : Cond.selects y_Mod_divide.cls y_Mod_divide y_Mod_divide ∈ mx_T := List.mem_filter.mpr ⟨List.mem_append_left _ (by decide +kernel), by decide +kernel⟩
theorem d_Mod_away_0 : decode b_Mod_away 0 = .ok (.aload_n 0, 1) := by decide +kernel
theorem d_Mod_away_1 : decode b_Mod_away 1 = .ok (.getfield 81, 3) := by decide +kernel
theorem d_Mod_away_4 : decode b_Mod_away 4 = .ok (.ldc2_w 271, 3) := by decide +kernel
theorem d_Mod_away_7 : decode b_Mod_away 7 = .ok (.iload_n 2, 1) := by decide +kernel
theorem d_Mod_away_8 : decode b_Mod_away 8 = .ok (.iconst 1, 1) := by decide +kernel
theorem d_Mod_away_9 : decode b_Mod_away 9 = .ok (.if_icmp .ne 12, 3) := by decide +kernel
theorem d_Mod_away_12 : decode b_Mod_away 12 = .ok (.iload_n 1, 1) := by decide +kernel
theorem d_Mod_away_13 : decode b_Mod_away 13 = .ok (.i2l, 1) := by decide +kernel
theorem d_Mod_away_14 : decode b_Mod_away 14 = .ok (.lconst 1, 1) := by decide +kernel
theorem d_Mod_away_15 : decode b_Mod_away 15 = .ok (.iload_n 3, 1) := by decide +kernel
theorem d_Mod_away_16 : decode b_Mod_away 16 = .ok (.lshl, 1) := by decide +kernel
theorem d_Mod_away_17 : decode b_Mod_away 17 = .ok (.lsub, 1) := by decide +kernel
theorem d_Mod_away_18 : decode b_Mod_away 18 = .ok (.goto 5, 3) := by decide +kernel
theorem d_Mod_away_21 : decode b_Mod_away 21 = .ok (.iload_n 1, 1) := by decide +kernel
theorem d_Mod_away_22 : decode b_Mod_away 22 = .ok (.i2l, 1) := by decide +kernel
theorem d_Mod_away_23 : decode b_Mod_away 23 = .ok (.lmul, 1) := by decide +kernel
theorem d_Mod_away_24 : decode b_Mod_away 24 = .ok (.ladd, 1) := by decide +kernel
theorem d_Mod_away_25 : decode b_Mod_away 25 = .ok (.lreturn, 1) := by decide +kernel
theorem d_Mod_divide_0 : decode b_Mod_divide 0 = .ok (.lconst 0, 1) := by decide +kernel
theorem d_Mod_divide_1 : decode b_Mod_divide 1 = .ok (.lstore 7, 2) := by decide +kernel
theorem d_Mod_divide_3 : decode b_Mod_divide 3 = .ok (.aload_n 0, 1) := by decide +kernel
theorem d_Mod_divide_4 : decode b_Mod_divide 4 = .ok (.lload_n 1, 1) := by decide +kernel
theorem d_Mod_divide_5 : decode b_Mod_divide 5 = .ok (.putfield 320, 3) := by decide +kernel
theorem d_Mod_divide_8 : decode b_Mod_divide 8 = .ok (.bipush 63, 2) := by decide +kernel
theorem d_Mod_divide_10 : decode b_Mod_divide 10 = .ok (.istore 9, 2) := by decide +kernel
theorem d_Mod_divide_12 : decode b_Mod_divide 12 = .ok (.iload 9, 2) := by decide +kernel
theorem d_Mod_divide_14 : decode b_Mod_divide 14 = .ok (.ifCond .lt 85, 3) := by decide +kernel
theorem d_Mod_divide_17 : decode b_Mod_divide 17 = .ok (.aload_n 0, 1) := by decide +kernel
theorem d_Mod_divide_18 : decode b_Mod_divide 18 = .ok (.getfield 320, 3) := by decide +kernel
theorem d_Mod_divide_21 : decode b_Mod_divide 21 = .ok (.lconst 0, 1) := by decide +kernel
theorem d_Mod_divide_22 : decode b_Mod_divide 22 = .ok (.lcmp, 1) := by decide +kernel
theorem d_Mod_divide_23 : decode b_Mod_divide 23 = .ok (.ifCond .ge 7, 3) := by decide +kernel
theorem d_Mod_divide_26 : decode b_Mod_divide 26 = .ok (.iconst 1, 1) := by decide +kernel
theorem d_Mod_divide_27 : decode b_Mod_divide 27 = .ok (.goto 4, 3) := by decide +kernel
theorem d_Mod_divide_30 : decode b_Mod_divide 30 = .ok (.iconst 0, 1) := by decide +kernel
theorem d_Mod_divide_31 : decode b_Mod_divide 31 = .ok (.istore 10, 2) := by decide +kernel
theorem d_Mod_divide_33 : decode b_Mod_divide 33 = .ok (.aload_n 0, 1) := by decide +kernel
theorem d_Mod_divide_34 : decode b_Mod_divide 34 = .ok (.aload_n 0, 1) := by decide +kernel
theorem d_Mod_divide_35 : decode b_Mod_divide 35 = .ok (.getfield 320, 3) := by decide +kernel
theorem d_Mod_divide_38 : decode b_Mod_divide 38 = .ok (.iconst 1, 1) := by decide +kernel
theorem d_Mod_divide_39 : decode b_Mod_divide 39 = .ok (.lshl, 1) := by decide +kernel
theorem d_Mod_divide_40 : decode b_Mod_divide 40 = .ok (.lload_n 3, 1) := by decide +kernel
theorem d_Mod_divide_41 : decode b_Mod_divide 41 = .ok (.iload 9, 2) := by decide +kernel
theorem d_Mod_divide_43 : decode b_Mod_divide 43 = .ok (.invokestatic 310, 3) := by decide +kernel
theorem d_Mod_divide_46 : decode b_Mod_divide 46 = .ok (.lor, 1) := by decide +kernel
theorem d_Mod_divide_47 : decode b_Mod_divide 47 = .ok (.putfield 320, 3) := by decide +kernel
theorem d_Mod_divide_50 : decode b_Mod_divide 50 = .ok (.lload 7, 2) := by decide +kernel
theorem d_Mod_divide_52 : decode b_Mod_divide 52 = .ok (.iconst 1, 1) := by decide +kernel
theorem d_Mod_divide_53 : decode b_Mod_divide 53 = .ok (.lshl, 1) := by decide +kernel
theorem d_Mod_divide_54 : decode b_Mod_divide 54 = .ok (.lstore 7, 2) := by decide +kernel
theorem d_Mod_divide_56 : decode b_Mod_divide 56 = .ok (.iload 10, 2) := by decide +kernel
theorem d_Mod_divide_58 : decode b_Mod_divide 58 = .ok (.ifCond .ne 18, 3) := by decide +kernel
theorem d_Mod_divide_61 : decode b_Mod_divide 61 = .ok (.aload_n 0, 1) := by decide +kernel
theorem d_Mod_divide_62 : decode b_Mod_divide 62 = .ok (.getfield 320, 3) := by decide +kernel
theorem d_Mod_divide_65 : decode b_Mod_divide 65 = .ok (.lload 5, 2) := by decide +kernel
theorem d_Mod_divide_67 : decode b_Mod_divide 67 = .ok (.invokestatic 314, 3) := by decide +kernel
theorem d_Mod_divide_70 : decode b_Mod_divide 70 = .ok (.ifCond .ge 6, 3) := by decide +kernel
theorem d_Mod_divide_73 : decode b_Mod_divide 73 = .ok (.goto 20, 3) := by decide +kernel
theorem d_Mod_divide_76 : decode b_Mod_divide 76 = .ok (.aload_n 0, 1) := by decide +kernel
theorem d_Mod_divide_77 : decode b_Mod_divide 77 = .ok (.dup, 1) := by decide +kernel
theorem d_Mod_divide_78 : decode b_Mod_divide 78 = .ok (.getfield 320, 3) := by decide +kernel
theorem d_Mod_divide_81 : decode b_Mod_divide 81 = .ok (.lload 5, 2) := by decide +kernel
theorem d_Mod_divide_83 : decode b_Mod_divide 83 = .ok (.lsub, 1) := by decide +kernel
theorem d_Mod_divide_84 : decode b_Mod_divide 84 = .ok (.putfield 320, 3) := by decide +kernel
theorem d_Mod_divide_87 : decode b_Mod_divide 87 = .ok (.lload 7, 2) := by decide +kernel
theorem d_Mod_divide_89 : decode b_Mod_divide 89 = .ok (.lconst 1, 1) := by decide +kernel
theorem d_Mod_divide_90 : decode b_Mod_divide 90 = .ok (.lor, 1) := by decide +kernel
theorem d_Mod_divide_91 : decode b_Mod_divide 91 = .ok (.lstore 7, 2) := by decide +kernel
theorem d_Mod_divide_93 : decode b_Mod_divide 93 = .ok (.iinc 9 (-1), 3) := by decide +kernel
theorem d_Mod_divide_96 : decode b_Mod_divide 96 = .ok (.goto (-84), 3) := by decide +kernel
theorem d_Mod_divide_99 : decode b_Mod_divide 99 = .ok (.lload 7, 2) := by decide +kernel
theorem d_Mod_divide_101 : decode b_Mod_divide 101 = .ok (.lreturn, 1) := by decide +kernel
theorem d_Mod_events_0 : decode b_Mod_events 0 = .ok (.aload_n 0, 1) := by decide +kernel
theorem d_Mod_events_1 : decode b_Mod_events 1 = .ok (.iload_n 1, 1) := by decide +kernel
theorem d_Mod_events_2 : decode b_Mod_events 2 = .ok (.putfield 323, 3) := by decide +kernel
theorem d_Mod_events_5 : decode b_Mod_events 5 = .ok (.aload_n 0, 1) := by decide +kernel
theorem d_Mod_events_6 : decode b_Mod_events 6 = .ok (.lload_n 2, 1) := by decide +kernel
theorem d_Mod_events_7 : decode b_Mod_events 7 = .ok (.putfield 326, 3) := by decide +kernel
theorem d_Mod_events_10 : decode b_Mod_events 10 = .ok (.aload_n 0, 1) := by decide +kernel
theorem d_Mod_events_11 : decode b_Mod_events 11 = .ok (.lload 4, 2) := by decide +kernel
theorem d_Mod_events_13 : decode b_Mod_events 13 = .ok (.putfield 329, 3) := by decide +kernel
theorem d_Mod_events_16 : decode b_Mod_events 16 = .ok (.return_, 1) := by decide +kernel
theorem d_Mod_get_0 : decode b_Mod_get 0 = .ok (.iload_n 1, 1) := by decide +kernel
theorem d_Mod_get_1 : decode b_Mod_get 1 = .ok (.aload_n 0, 1) := by decide +kernel
theorem d_Mod_get_2 : decode b_Mod_get 2 = .ok (.getfield 67, 3) := by decide +kernel
theorem d_Mod_get_5 : decode b_Mod_get 5 = .ok (.if_icmp .ge 11, 3) := by decide +kernel
theorem d_Mod_get_8 : decode b_Mod_get 8 = .ok (.iload_n 1, 1) := by decide +kernel
theorem d_Mod_get_9 : decode b_Mod_get 9 = .ok (.aload_n 0, 1) := by decide +kernel
theorem d_Mod_get_10 : decode b_Mod_get 10 = .ok (.getfield 64, 3) := by decide +kernel
theorem d_Mod_get_13 : decode b_Mod_get 13 = .ok (.if_icmp .ge 12, 3) := by decide +kernel
theorem d_Mod_get_16 : decode b_Mod_get 16 = .ok (.aload_n 0, 1) := by decide +kernel
theorem d_Mod_get_17 : decode b_Mod_get 17 = .ok (.getfield 43, 3) := by decide +kernel
theorem d_Mod_get_20 : decode b_Mod_get 20 = .ok (.iload_n 1, 1) := by decide +kernel
theorem d_Mod_get_21 : decode b_Mod_get 21 = .ok (.laload, 1) := by decide +kernel
theorem d_Mod_get_22 : decode b_Mod_get 22 = .ok (.goto 4, 3) := by decide +kernel
theorem d_Mod_get_25 : decode b_Mod_get 25 = .ok (.lconst 0, 1) := by decide +kernel
theorem d_Mod_get_26 : decode b_Mod_get 26 = .ok (.lreturn, 1) := by decide +kernel
theorem d_Mod_left_0 : decode b_Mod_left 0 = .ok (.lload_n 3, 1) := by decide +kernel
theorem d_Mod_left_1 : decode b_Mod_left 1 = .ok (.lconst 0, 1) := by decide +kernel
theorem d_Mod_left_2 : decode b_Mod_left 2 = .ok (.lcmp, 1) := by decide +kernel
theorem d_Mod_left_3 : decode b_Mod_left 3 = .ok (.ifCond .lt 11, 3) := by decide +kernel
theorem d_Mod_left_6 : decode b_Mod_left 6 = .ok (.lload_n 3, 1) := by decide +kernel
theorem d_Mod_left_7 : decode b_Mod_left 7 = .ok (.ldc2_w 346, 3) := by decide +kernel
theorem d_Mod_left_10 : decode b_Mod_left 10 = .ok (.lcmp, 1) := by decide +kernel
theorem d_Mod_left_11 : decode b_Mod_left 11 = .ok (.ifCond .le 7, 3) := by decide +kernel
theorem d_Mod_left_14 : decode b_Mod_left 14 = .ok (.lconst 0, 1) := by decide +kernel
theorem d_Mod_left_15 : decode b_Mod_left 15 = .ok (.goto 7, 3) := by decide +kernel
theorem d_Mod_left_18 : decode b_Mod_left 18 = .ok (.lload_n 1, 1) := by decide +kernel
theorem d_Mod_left_19 : decode b_Mod_left 19 = .ok (.lload_n 3, 1) := by decide +kernel
theorem d_Mod_left_20 : decode b_Mod_left 20 = .ok (.l2i, 1) := by decide +kernel
theorem d_Mod_left_21 : decode b_Mod_left 21 = .ok (.lshl, 1) := by decide +kernel
theorem d_Mod_left_22 : decode b_Mod_left 22 = .ok (.lstore 6, 2) := by decide +kernel
theorem d_Mod_left_24 : decode b_Mod_left 24 = .ok (.lload_n 3, 1) := by decide +kernel
theorem d_Mod_left_25 : decode b_Mod_left 25 = .ok (.lconst 0, 1) := by decide +kernel
theorem d_Mod_left_26 : decode b_Mod_left 26 = .ok (.lcmp, 1) := by decide +kernel
theorem d_Mod_left_27 : decode b_Mod_left 27 = .ok (.ifCond .lt 11, 3) := by decide +kernel
theorem d_Mod_left_30 : decode b_Mod_left 30 = .ok (.lload_n 3, 1) := by decide +kernel
theorem d_Mod_left_31 : decode b_Mod_left 31 = .ok (.ldc2_w 346, 3) := by decide +kernel
theorem d_Mod_left_34 : decode b_Mod_left 34 = .ok (.lcmp, 1) := by decide +kernel
theorem d_Mod_left_35 : decode b_Mod_left 35 = .ok (.ifCond .le 17, 3) := by decide +kernel
theorem d_Mod_left_38 : decode b_Mod_left 38 = .ok (.lload_n 1, 1) := by decide +kernel
theorem d_Mod_left_39 : decode b_Mod_left 39 = .ok (.lconst 0, 1) := by decide +kernel
theorem d_Mod_left_40 : decode b_Mod_left 40 = .ok (.lcmp, 1) := by decide +kernel
theorem d_Mod_left_41 : decode b_Mod_left 41 = .ok (.ifCond .ne 7, 3) := by decide +kernel
theorem d_Mod_left_44 : decode b_Mod_left 44 = .ok (.iconst 1, 1) := by decide +kernel
theorem d_Mod_left_45 : decode b_Mod_left 45 = .ok (.goto 22, 3) := by decide +kernel
theorem d_Mod_left_48 : decode b_Mod_left 48 = .ok (.iconst 0, 1) := by decide +kernel
theorem d_Mod_left_49 : decode b_Mod_left 49 = .ok (.goto 18, 3) := by decide +kernel
theorem d_Mod_left_52 : decode b_Mod_left 52 = .ok (.lload 6, 2) := by decide +kernel
theorem d_Mod_left_54 : decode b_Mod_left 54 = .ok (.lload_n 3, 1) := by decide +kernel
theorem d_Mod_left_55 : decode b_Mod_left 55 = .ok (.l2i, 1) := by decide +kernel
theorem d_Mod_left_56 : decode b_Mod_left 56 = .ok (.lshr, 1) := by decide +kernel
theorem d_Mod_left_57 : decode b_Mod_left 57 = .ok (.lload_n 1, 1) := by decide +kernel
theorem d_Mod_left_58 : decode b_Mod_left 58 = .ok (.lcmp, 1) := by decide +kernel
theorem d_Mod_left_59 : decode b_Mod_left 59 = .ok (.ifCond .ne 7, 3) := by decide +kernel
theorem d_Mod_left_62 : decode b_Mod_left 62 = .ok (.iconst 1, 1) := by decide +kernel
theorem d_Mod_left_63 : decode b_Mod_left 63 = .ok (.goto 4, 3) := by decide +kernel
theorem d_Mod_left_66 : decode b_Mod_left 66 = .ok (.iconst 0, 1) := by decide +kernel
theorem d_Mod_left_67 : decode b_Mod_left 67 = .ok (.istore 8, 2) := by decide +kernel
theorem d_Mod_left_69 : decode b_Mod_left 69 = .ok (.iload 5, 2) := by decide +kernel
theorem d_Mod_left_71 : decode b_Mod_left 71 = .ok (.ifCond .eq 16, 3) := by decide +kernel
theorem d_Mod_left_74 : decode b_Mod_left 74 = .ok (.iload 8, 2) := by decide +kernel
theorem d_Mod_left_76 : decode b_Mod_left 76 = .ok (.ifCond .ne 11, 3) := by decide +kernel
theorem d_Mod_left_79 : decode b_Mod_left 79 = .ok (.aload_n 0, 1) := by decide +kernel
theorem d_Mod_left_80 : decode b_Mod_left 80 = .ok (.bipush 64, 2) := by decide +kernel
theorem d_Mod_left_82 : decode b_Mod_left 82 = .ok (.lload_n 1, 1) := by decide +kernel
theorem d_Mod_left_83 : decode b_Mod_left 83 = .ok (.lload_n 3, 1) := by decide +kernel
theorem d_Mod_left_84 : decode b_Mod_left 84 = .ok (.invokevirtual 336, 3) := by decide +kernel
theorem d_Mod_left_87 : decode b_Mod_left 87 = .ok (.lload 6, 2) := by decide +kernel
theorem d_Mod_left_89 : decode b_Mod_left 89 = .ok (.lreturn, 1) := by decide +kernel
theorem d_Mod_multiply_0 : decode b_Mod_multiply 0 = .ok (.lconst 0, 1) := by decide +kernel
theorem d_Mod_multiply_1 : decode b_Mod_multiply 1 = .ok (.lstore 5, 2) := by decide +kernel
theorem d_Mod_multiply_3 : decode b_Mod_multiply 3 = .ok (.aload_n 0, 1) := by decide +kernel
theorem d_Mod_multiply_4 : decode b_Mod_multiply 4 = .ok (.lconst 0, 1) := by decide +kernel
theorem d_Mod_multiply_5 : decode b_Mod_multiply 5 = .ok (.putfield 307, 3) := by decide +kernel
theorem d_Mod_multiply_8 : decode b_Mod_multiply 8 = .ok (.bipush 63, 2) := by decide +kernel
theorem d_Mod_multiply_10 : decode b_Mod_multiply 10 = .ok (.istore 7, 2) := by decide +kernel
theorem d_Mod_multiply_12 : decode b_Mod_multiply 12 = .ok (.iload 7, 2) := by decide +kernel
theorem d_Mod_multiply_14 : decode b_Mod_multiply 14 = .ok (.ifCond .lt 72, 3) := by decide +kernel
theorem d_Mod_multiply_17 : decode b_Mod_multiply 17 = .ok (.aload_n 0, 1) := by decide +kernel
theorem d_Mod_multiply_18 : decode b_Mod_multiply 18 = .ok (.aload_n 0, 1) := by decide +kernel
theorem d_Mod_multiply_19 : decode b_Mod_multiply 19 = .ok (.getfield 307, 3) := by decide +kernel
theorem d_Mod_multiply_22 : decode b_Mod_multiply 22 = .ok (.iconst 1, 1) := by decide +kernel
theorem d_Mod_multiply_23 : decode b_Mod_multiply 23 = .ok (.lshl, 1) := by decide +kernel
theorem d_Mod_multiply_24 : decode b_Mod_multiply 24 = .ok (.lload 5, 2) := by decide +kernel
theorem d_Mod_multiply_26 : decode b_Mod_multiply 26 = .ok (.bipush 63, 2) := by decide +kernel
theorem d_Mod_multiply_28 : decode b_Mod_multiply 28 = .ok (.invokestatic 310, 3) := by decide +kernel
theorem d_Mod_multiply_31 : decode b_Mod_multiply 31 = .ok (.lor, 1) := by decide +kernel
theorem d_Mod_multiply_32 : decode b_Mod_multiply 32 = .ok (.putfield 307, 3) := by decide +kernel
theorem d_Mod_multiply_35 : decode b_Mod_multiply 35 = .ok (.lload 5, 2) := by decide +kernel
theorem d_Mod_multiply_37 : decode b_Mod_multiply 37 = .ok (.iconst 1, 1) := by decide +kernel
theorem d_Mod_multiply_38 : decode b_Mod_multiply 38 = .ok (.lshl, 1) := by decide +kernel
theorem d_Mod_multiply_39 : decode b_Mod_multiply 39 = .ok (.lstore 5, 2) := by decide +kernel
theorem d_Mod_multiply_41 : decode b_Mod_multiply 41 = .ok (.lload_n 1, 1) := by decide +kernel
theorem d_Mod_multiply_42 : decode b_Mod_multiply 42 = .ok (.iload 7, 2) := by decide +kernel
theorem d_Mod_multiply_44 : decode b_Mod_multiply 44 = .ok (.invokestatic 310, 3) := by decide +kernel
theorem d_Mod_multiply_47 : decode b_Mod_multiply 47 = .ok (.lconst 0, 1) := by decide +kernel
theorem d_Mod_multiply_48 : decode b_Mod_multiply 48 = .ok (.lcmp, 1) := by decide +kernel
theorem d_Mod_multiply_49 : decode b_Mod_multiply 49 = .ok (.ifCond .ne 6, 3) := by decide +kernel
theorem d_Mod_multiply_52 : decode b_Mod_multiply 52 = .ok (.goto 28, 3) := by decide +kernel
theorem d_Mod_multiply_55 : decode b_Mod_multiply 55 = .ok (.lload 5, 2) := by decide +kernel
theorem d_Mod_multiply_57 : decode b_Mod_multiply 57 = .ok (.lload_n 3, 1) := by decide +kernel
theorem d_Mod_multiply_58 : decode b_Mod_multiply 58 = .ok (.ladd, 1) := by decide +kernel
theorem d_Mod_multiply_59 : decode b_Mod_multiply 59 = .ok (.lstore 5, 2) := by decide +kernel
theorem d_Mod_multiply_61 : decode b_Mod_multiply 61 = .ok (.lload 5, 2) := by decide +kernel
theorem d_Mod_multiply_63 : decode b_Mod_multiply 63 = .ok (.lload_n 3, 1) := by decide +kernel
theorem d_Mod_multiply_64 : decode b_Mod_multiply 64 = .ok (.invokestatic 314, 3) := by decide +kernel
theorem d_Mod_multiply_67 : decode b_Mod_multiply 67 = .ok (.ifCond .ge 13, 3) := by decide +kernel
theorem d_Mod_multiply_70 : decode b_Mod_multiply 70 = .ok (.aload_n 0, 1) := by decide +kernel
theorem d_Mod_multiply_71 : decode b_Mod_multiply 71 = .ok (.dup, 1) := by decide +kernel
theorem d_Mod_multiply_72 : decode b_Mod_multiply 72 = .ok (.getfield 307, 3) := by decide +kernel
theorem d_Mod_multiply_75 : decode b_Mod_multiply 75 = .ok (.lconst 1, 1) := by decide +kernel
theorem d_Mod_multiply_76 : decode b_Mod_multiply 76 = .ok (.ladd, 1) := by decide +kernel
theorem d_Mod_multiply_77 : decode b_Mod_multiply 77 = .ok (.putfield 307, 3) := by decide +kernel
theorem d_Mod_multiply_80 : decode b_Mod_multiply 80 = .ok (.iinc 7 (-1), 3) := by decide +kernel
theorem d_Mod_multiply_83 : decode b_Mod_multiply 83 = .ok (.goto (-71), 3) := by decide +kernel
theorem d_Mod_multiply_86 : decode b_Mod_multiply 86 = .ok (.lload 5, 2) := by decide +kernel
theorem d_Mod_multiply_88 : decode b_Mod_multiply 88 = .ok (.lreturn, 1) := by decide +kernel
theorem d_Mod_product_0 : decode b_Mod_product 0 = .ok (.aload_n 0, 1) := by decide +kernel
theorem d_Mod_product_1 : decode b_Mod_product 1 = .ok (.lload_n 1, 1) := by decide +kernel
theorem d_Mod_product_2 : decode b_Mod_product 2 = .ok (.lload_n 3, 1) := by decide +kernel
theorem d_Mod_product_3 : decode b_Mod_product 3 = .ok (.invokevirtual 332, 3) := by decide +kernel
theorem d_Mod_product_6 : decode b_Mod_product 6 = .ok (.lstore 5, 2) := by decide +kernel
theorem d_Mod_product_8 : decode b_Mod_product 8 = .ok (.aload_n 0, 1) := by decide +kernel
theorem d_Mod_product_9 : decode b_Mod_product 9 = .ok (.getfield 307, 3) := by decide +kernel
theorem d_Mod_product_12 : decode b_Mod_product 12 = .ok (.lload_n 1, 1) := by decide +kernel
theorem d_Mod_product_13 : decode b_Mod_product 13 = .ok (.lconst 0, 1) := by decide +kernel
theorem d_Mod_product_14 : decode b_Mod_product 14 = .ok (.lcmp, 1) := by decide +kernel
theorem d_Mod_product_15 : decode b_Mod_product 15 = .ok (.ifCond .ge 7, 3) := by decide +kernel
theorem d_Mod_product_18 : decode b_Mod_product 18 = .ok (.lload_n 3, 1) := by decide +kernel
theorem d_Mod_product_19 : decode b_Mod_product 19 = .ok (.goto 4, 3) := by decide +kernel
theorem d_Mod_product_22 : decode b_Mod_product 22 = .ok (.lconst 0, 1) := by decide +kernel
theorem d_Mod_product_23 : decode b_Mod_product 23 = .ok (.lsub, 1) := by decide +kernel
theorem d_Mod_product_24 : decode b_Mod_product 24 = .ok (.lload_n 3, 1) := by decide +kernel
theorem d_Mod_product_25 : decode b_Mod_product 25 = .ok (.lconst 0, 1) := by decide +kernel
theorem d_Mod_product_26 : decode b_Mod_product 26 = .ok (.lcmp, 1) := by decide +kernel
theorem d_Mod_product_27 : decode b_Mod_product 27 = .ok (.ifCond .ge 7, 3) := by decide +kernel
theorem d_Mod_product_30 : decode b_Mod_product 30 = .ok (.lload_n 1, 1) := by decide +kernel
theorem d_Mod_product_31 : decode b_Mod_product 31 = .ok (.goto 4, 3) := by decide +kernel
theorem d_Mod_product_34 : decode b_Mod_product 34 = .ok (.lconst 0, 1) := by decide +kernel
theorem d_Mod_product_35 : decode b_Mod_product 35 = .ok (.lsub, 1) := by decide +kernel
theorem d_Mod_product_36 : decode b_Mod_product 36 = .ok (.lstore 7, 2) := by decide +kernel
theorem d_Mod_product_38 : decode b_Mod_product 38 = .ok (.lload 7, 2) := by decide +kernel
theorem d_Mod_product_40 : decode b_Mod_product 40 = .ok (.lload 5, 2) := by decide +kernel
theorem d_Mod_product_42 : decode b_Mod_product 42 = .ok (.lconst 0, 1) := by decide +kernel
theorem d_Mod_product_43 : decode b_Mod_product 43 = .ok (.lcmp, 1) := by decide +kernel
theorem d_Mod_product_44 : decode b_Mod_product 44 = .ok (.ifCond .ge 9, 3) := by decide +kernel
theorem d_Mod_product_47 : decode b_Mod_product 47 = .ok (.ldc2_w 301, 3) := by decide +kernel
theorem d_Mod_product_50 : decode b_Mod_product 50 = .ok (.goto 4, 3) := by decide +kernel
theorem d_Mod_product_53 : decode b_Mod_product 53 = .ok (.lconst 0, 1) := by decide +kernel
theorem d_Mod_product_54 : decode b_Mod_product 54 = .ok (.lcmp, 1) := by decide +kernel
theorem d_Mod_product_55 : decode b_Mod_product 55 = .ok (.ifCond .eq 11, 3) := by decide +kernel
theorem d_Mod_product_58 : decode b_Mod_product 58 = .ok (.aload_n 0, 1) := by decide +kernel
theorem d_Mod_product_59 : decode b_Mod_product 59 = .ok (.bipush 64, 2) := by decide +kernel
theorem d_Mod_product_61 : decode b_Mod_product 61 = .ok (.lload_n 1, 1) := by decide +kernel
theorem d_Mod_product_62 : decode b_Mod_product 62 = .ok (.lload_n 3, 1) := by decide +kernel
theorem d_Mod_product_63 : decode b_Mod_product 63 = .ok (.invokevirtual 336, 3) := by decide +kernel
theorem d_Mod_product_66 : decode b_Mod_product 66 = .ok (.lload 5, 2) := by decide +kernel
theorem d_Mod_product_68 : decode b_Mod_product 68 = .ok (.lreturn, 1) := by decide +kernel
theorem d_Mod_quotient_0 : decode b_Mod_quotient 0 = .ok (.lload_n 3, 1) := by decide +kernel
theorem d_Mod_quotient_1 : decode b_Mod_quotient 1 = .ok (.lconst 0, 1) := by decide +kernel
theorem d_Mod_quotient_2 : decode b_Mod_quotient 2 = .ok (.lcmp, 1) := by decide +kernel
theorem d_Mod_quotient_3 : decode b_Mod_quotient 3 = .ok (.ifCond .ne 22, 3) := by decide +kernel
theorem d_Mod_quotient_6 : decode b_Mod_quotient 6 = .ok (.aload_n 0, 1) := by decide +kernel
theorem d_Mod_quotient_7 : decode b_Mod_quotient 7 = .ok (.getfield 46, 3) := by decide +kernel
theorem d_Mod_quotient_10 : decode b_Mod_quotient 10 = .ok (.bipush 6, 2) := by decide +kernel
theorem d_Mod_quotient_12 : decode b_Mod_quotient 12 = .ok (.lload_n 1, 1) := by decide +kernel
theorem d_Mod_quotient_13 : decode b_Mod_quotient 13 = .ok (.lastore, 1) := by decide +kernel
theorem d_Mod_quotient_14 : decode b_Mod_quotient 14 = .ok (.aload_n 0, 1) := by decide +kernel
theorem d_Mod_quotient_15 : decode b_Mod_quotient 15 = .ok (.sipush 128, 3) := by decide +kernel
theorem d_Mod_quotient_18 : decode b_Mod_quotient 18 = .ok (.lload_n 1, 1) := by decide +kernel
theorem d_Mod_quotient_19 : decode b_Mod_quotient 19 = .ok (.lload_n 3, 1) := by decide +kernel
theorem d_Mod_quotient_20 : decode b_Mod_quotient 20 = .ok (.invokevirtual 336, 3) := by decide +kernel
theorem d_Mod_quotient_23 : decode b_Mod_quotient 23 = .ok (.lconst 0, 1) := by decide +kernel
theorem d_Mod_quotient_24 : decode b_Mod_quotient 24 = .ok (.lreturn, 1) := by decide +kernel
theorem d_Mod_quotient_25 : decode b_Mod_quotient 25 = .ok (.lload_n 1, 1) := by decide +kernel
theorem d_Mod_quotient_26 : decode b_Mod_quotient 26 = .ok (.ldc2_w 340, 3) := by decide +kernel
