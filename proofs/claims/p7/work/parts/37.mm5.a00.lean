abbrev b_Mod_back : ByteArray := prog_14_method_40_code
abbrev b_Mod_byteAt : ByteArray := prog_14_method_38_code
abbrev b_Mod_feed : ByteArray := prog_14_method_4_code
abbrev b_Mod_illAt : ByteArray := prog_14_method_36_code
abbrev b_Mod_label : ByteArray := prog_14_method_37_code
abbrev b_Mod_place : ByteArray := prog_14_method_72_code
abbrev b_Mod_register : ByteArray := prog_14_method_70_code
abbrev b_Mod_run : ByteArray := prog_14_method_68_code
abbrev b_Mod_special : ByteArray := prog_14_method_71_code
abbrev b_Mod_stopped : ByteArray := prog_14_method_69_code
abbrev b_Mod_store : ByteArray := prog_14_method_39_code
abbrev b_Mod_taken : ByteArray := prog_14_method_73_code
abbrev y_Mod_back : MethodName := ⟨"LittleMixModel", "back", "()V"⟩
abbrev y_Mod_byteAt : MethodName := ⟨"LittleMixModel", "byteAt", "(I)I"⟩
abbrev y_Mod_feed : MethodName := ⟨"LittleMixModel", "feed", "(IIIII)Z"⟩
abbrev y_Mod_illAt : MethodName := ⟨"LittleMixModel", "illAt", "()I"⟩
abbrev y_Mod_label : MethodName := ⟨"LittleMixModel", "label", "(I)J"⟩
abbrev y_Mod_place : MethodName := ⟨"LittleMixModel", "place", "()J"⟩
abbrev y_Mod_register : MethodName := ⟨"LittleMixModel", "register", "(I)J"⟩
abbrev y_Mod_run : MethodName := ⟨"LittleMixModel", "run", "(I)I"⟩
abbrev y_Mod_special : MethodName := ⟨"LittleMixModel", "special", "(I)J"⟩
abbrev y_Mod_stopped : MethodName := ⟨"LittleMixModel", "stopped", "()I"⟩
abbrev y_Mod_store : MethodName := ⟨"LittleMixModel", "store", "(III)Z"⟩
abbrev y_Mod_taken : MethodName := ⟨"LittleMixModel", "taken", "(I)I"⟩
theorem p_Mod_step : y_Mod_step.cls ≠ "java/lang/invoke/MethodHandle" ∧ y_Mod_step.cls ≠ "java/lang/invoke/VarHandle" ∧ (parseMethodDescriptor y_Mod_step.desc).map (fun d => d.parameters.length) = some 0 := by decide +kernel
theorem k_978 : (Jvm.Cond.fieldLink "LittleMixModel" (58 : Nat) "LittleMixModel" "code" "I") ∈ mx_T := List.mem_filter.mpr ⟨List.mem_append_right _ ((List.mem_append_right _ (List.mem_append_right _ (List.mem_append_right _ (List.mem_append_right _ (List.mem_append_left _ (List.mem_of_getElem? (l := tables_1_5) (i := 18) (by decide +kernel)))))))), rfl⟩
theorem k_981 : (Jvm.Cond.fieldLink "LittleMixModel" (85 : Nat) "LittleMixModel" "taped" "I") ∈ mx_T := List.mem_filter.mpr ⟨List.mem_append_right _ ((List.mem_append_right _ (List.mem_append_right _ (List.mem_append_right _ (List.mem_append_right _ (List.mem_append_left _ (List.mem_of_getElem? (l := tables_1_5) (i := 21) (by decide +kernel)))))))), rfl⟩
theorem k_990 : (Jvm.Cond.fieldLink "LittleMixModel" (298 : Nat) "LittleMixModel" "keptCount" "I") ∈ mx_T := List.mem_filter.mpr ⟨List.mem_append_right _ ((List.mem_append_right _ (List.mem_append_right _ (List.mem_append_right _ (List.mem_append_right _ (List.mem_append_left _ (List.mem_of_getElem? (l := tables_1_5) (i := 30) (by decide +kernel)))))))), rfl⟩
theorem k_1288 : (Jvm.Cond.methodLink "LittleMixModel" (431 : Nat) ({ cls := "LittleMixModel", name := "step", desc := "()I" } : Jvm.MethodName)) ∈ mx_T := List.mem_filter.mpr ⟨List.mem_append_right _ ((List.mem_append_right _ (List.mem_append_right _ (List.mem_append_right _ (List.mem_append_right _ (List.mem_append_right _ (List.mem_of_getElem? (l := tables_1_6) (i := 88) (by decide +kernel)))))))), rfl⟩
theorem k_1290 : (Jvm.Cond.instanceMethod ({ cls := "LittleMixModel", name := "step", desc := "()I" } : Jvm.MethodName)) ∈ mx_T := List.mem_filter.mpr ⟨List.mem_append_right _ ((List.mem_append_right _ (List.mem_append_right _ (List.mem_append_right _ (List.mem_append_right _ (List.mem_append_right _ (List.mem_of_getElem? (l := tables_1_6) (i := 90) (by decide +kernel)))))))), rfl⟩
theorem k_1291 : (Jvm.Cond.code ({ cls := "LittleMixModel", name := "step", desc := "()I" } : Jvm.MethodName) prog_14_method_61_code (15 : Nat) (Option.some Jvm.ClassFile.FieldType.int)) ∈ mx_T := List.mem_filter.mpr ⟨List.mem_append_right _ ((List.mem_append_right _ (List.mem_append_right _ (List.mem_append_right _ (List.mem_append_right _ (List.mem_append_right _ (List.mem_of_getElem? (l := tables_1_6) (i := 91) rfl))))))), rfl⟩
theorem sl_Mod_step : Cond.selects y_Mod_step.cls y_Mod_step y_Mod_step ∈ mx_T := List.mem_filter.mpr ⟨List.mem_append_left _ (by decide +kernel), by decide +kernel⟩
theorem d_Mod_back_0 : decode b_Mod_back 0 = .ok (.aload_n 0, 1) := by decide +kernel
theorem d_Mod_back_1 : decode b_Mod_back 1 = .ok (.iconst 0, 1) := by decide +kernel
theorem d_Mod_back_2 : decode b_Mod_back 2 = .ok (.putfield 58, 3) := by decide +kernel
theorem d_Mod_back_5 : decode b_Mod_back 5 = .ok (.aload_n 0, 1) := by decide +kernel
theorem d_Mod_back_6 : decode b_Mod_back 6 = .ok (.invokevirtual 55, 3) := by decide +kernel
theorem d_Mod_back_9 : decode b_Mod_back 9 = .ok (.return_, 1) := by decide +kernel
theorem d_Mod_byteAt_0 : decode b_Mod_byteAt 0 = .ok (.aload_n 0, 1) := by decide +kernel
theorem d_Mod_byteAt_1 : decode b_Mod_byteAt 1 = .ok (.iconst 0, 1) := by decide +kernel
theorem d_Mod_byteAt_2 : decode b_Mod_byteAt 2 = .ok (.putfield 58, 3) := by decide +kernel
theorem d_Mod_byteAt_5 : decode b_Mod_byteAt 5 = .ok (.iload_n 1, 1) := by decide +kernel
theorem d_Mod_byteAt_6 : decode b_Mod_byteAt 6 = .ok (.ifCond .lt 10, 3) := by decide +kernel
theorem d_Mod_byteAt_9 : decode b_Mod_byteAt 9 = .ok (.iload_n 1, 1) := by decide +kernel
theorem d_Mod_byteAt_10 : decode b_Mod_byteAt 10 = .ok (.sipush 4096, 3) := by decide +kernel
theorem d_Mod_byteAt_13 : decode b_Mod_byteAt 13 = .ok (.if_icmp .lt 7, 3) := by decide +kernel
theorem d_Mod_byteAt_16 : decode b_Mod_byteAt 16 = .ok (.iconst (-1), 1) := by decide +kernel
theorem d_Mod_byteAt_17 : decode b_Mod_byteAt 17 = .ok (.goto 9, 3) := by decide +kernel
theorem d_Mod_byteAt_20 : decode b_Mod_byteAt 20 = .ok (.aload_n 0, 1) := by decide +kernel
theorem d_Mod_byteAt_21 : decode b_Mod_byteAt 21 = .ok (.getfield 37, 3) := by decide +kernel
theorem d_Mod_byteAt_24 : decode b_Mod_byteAt 24 = .ok (.iload_n 1, 1) := by decide +kernel
theorem d_Mod_byteAt_25 : decode b_Mod_byteAt 25 = .ok (.iaload, 1) := by decide +kernel
theorem d_Mod_byteAt_26 : decode b_Mod_byteAt 26 = .ok (.ireturn, 1) := by decide +kernel
theorem d_Mod_feed_0 : decode b_Mod_feed 0 = .ok (.aload_n 0, 1) := by decide +kernel
theorem d_Mod_feed_1 : decode b_Mod_feed 1 = .ok (.iconst 0, 1) := by decide +kernel
theorem d_Mod_feed_2 : decode b_Mod_feed 2 = .ok (.putfield 58, 3) := by decide +kernel
theorem d_Mod_feed_5 : decode b_Mod_feed 5 = .ok (.aload_n 0, 1) := by decide +kernel
theorem d_Mod_feed_6 : decode b_Mod_feed 6 = .ok (.getfield 85, 3) := by decide +kernel
theorem d_Mod_feed_9 : decode b_Mod_feed 9 = .ok (.bipush 20, 2) := by decide +kernel
theorem d_Mod_feed_11 : decode b_Mod_feed 11 = .ok (.iadd, 1) := by decide +kernel
theorem d_Mod_feed_12 : decode b_Mod_feed 12 = .ok (.sipush 1600, 3) := by decide +kernel
theorem d_Mod_feed_15 : decode b_Mod_feed 15 = .ok (.if_icmp .le 5, 3) := by decide +kernel
theorem d_Mod_feed_18 : decode b_Mod_feed 18 = .ok (.iconst 0, 1) := by decide +kernel
theorem d_Mod_feed_19 : decode b_Mod_feed 19 = .ok (.ireturn, 1) := by decide +kernel
theorem d_Mod_feed_20 : decode b_Mod_feed 20 = .ok (.iconst 0, 1) := by decide +kernel
theorem d_Mod_feed_21 : decode b_Mod_feed 21 = .ok (.istore 6, 2) := by decide +kernel
theorem d_Mod_feed_23 : decode b_Mod_feed 23 = .ok (.iload 6, 2) := by decide +kernel
theorem d_Mod_feed_25 : decode b_Mod_feed 25 = .ok (.bipush 20, 2) := by decide +kernel
theorem d_Mod_feed_27 : decode b_Mod_feed 27 = .ok (.if_icmp .ge 86, 3) := by decide +kernel
theorem d_Mod_feed_30 : decode b_Mod_feed 30 = .ok (.iload 6, 2) := by decide +kernel
theorem d_Mod_feed_32 : decode b_Mod_feed 32 = .ok (.iconst 4, 1) := by decide +kernel
theorem d_Mod_feed_33 : decode b_Mod_feed 33 = .ok (.if_icmp .ge 7, 3) := by decide +kernel
theorem d_Mod_feed_36 : decode b_Mod_feed 36 = .ok (.iload_n 1, 1) := by decide +kernel
theorem d_Mod_feed_37 : decode b_Mod_feed 37 = .ok (.goto 39, 3) := by decide +kernel
theorem d_Mod_feed_40 : decode b_Mod_feed 40 = .ok (.iload 6, 2) := by decide +kernel
theorem d_Mod_feed_42 : decode b_Mod_feed 42 = .ok (.bipush 8, 2) := by decide +kernel
theorem d_Mod_feed_44 : decode b_Mod_feed 44 = .ok (.if_icmp .ge 7, 3) := by decide +kernel
theorem d_Mod_feed_47 : decode b_Mod_feed 47 = .ok (.iload_n 2, 1) := by decide +kernel
theorem d_Mod_feed_48 : decode b_Mod_feed 48 = .ok (.goto 28, 3) := by decide +kernel
theorem d_Mod_feed_51 : decode b_Mod_feed 51 = .ok (.iload 6, 2) := by decide +kernel
theorem d_Mod_feed_53 : decode b_Mod_feed 53 = .ok (.bipush 12, 2) := by decide +kernel
theorem d_Mod_feed_55 : decode b_Mod_feed 55 = .ok (.if_icmp .ge 7, 3) := by decide +kernel
theorem d_Mod_feed_58 : decode b_Mod_feed 58 = .ok (.iload_n 3, 1) := by decide +kernel
theorem d_Mod_feed_59 : decode b_Mod_feed 59 = .ok (.goto 17, 3) := by decide +kernel
theorem d_Mod_feed_62 : decode b_Mod_feed 62 = .ok (.iload 6, 2) := by decide +kernel
theorem d_Mod_feed_64 : decode b_Mod_feed 64 = .ok (.bipush 16, 2) := by decide +kernel
theorem d_Mod_feed_66 : decode b_Mod_feed 66 = .ok (.if_icmp .ge 8, 3) := by decide +kernel
theorem d_Mod_feed_69 : decode b_Mod_feed 69 = .ok (.iload 4, 2) := by decide +kernel
theorem d_Mod_feed_71 : decode b_Mod_feed 71 = .ok (.goto 5, 3) := by decide +kernel
theorem d_Mod_feed_74 : decode b_Mod_feed 74 = .ok (.iload 5, 2) := by decide +kernel
theorem d_Mod_feed_76 : decode b_Mod_feed 76 = .ok (.istore 7, 2) := by decide +kernel
theorem d_Mod_feed_78 : decode b_Mod_feed 78 = .ok (.aload_n 0, 1) := by decide +kernel
theorem d_Mod_feed_79 : decode b_Mod_feed 79 = .ok (.getfield 7, 3) := by decide +kernel
theorem d_Mod_feed_82 : decode b_Mod_feed 82 = .ok (.aload_n 0, 1) := by decide +kernel
theorem d_Mod_feed_83 : decode b_Mod_feed 83 = .ok (.getfield 85, 3) := by decide +kernel
theorem d_Mod_feed_86 : decode b_Mod_feed 86 = .ok (.iload 6, 2) := by decide +kernel
theorem d_Mod_feed_88 : decode b_Mod_feed 88 = .ok (.iadd, 1) := by decide +kernel
theorem d_Mod_feed_89 : decode b_Mod_feed 89 = .ok (.iload 7, 2) := by decide +kernel
theorem d_Mod_feed_91 : decode b_Mod_feed 91 = .ok (.bipush 24, 2) := by decide +kernel
theorem d_Mod_feed_93 : decode b_Mod_feed 93 = .ok (.bipush 8, 2) := by decide +kernel
theorem d_Mod_feed_95 : decode b_Mod_feed 95 = .ok (.iload 6, 2) := by decide +kernel
theorem d_Mod_feed_97 : decode b_Mod_feed 97 = .ok (.iconst 4, 1) := by decide +kernel
theorem d_Mod_feed_98 : decode b_Mod_feed 98 = .ok (.irem, 1) := by decide +kernel
theorem d_Mod_feed_99 : decode b_Mod_feed 99 = .ok (.imul, 1) := by decide +kernel
theorem d_Mod_feed_100 : decode b_Mod_feed 100 = .ok (.isub, 1) := by decide +kernel
theorem d_Mod_feed_101 : decode b_Mod_feed 101 = .ok (.ishr, 1) := by decide +kernel
theorem d_Mod_feed_102 : decode b_Mod_feed 102 = .ok (.sipush 255, 3) := by decide +kernel
theorem d_Mod_feed_105 : decode b_Mod_feed 105 = .ok (.iand, 1) := by decide +kernel
theorem d_Mod_feed_106 : decode b_Mod_feed 106 = .ok (.iastore, 1) := by decide +kernel
theorem d_Mod_feed_107 : decode b_Mod_feed 107 = .ok (.iinc 6 1, 3) := by decide +kernel
theorem d_Mod_feed_110 : decode b_Mod_feed 110 = .ok (.goto (-87), 3) := by decide +kernel
theorem d_Mod_feed_113 : decode b_Mod_feed 113 = .ok (.aload_n 0, 1) := by decide +kernel
theorem d_Mod_feed_114 : decode b_Mod_feed 114 = .ok (.dup, 1) := by decide +kernel
theorem d_Mod_feed_115 : decode b_Mod_feed 115 = .ok (.getfield 85, 3) := by decide +kernel
theorem d_Mod_feed_118 : decode b_Mod_feed 118 = .ok (.bipush 20, 2) := by decide +kernel
theorem d_Mod_feed_120 : decode b_Mod_feed 120 = .ok (.iadd, 1) := by decide +kernel
theorem d_Mod_feed_121 : decode b_Mod_feed 121 = .ok (.putfield 85, 3) := by decide +kernel
theorem d_Mod_feed_124 : decode b_Mod_feed 124 = .ok (.iconst 1, 1) := by decide +kernel
theorem d_Mod_feed_125 : decode b_Mod_feed 125 = .ok (.ireturn, 1) := by decide +kernel
theorem d_Mod_illAt_0 : decode b_Mod_illAt 0 = .ok (.aload_n 0, 1) := by decide +kernel
theorem d_Mod_illAt_1 : decode b_Mod_illAt 1 = .ok (.iconst 0, 1) := by decide +kernel
theorem d_Mod_illAt_2 : decode b_Mod_illAt 2 = .ok (.putfield 58, 3) := by decide +kernel
theorem d_Mod_illAt_5 : decode b_Mod_illAt 5 = .ok (.aload_n 0, 1) := by decide +kernel
theorem d_Mod_illAt_6 : decode b_Mod_illAt 6 = .ok (.getfield 16, 3) := by decide +kernel
theorem d_Mod_illAt_9 : decode b_Mod_illAt 9 = .ok (.ireturn, 1) := by decide +kernel
theorem d_Mod_label_0 : decode b_Mod_label 0 = .ok (.aload_n 0, 1) := by decide +kernel
theorem d_Mod_label_1 : decode b_Mod_label 1 = .ok (.iconst 0, 1) := by decide +kernel
theorem d_Mod_label_2 : decode b_Mod_label 2 = .ok (.putfield 58, 3) := by decide +kernel
theorem d_Mod_label_5 : decode b_Mod_label 5 = .ok (.iload_n 1, 1) := by decide +kernel
theorem d_Mod_label_6 : decode b_Mod_label 6 = .ok (.ifCond .lt 11, 3) := by decide +kernel
theorem d_Mod_label_9 : decode b_Mod_label 9 = .ok (.iload_n 1, 1) := by decide +kernel
theorem d_Mod_label_10 : decode b_Mod_label 10 = .ok (.aload_n 0, 1) := by decide +kernel
theorem d_Mod_label_11 : decode b_Mod_label 11 = .ok (.getfield 298, 3) := by decide +kernel
theorem d_Mod_label_14 : decode b_Mod_label 14 = .ok (.if_icmp .lt 9, 3) := by decide +kernel
theorem d_Mod_label_17 : decode b_Mod_label 17 = .ok (.ldc2_w 301, 3) := by decide +kernel
theorem d_Mod_label_20 : decode b_Mod_label 20 = .ok (.goto 9, 3) := by decide +kernel
theorem d_Mod_label_23 : decode b_Mod_label 23 = .ok (.aload_n 0, 1) := by decide +kernel
theorem d_Mod_label_24 : decode b_Mod_label 24 = .ok (.getfield 34, 3) := by decide +kernel
theorem d_Mod_label_27 : decode b_Mod_label 27 = .ok (.iload_n 1, 1) := by decide +kernel
theorem d_Mod_label_28 : decode b_Mod_label 28 = .ok (.laload, 1) := by decide +kernel
theorem d_Mod_label_29 : decode b_Mod_label 29 = .ok (.lreturn, 1) := by decide +kernel
theorem d_Mod_place_0 : decode b_Mod_place 0 = .ok (.aload_n 0, 1) := by decide +kernel
theorem d_Mod_place_1 : decode b_Mod_place 1 = .ok (.iconst 0, 1) := by decide +kernel
theorem d_Mod_place_2 : decode b_Mod_place 2 = .ok (.putfield 58, 3) := by decide +kernel
theorem d_Mod_place_5 : decode b_Mod_place 5 = .ok (.aload_n 0, 1) := by decide +kernel
theorem d_Mod_place_6 : decode b_Mod_place 6 = .ok (.getfield 81, 3) := by decide +kernel
theorem d_Mod_place_9 : decode b_Mod_place 9 = .ok (.lreturn, 1) := by decide +kernel
theorem d_Mod_register_0 : decode b_Mod_register 0 = .ok (.aload_n 0, 1) := by decide +kernel
theorem d_Mod_register_1 : decode b_Mod_register 1 = .ok (.iconst 0, 1) := by decide +kernel
theorem d_Mod_register_2 : decode b_Mod_register 2 = .ok (.putfield 58, 3) := by decide +kernel
theorem d_Mod_register_5 : decode b_Mod_register 5 = .ok (.iload_n 1, 1) := by decide +kernel
theorem d_Mod_register_6 : decode b_Mod_register 6 = .ok (.ifCond .lt 10, 3) := by decide +kernel
theorem d_Mod_register_9 : decode b_Mod_register 9 = .ok (.iload_n 1, 1) := by decide +kernel
theorem d_Mod_register_10 : decode b_Mod_register 10 = .ok (.sipush 255, 3) := by decide +kernel
theorem d_Mod_register_13 : decode b_Mod_register 13 = .ok (.if_icmp .le 7, 3) := by decide +kernel
theorem d_Mod_register_16 : decode b_Mod_register 16 = .ok (.lconst 0, 1) := by decide +kernel
theorem d_Mod_register_17 : decode b_Mod_register 17 = .ok (.goto 8, 3) := by decide +kernel
theorem d_Mod_register_20 : decode b_Mod_register 20 = .ok (.aload_n 0, 1) := by decide +kernel
theorem d_Mod_register_21 : decode b_Mod_register 21 = .ok (.iload_n 1, 1) := by decide +kernel
theorem d_Mod_register_22 : decode b_Mod_register 22 = .ok (.invokevirtual 385, 3) := by decide +kernel
theorem d_Mod_register_25 : decode b_Mod_register 25 = .ok (.lreturn, 1) := by decide +kernel
theorem d_Mod_run_0 : decode b_Mod_run 0 = .ok (.aload_n 0, 1) := by decide +kernel
theorem d_Mod_run_1 : decode b_Mod_run 1 = .ok (.iconst 0, 1) := by decide +kernel
theorem d_Mod_run_2 : decode b_Mod_run 2 = .ok (.putfield 58, 3) := by decide +kernel
theorem d_Mod_run_5 : decode b_Mod_run 5 = .ok (.iload_n 1, 1) := by decide +kernel
theorem d_Mod_run_6 : decode b_Mod_run 6 = .ok (.ifCond .lt 10, 3) := by decide +kernel
theorem d_Mod_run_9 : decode b_Mod_run 9 = .ok (.iload_n 1, 1) := by decide +kernel
theorem d_Mod_run_10 : decode b_Mod_run 10 = .ok (.sipush 5000, 3) := by decide +kernel
theorem d_Mod_run_13 : decode b_Mod_run 13 = .ok (.if_icmp .le 5, 3) := by decide +kernel
theorem d_Mod_run_16 : decode b_Mod_run 16 = .ok (.iconst 0, 1) := by decide +kernel
theorem d_Mod_run_17 : decode b_Mod_run 17 = .ok (.ireturn, 1) := by decide +kernel
theorem d_Mod_run_18 : decode b_Mod_run 18 = .ok (.iconst 0, 1) := by decide +kernel
theorem d_Mod_run_19 : decode b_Mod_run 19 = .ok (.istore_n 2, 1) := by decide +kernel
theorem d_Mod_run_20 : decode b_Mod_run 20 = .ok (.iload_n 2, 1) := by decide +kernel
theorem d_Mod_run_21 : decode b_Mod_run 21 = .ok (.iload_n 1, 1) := by decide +kernel
theorem d_Mod_run_22 : decode b_Mod_run 22 = .ok (.if_icmp .ge 31, 3) := by decide +kernel
theorem d_Mod_run_25 : decode b_Mod_run 25 = .ok (.aload_n 0, 1) := by decide +kernel
theorem d_Mod_run_26 : decode b_Mod_run 26 = .ok (.getfield 76, 3) := by decide +kernel
theorem d_Mod_run_29 : decode b_Mod_run 29 = .ok (.ifCond .ne 24, 3) := by decide +kernel
theorem d_Mod_run_32 : decode b_Mod_run 32 = .ok (.aload_n 0, 1) := by decide +kernel
theorem d_Mod_run_33 : decode b_Mod_run 33 = .ok (.aload_n 0, 1) := by decide +kernel
theorem d_Mod_run_34 : decode b_Mod_run 34 = .ok (.invokevirtual 431, 3) := by decide +kernel
theorem d_Mod_run_37 : decode b_Mod_run 37 = .ok (.putfield 76, 3) := by decide +kernel
theorem d_Mod_run_40 : decode b_Mod_run 40 = .ok (.aload_n 0, 1) := by decide +kernel
theorem d_Mod_run_41 : decode b_Mod_run 41 = .ok (.getfield 76, 3) := by decide +kernel
theorem d_Mod_run_44 : decode b_Mod_run 44 = .ok (.ifCond .ne (-24), 3) := by decide +kernel
theorem d_Mod_run_47 : decode b_Mod_run 47 = .ok (.iinc 2 1, 3) := by decide +kernel
theorem d_Mod_run_50 : decode b_Mod_run 50 = .ok (.goto (-30), 3) := by decide +kernel
theorem d_Mod_run_53 : decode b_Mod_run 53 = .ok (.iload_n 2, 1) := by decide +kernel
theorem d_Mod_run_54 : decode b_Mod_run 54 = .ok (.ireturn, 1) := by decide +kernel
theorem d_Mod_special_0 : decode b_Mod_special 0 = .ok (.aload_n 0, 1) := by decide +kernel
theorem d_Mod_special_1 : decode b_Mod_special 1 = .ok (.iconst 0, 1) := by decide +kernel
theorem d_Mod_special_2 : decode b_Mod_special 2 = .ok (.putfield 58, 3) := by decide +kernel
theorem d_Mod_special_5 : decode b_Mod_special 5 = .ok (.iload_n 1, 1) := by decide +kernel
theorem d_Mod_special_6 : decode b_Mod_special 6 = .ok (.i2l, 1) := by decide +kernel
theorem d_Mod_special_7 : decode b_Mod_special 7 = .ok (.invokestatic 285, 3) := by decide +kernel
theorem d_Mod_special_10 : decode b_Mod_special 10 = .ok (.ifCond .eq 11, 3) := by decide +kernel
theorem d_Mod_special_13 : decode b_Mod_special 13 = .ok (.aload_n 0, 1) := by decide +kernel
theorem d_Mod_special_14 : decode b_Mod_special 14 = .ok (.iload_n 1, 1) := by decide +kernel
theorem d_Mod_special_15 : decode b_Mod_special 15 = .ok (.invokevirtual 422, 3) := by decide +kernel
theorem d_Mod_special_18 : decode b_Mod_special 18 = .ok (.goto 4, 3) := by decide +kernel
theorem d_Mod_special_21 : decode b_Mod_special 21 = .ok (.lconst 0, 1) := by decide +kernel
theorem d_Mod_special_22 : decode b_Mod_special 22 = .ok (.lreturn, 1) := by decide +kernel
theorem d_Mod_stopped_0 : decode b_Mod_stopped 0 = .ok (.aload_n 0, 1) := by decide +kernel
theorem d_Mod_stopped_1 : decode b_Mod_stopped 1 = .ok (.iconst 0, 1) := by decide +kernel
theorem d_Mod_stopped_2 : decode b_Mod_stopped 2 = .ok (.putfield 58, 3) := by decide +kernel
theorem d_Mod_stopped_5 : decode b_Mod_stopped 5 = .ok (.aload_n 0, 1) := by decide +kernel
theorem d_Mod_stopped_6 : decode b_Mod_stopped 6 = .ok (.getfield 76, 3) := by decide +kernel
theorem d_Mod_stopped_9 : decode b_Mod_stopped 9 = .ok (.ireturn, 1) := by decide +kernel
theorem d_Mod_store_0 : decode b_Mod_store 0 = .ok (.aload_n 0, 1) := by decide +kernel
theorem d_Mod_store_1 : decode b_Mod_store 1 = .ok (.iconst 0, 1) := by decide +kernel
theorem d_Mod_store_2 : decode b_Mod_store 2 = .ok (.putfield 58, 3) := by decide +kernel
theorem d_Mod_store_5 : decode b_Mod_store 5 = .ok (.iload_n 1, 1) := by decide +kernel
theorem d_Mod_store_6 : decode b_Mod_store 6 = .ok (.ifCond .lt 17, 3) := by decide +kernel
theorem d_Mod_store_9 : decode b_Mod_store 9 = .ok (.iload_n 1, 1) := by decide +kernel
theorem d_Mod_store_10 : decode b_Mod_store 10 = .ok (.sipush 4088, 3) := by decide +kernel
theorem d_Mod_store_13 : decode b_Mod_store 13 = .ok (.if_icmp .gt 10, 3) := by decide +kernel
theorem d_Mod_store_16 : decode b_Mod_store 16 = .ok (.iload_n 1, 1) := by decide +kernel
theorem d_Mod_store_17 : decode b_Mod_store 17 = .ok (.bipush 8, 2) := by decide +kernel
theorem d_Mod_store_19 : decode b_Mod_store 19 = .ok (.irem, 1) := by decide +kernel
theorem d_Mod_store_20 : decode b_Mod_store 20 = .ok (.ifCond .eq 5, 3) := by decide +kernel
theorem d_Mod_store_23 : decode b_Mod_store 23 = .ok (.iconst 0, 1) := by decide +kernel
theorem d_Mod_store_24 : decode b_Mod_store 24 = .ok (.ireturn, 1) := by decide +kernel
theorem d_Mod_store_25 : decode b_Mod_store 25 = .ok (.iconst 0, 1) := by decide +kernel
theorem d_Mod_store_26 : decode b_Mod_store 26 = .ok (.istore 4, 2) := by decide +kernel
theorem d_Mod_store_28 : decode b_Mod_store 28 = .ok (.iload 4, 2) := by decide +kernel
theorem d_Mod_store_30 : decode b_Mod_store 30 = .ok (.iconst 4, 1) := by decide +kernel
theorem d_Mod_store_31 : decode b_Mod_store 31 = .ok (.if_icmp .ge 57, 3) := by decide +kernel
theorem d_Mod_store_34 : decode b_Mod_store 34 = .ok (.aload_n 0, 1) := by decide +kernel
theorem d_Mod_store_35 : decode b_Mod_store 35 = .ok (.getfield 37, 3) := by decide +kernel
theorem d_Mod_store_38 : decode b_Mod_store 38 = .ok (.iload_n 1, 1) := by decide +kernel
theorem d_Mod_store_39 : decode b_Mod_store 39 = .ok (.iload 4, 2) := by decide +kernel
theorem d_Mod_store_41 : decode b_Mod_store 41 = .ok (.iadd, 1) := by decide +kernel
theorem d_Mod_store_42 : decode b_Mod_store 42 = .ok (.iload_n 2, 1) := by decide +kernel
theorem d_Mod_store_43 : decode b_Mod_store 43 = .ok (.bipush 24, 2) := by decide +kernel
theorem d_Mod_store_45 : decode b_Mod_store 45 = .ok (.bipush 8, 2) := by decide +kernel
theorem d_Mod_store_47 : decode b_Mod_store 47 = .ok (.iload 4, 2) := by decide +kernel
theorem d_Mod_store_49 : decode b_Mod_store 49 = .ok (.imul, 1) := by decide +kernel
theorem d_Mod_store_50 : decode b_Mod_store 50 = .ok (.isub, 1) := by decide +kernel
theorem d_Mod_store_51 : decode b_Mod_store 51 = .ok (.ishr, 1) := by decide +kernel
theorem d_Mod_store_52 : decode b_Mod_store 52 = .ok (.sipush 255, 3) := by decide +kernel
theorem d_Mod_store_55 : decode b_Mod_store 55 = .ok (.iand, 1) := by decide +kernel
theorem d_Mod_store_56 : decode b_Mod_store 56 = .ok (.iastore, 1) := by decide +kernel
theorem d_Mod_store_57 : decode b_Mod_store 57 = .ok (.aload_n 0, 1) := by decide +kernel
theorem d_Mod_store_58 : decode b_Mod_store 58 = .ok (.getfield 37, 3) := by decide +kernel
theorem d_Mod_store_61 : decode b_Mod_store 61 = .ok (.iload_n 1, 1) := by decide +kernel
theorem d_Mod_store_62 : decode b_Mod_store 62 = .ok (.iconst 4, 1) := by decide +kernel
theorem d_Mod_store_63 : decode b_Mod_store 63 = .ok (.iadd, 1) := by decide +kernel
theorem d_Mod_store_64 : decode b_Mod_store 64 = .ok (.iload 4, 2) := by decide +kernel
theorem d_Mod_store_66 : decode b_Mod_store 66 = .ok (.iadd, 1) := by decide +kernel
theorem d_Mod_store_67 : decode b_Mod_store 67 = .ok (.iload_n 3, 1) := by decide +kernel
theorem d_Mod_store_68 : decode b_Mod_store 68 = .ok (.bipush 24, 2) := by decide +kernel
theorem d_Mod_store_70 : decode b_Mod_store 70 = .ok (.bipush 8, 2) := by decide +kernel
theorem d_Mod_store_72 : decode b_Mod_store 72 = .ok (.iload 4, 2) := by decide +kernel
theorem d_Mod_store_74 : decode b_Mod_store 74 = .ok (.imul, 1) := by decide +kernel
theorem d_Mod_store_75 : decode b_Mod_store 75 = .ok (.isub, 1) := by decide +kernel
theorem d_Mod_store_76 : decode b_Mod_store 76 = .ok (.ishr, 1) := by decide +kernel
theorem d_Mod_store_77 : decode b_Mod_store 77 = .ok (.sipush 255, 3) := by decide +kernel
theorem d_Mod_store_80 : decode b_Mod_store 80 = .ok (.iand, 1) := by decide +kernel
theorem d_Mod_store_81 : decode b_Mod_store 81 = .ok (.iastore, 1) := by decide +kernel
theorem d_Mod_store_82 : decode b_Mod_store 82 = .ok (.iinc 4 1, 3) := by decide +kernel
theorem d_Mod_store_85 : decode b_Mod_store 85 = .ok (.goto (-57), 3) := by decide +kernel
theorem d_Mod_store_88 : decode b_Mod_store 88 = .ok (.iconst 1, 1) := by decide +kernel
theorem d_Mod_store_89 : decode b_Mod_store 89 = .ok (.ireturn, 1) := by decide +kernel
theorem d_Mod_taken_0 : decode b_Mod_taken 0 = .ok (.aload_n 0, 1) := by decide +kernel
theorem d_Mod_taken_1 : decode b_Mod_taken 1 = .ok (.iconst 0, 1) := by decide +kernel
theorem d_Mod_taken_2 : decode b_Mod_taken 2 = .ok (.putfield 58, 3) := by decide +kernel
theorem d_Mod_taken_5 : decode b_Mod_taken 5 = .ok (.iload_n 1, 1) := by decide +kernel
theorem d_Mod_taken_6 : decode b_Mod_taken 6 = .ok (.ifCond .ne 10, 3) := by decide +kernel
theorem d_Mod_taken_9 : decode b_Mod_taken 9 = .ok (.aload_n 0, 1) := by decide +kernel
theorem d_Mod_taken_10 : decode b_Mod_taken 10 = .ok (.getfield 70, 3) := by decide +kernel
theorem d_Mod_taken_13 : decode b_Mod_taken 13 = .ok (.goto 28, 3) := by decide +kernel
theorem d_Mod_taken_16 : decode b_Mod_taken 16 = .ok (.iload_n 1, 1) := by decide +kernel
theorem d_Mod_taken_17 : decode b_Mod_taken 17 = .ok (.iconst 1, 1) := by decide +kernel
theorem d_Mod_taken_18 : decode b_Mod_taken 18 = .ok (.if_icmp .ne 10, 3) := by decide +kernel
theorem d_Mod_taken_21 : decode b_Mod_taken 21 = .ok (.aload_n 0, 1) := by decide +kernel
theorem d_Mod_taken_22 : decode b_Mod_taken 22 = .ok (.getfield 73, 3) := by decide +kernel
theorem d_Mod_taken_25 : decode b_Mod_taken 25 = .ok (.goto 16, 3) := by decide +kernel
theorem d_Mod_taken_28 : decode b_Mod_taken 28 = .ok (.iload_n 1, 1) := by decide +kernel
theorem d_Mod_taken_29 : decode b_Mod_taken 29 = .ok (.iconst 2, 1) := by decide +kernel
theorem d_Mod_taken_30 : decode b_Mod_taken 30 = .ok (.if_icmp .ne 10, 3) := by decide +kernel
theorem d_Mod_taken_33 : decode b_Mod_taken 33 = .ok (.aload_n 0, 1) := by decide +kernel
theorem d_Mod_taken_34 : decode b_Mod_taken 34 = .ok (.getfield 61, 3) := by decide +kernel
theorem d_Mod_taken_37 : decode b_Mod_taken 37 = .ok (.goto 4, 3) := by decide +kernel
theorem d_Mod_taken_40 : decode b_Mod_taken 40 = .ok (.iconst (-1), 1) := by decide +kernel
theorem d_Mod_taken_41 : decode b_Mod_taken 41 = .ok (.ireturn, 1) := by decide +kernel
