abbrev b_Mod_init : ByteArray := prog_14_method_1_code
abbrev b_Mod_setBack : ByteArray := prog_14_method_3_code
abbrev y_Mod_init : MethodName := ⟨"LittleMixModel", "<init>", "()V"⟩
abbrev y_Mod_setBack : MethodName := ⟨"LittleMixModel", "setBack", "()V"⟩
theorem p_Mod_setBack : y_Mod_setBack.cls ≠ "java/lang/invoke/MethodHandle" ∧ y_Mod_setBack.cls ≠ "java/lang/invoke/VarHandle" ∧ (parseMethodDescriptor y_Mod_setBack.desc).map (fun d => d.parameters.length) = some 0 := by decide +kernel
theorem k_15 : (Jvm.Cond.initialized "LittleMixModel") ∈ mx_T := List.mem_filter.mpr ⟨List.mem_append_right _ ((List.mem_append_left _ (List.mem_of_getElem? (l := tables_1_1) (i := 15) (by decide +kernel)))), rfl⟩
theorem k_972 : (Jvm.Cond.methodLink "LittleMixModel" (1 : Nat) ({ cls := "java/lang/Object", name := "<init>", desc := "()V" } : Jvm.MethodName)) ∈ mx_T := List.mem_filter.mpr ⟨List.mem_append_right _ ((List.mem_append_right _ (List.mem_append_right _ (List.mem_append_right _ (List.mem_append_right _ (List.mem_append_left _ (List.mem_of_getElem? (l := tables_1_5) (i := 12) (by decide +kernel)))))))), rfl⟩
theorem k_973 : (Jvm.Cond.methodLink "LittleMixModel" (55 : Nat) ({ cls := "LittleMixModel", name := "setBack", desc := "()V" } : Jvm.MethodName)) ∈ mx_T := List.mem_filter.mpr ⟨List.mem_append_right _ ((List.mem_append_right _ (List.mem_append_right _ (List.mem_append_right _ (List.mem_append_right _ (List.mem_append_left _ (List.mem_of_getElem? (l := tables_1_5) (i := 13) (by decide +kernel)))))))), rfl⟩
theorem k_975 : (Jvm.Cond.instanceMethod ({ cls := "LittleMixModel", name := "setBack", desc := "()V" } : Jvm.MethodName)) ∈ mx_T := List.mem_filter.mpr ⟨List.mem_append_right _ ((List.mem_append_right _ (List.mem_append_right _ (List.mem_append_right _ (List.mem_append_right _ (List.mem_append_left _ (List.mem_of_getElem? (l := tables_1_5) (i := 15) (by decide +kernel)))))))), rfl⟩
theorem k_976 : (Jvm.Cond.code ({ cls := "LittleMixModel", name := "setBack", desc := "()V" } : Jvm.MethodName) prog_14_method_3_code (2 : Nat) (Option.none : Option Jvm.ClassFile.FieldType)) ∈ mx_T := List.mem_filter.mpr ⟨List.mem_append_right _ ((List.mem_append_right _ (List.mem_append_right _ (List.mem_append_right _ (List.mem_append_right _ (List.mem_append_left _ (List.mem_of_getElem? (l := tables_1_5) (i := 16) rfl))))))), rfl⟩
theorem k_977 : (Jvm.Cond.constantLong "LittleMixModel" (79 : Nat) (256 : Int64)) ∈ mx_T := List.mem_filter.mpr ⟨List.mem_append_right _ ((List.mem_append_right _ (List.mem_append_right _ (List.mem_append_right _ (List.mem_append_right _ (List.mem_append_left _ (List.mem_of_getElem? (l := tables_1_5) (i := 17) (by decide +kernel)))))))), rfl⟩
theorem k_979 : (Jvm.Cond.fieldLink "LittleMixModel" (7 : Nat) "LittleMixModel" "tape" "[I") ∈ mx_T := List.mem_filter.mpr ⟨List.mem_append_right _ ((List.mem_append_right _ (List.mem_append_right _ (List.mem_append_right _ (List.mem_append_right _ (List.mem_append_left _ (List.mem_of_getElem? (l := tables_1_5) (i := 19) (by decide +kernel)))))))), rfl⟩
theorem k_980 : (Jvm.Cond.fieldLink "LittleMixModel" (13 : Nat) "LittleMixModel" "text" "[I") ∈ mx_T := List.mem_filter.mpr ⟨List.mem_append_right _ ((List.mem_append_right _ (List.mem_append_right _ (List.mem_append_right _ (List.mem_append_right _ (List.mem_append_left _ (List.mem_of_getElem? (l := tables_1_5) (i := 20) (by decide +kernel)))))))), rfl⟩
theorem k_983 : (Jvm.Cond.fieldLink "LittleMixModel" (16 : Nat) "LittleMixModel" "illAt" "I") ∈ mx_T := List.mem_filter.mpr ⟨List.mem_append_right _ ((List.mem_append_right _ (List.mem_append_right _ (List.mem_append_right _ (List.mem_append_right _ (List.mem_append_left _ (List.mem_of_getElem? (l := tables_1_5) (i := 23) (by decide +kernel)))))))), rfl⟩
theorem k_984 : (Jvm.Cond.fieldLink "LittleMixModel" (20 : Nat) "LittleMixModel" "labelAt" "[I") ∈ mx_T := List.mem_filter.mpr ⟨List.mem_append_right _ ((List.mem_append_right _ (List.mem_append_right _ (List.mem_append_right _ (List.mem_append_right _ (List.mem_append_left _ (List.mem_of_getElem? (l := tables_1_5) (i := 24) (by decide +kernel)))))))), rfl⟩
theorem k_985 : (Jvm.Cond.fieldLink "LittleMixModel" (23 : Nat) "LittleMixModel" "labelLength" "[I") ∈ mx_T := List.mem_filter.mpr ⟨List.mem_append_right _ ((List.mem_append_right _ (List.mem_append_right _ (List.mem_append_right _ (List.mem_append_right _ (List.mem_append_left _ (List.mem_of_getElem? (l := tables_1_5) (i := 25) (by decide +kernel)))))))), rfl⟩
theorem k_986 : (Jvm.Cond.fieldLink "LittleMixModel" (26 : Nat) "LittleMixModel" "labelIs" "[J") ∈ mx_T := List.mem_filter.mpr ⟨List.mem_append_right _ ((List.mem_append_right _ (List.mem_append_right _ (List.mem_append_right _ (List.mem_append_right _ (List.mem_append_left _ (List.mem_of_getElem? (l := tables_1_5) (i := 26) (by decide +kernel)))))))), rfl⟩
theorem k_987 : (Jvm.Cond.fieldLink "LittleMixModel" (30 : Nat) "LittleMixModel" "labelRegister" "[Z") ∈ mx_T := List.mem_filter.mpr ⟨List.mem_append_right _ ((List.mem_append_right _ (List.mem_append_right _ (List.mem_append_right _ (List.mem_append_right _ (List.mem_append_left _ (List.mem_of_getElem? (l := tables_1_5) (i := 27) (by decide +kernel)))))))), rfl⟩
theorem k_989 : (Jvm.Cond.fieldLink "LittleMixModel" (34 : Nat) "LittleMixModel" "kept" "[J") ∈ mx_T := List.mem_filter.mpr ⟨List.mem_append_right _ ((List.mem_append_right _ (List.mem_append_right _ (List.mem_append_right _ (List.mem_append_right _ (List.mem_append_left _ (List.mem_of_getElem? (l := tables_1_5) (i := 29) (by decide +kernel)))))))), rfl⟩
theorem k_991 : (Jvm.Cond.fieldLink "LittleMixModel" (37 : Nat) "LittleMixModel" "memory" "[I") ∈ mx_T := List.mem_filter.mpr ⟨List.mem_append_right _ ((List.mem_append_right _ (List.mem_append_right _ (List.mem_append_right _ (List.mem_append_right _ (List.mem_append_left _ (List.mem_of_getElem? (l := tables_1_5) (i := 31) (by decide +kernel)))))))), rfl⟩
theorem k_992 : (Jvm.Cond.fieldLink "LittleMixModel" (40 : Nat) "LittleMixModel" "made" "[I") ∈ mx_T := List.mem_filter.mpr ⟨List.mem_append_right _ ((List.mem_append_right _ (List.mem_append_right _ (List.mem_append_right _ (List.mem_append_right _ (List.mem_append_left _ (List.mem_of_getElem? (l := tables_1_5) (i := 32) (by decide +kernel)))))))), rfl⟩
theorem k_993 : (Jvm.Cond.fieldLink "LittleMixModel" (43 : Nat) "LittleMixModel" "\x72" "[J") ∈ mx_T := List.mem_filter.mpr ⟨List.mem_append_right _ ((List.mem_append_right _ (List.mem_append_right _ (List.mem_append_right _ (List.mem_append_right _ (List.mem_append_left _ (List.mem_of_getElem? (l := tables_1_5) (i := 33) (by decide +kernel)))))))), rfl⟩
theorem k_994 : (Jvm.Cond.fieldLink "LittleMixModel" (46 : Nat) "LittleMixModel" "special" "[J") ∈ mx_T := List.mem_filter.mpr ⟨List.mem_append_right _ ((List.mem_append_right _ (List.mem_append_right _ (List.mem_append_right _ (List.mem_append_right _ (List.mem_append_left _ (List.mem_of_getElem? (l := tables_1_5) (i := 34) (by decide +kernel)))))))), rfl⟩
theorem k_995 : (Jvm.Cond.fieldLink "LittleMixModel" (49 : Nat) "LittleMixModel" "stack" "[J") ∈ mx_T := List.mem_filter.mpr ⟨List.mem_append_right _ ((List.mem_append_right _ (List.mem_append_right _ (List.mem_append_right _ (List.mem_append_right _ (List.mem_append_left _ (List.mem_of_getElem? (l := tables_1_5) (i := 35) (by decide +kernel)))))))), rfl⟩
theorem k_996 : (Jvm.Cond.fieldLink "LittleMixModel" (52 : Nat) "LittleMixModel" "aside" "[J") ∈ mx_T := List.mem_filter.mpr ⟨List.mem_append_right _ ((List.mem_append_right _ (List.mem_append_right _ (List.mem_append_right _ (List.mem_append_right _ (List.mem_append_left _ (List.mem_of_getElem? (l := tables_1_5) (i := 36) (by decide +kernel)))))))), rfl⟩
theorem k_997 : (Jvm.Cond.fieldLink "LittleMixModel" (61 : Nat) "LittleMixModel" "stacked" "I") ∈ mx_T := List.mem_filter.mpr ⟨List.mem_append_right _ ((List.mem_append_right _ (List.mem_append_right _ (List.mem_append_right _ (List.mem_append_right _ (List.mem_append_left _ (List.mem_of_getElem? (l := tables_1_5) (i := 37) (by decide +kernel)))))))), rfl⟩
theorem k_998 : (Jvm.Cond.fieldLink "LittleMixModel" (64 : Nat) "LittleMixModel" "local" "I") ∈ mx_T := List.mem_filter.mpr ⟨List.mem_append_right _ ((List.mem_append_right _ (List.mem_append_right _ (List.mem_append_right _ (List.mem_append_right _ (List.mem_append_left _ (List.mem_of_getElem? (l := tables_1_5) (i := 38) (by decide +kernel)))))))), rfl⟩
theorem k_999 : (Jvm.Cond.fieldLink "LittleMixModel" (67 : Nat) "LittleMixModel" "global" "I") ∈ mx_T := List.mem_filter.mpr ⟨List.mem_append_right _ ((List.mem_append_right _ (List.mem_append_right _ (List.mem_append_right _ (List.mem_append_right _ (List.mem_append_left _ (List.mem_of_getElem? (l := tables_1_5) (i := 39) (by decide +kernel)))))))), rfl⟩
theorem k_1000 : (Jvm.Cond.fieldLink "LittleMixModel" (70 : Nat) "LittleMixModel" "oops" "I") ∈ mx_T := List.mem_filter.mpr ⟨List.mem_append_right _ ((List.mem_append_right _ (List.mem_append_right _ (List.mem_append_right _ (List.mem_append_right _ (List.mem_append_left _ (List.mem_of_getElem? (l := tables_1_5) (i := 40) (by decide +kernel)))))))), rfl⟩
theorem k_1001 : (Jvm.Cond.fieldLink "LittleMixModel" (73 : Nat) "LittleMixModel" "mems" "I") ∈ mx_T := List.mem_filter.mpr ⟨List.mem_append_right _ ((List.mem_append_right _ (List.mem_append_right _ (List.mem_append_right _ (List.mem_append_right _ (List.mem_append_left _ (List.mem_of_getElem? (l := tables_1_5) (i := 41) (by decide +kernel)))))))), rfl⟩
theorem k_1002 : (Jvm.Cond.fieldLink "LittleMixModel" (76 : Nat) "LittleMixModel" "stop" "I") ∈ mx_T := List.mem_filter.mpr ⟨List.mem_append_right _ ((List.mem_append_right _ (List.mem_append_right _ (List.mem_append_right _ (List.mem_append_right _ (List.mem_append_left _ (List.mem_of_getElem? (l := tables_1_5) (i := 42) (by decide +kernel)))))))), rfl⟩
theorem k_1003 : (Jvm.Cond.fieldLink "LittleMixModel" (81 : Nat) "LittleMixModel" "next" "J") ∈ mx_T := List.mem_filter.mpr ⟨List.mem_append_right _ ((List.mem_append_right _ (List.mem_append_right _ (List.mem_append_right _ (List.mem_append_right _ (List.mem_append_left _ (List.mem_of_getElem? (l := tables_1_5) (i := 43) (by decide +kernel)))))))), rfl⟩
theorem sl_Mod_setBack : Cond.selects y_Mod_setBack.cls y_Mod_setBack y_Mod_setBack ∈ mx_T := List.mem_filter.mpr ⟨List.mem_append_left _ (by decide +kernel), by decide +kernel⟩
theorem d_Mod_init_0 : decode b_Mod_init 0 = .ok (.aload_n 0, 1) := by decide +kernel
theorem d_Mod_init_1 : decode b_Mod_init 1 = .ok (.invokespecial 1, 3) := by decide +kernel
theorem d_Mod_init_4 : decode b_Mod_init 4 = .ok (.aload_n 0, 1) := by decide +kernel
theorem d_Mod_init_5 : decode b_Mod_init 5 = .ok (.sipush 1600, 3) := by decide +kernel
theorem d_Mod_init_8 : decode b_Mod_init 8 = .ok (.newarray .int, 2) := by decide +kernel
theorem d_Mod_init_10 : decode b_Mod_init 10 = .ok (.putfield 7, 3) := by decide +kernel
theorem d_Mod_init_13 : decode b_Mod_init 13 = .ok (.aload_n 0, 1) := by decide +kernel
theorem d_Mod_init_14 : decode b_Mod_init 14 = .ok (.sipush 1600, 3) := by decide +kernel
theorem d_Mod_init_17 : decode b_Mod_init 17 = .ok (.newarray .int, 2) := by decide +kernel
theorem d_Mod_init_19 : decode b_Mod_init 19 = .ok (.putfield 13, 3) := by decide +kernel
theorem d_Mod_init_22 : decode b_Mod_init 22 = .ok (.aload_n 0, 1) := by decide +kernel
theorem d_Mod_init_23 : decode b_Mod_init 23 = .ok (.iconst (-1), 1) := by decide +kernel
theorem d_Mod_init_24 : decode b_Mod_init 24 = .ok (.putfield 16, 3) := by decide +kernel
theorem d_Mod_init_27 : decode b_Mod_init 27 = .ok (.aload_n 0, 1) := by decide +kernel
theorem d_Mod_init_28 : decode b_Mod_init 28 = .ok (.bipush 41, 2) := by decide +kernel
theorem d_Mod_init_30 : decode b_Mod_init 30 = .ok (.newarray .int, 2) := by decide +kernel
theorem d_Mod_init_32 : decode b_Mod_init 32 = .ok (.putfield 20, 3) := by decide +kernel
theorem d_Mod_init_35 : decode b_Mod_init 35 = .ok (.aload_n 0, 1) := by decide +kernel
theorem d_Mod_init_36 : decode b_Mod_init 36 = .ok (.bipush 41, 2) := by decide +kernel
theorem d_Mod_init_38 : decode b_Mod_init 38 = .ok (.newarray .int, 2) := by decide +kernel
theorem d_Mod_init_40 : decode b_Mod_init 40 = .ok (.putfield 23, 3) := by decide +kernel
theorem d_Mod_init_43 : decode b_Mod_init 43 = .ok (.aload_n 0, 1) := by decide +kernel
theorem d_Mod_init_44 : decode b_Mod_init 44 = .ok (.bipush 41, 2) := by decide +kernel
theorem d_Mod_init_46 : decode b_Mod_init 46 = .ok (.newarray .long, 2) := by decide +kernel
theorem d_Mod_init_48 : decode b_Mod_init 48 = .ok (.putfield 26, 3) := by decide +kernel
theorem d_Mod_init_51 : decode b_Mod_init 51 = .ok (.aload_n 0, 1) := by decide +kernel
theorem d_Mod_init_52 : decode b_Mod_init 52 = .ok (.bipush 41, 2) := by decide +kernel
theorem d_Mod_init_54 : decode b_Mod_init 54 = .ok (.newarray .boolean, 2) := by decide +kernel
theorem d_Mod_init_56 : decode b_Mod_init 56 = .ok (.putfield 30, 3) := by decide +kernel
theorem d_Mod_init_59 : decode b_Mod_init 59 = .ok (.aload_n 0, 1) := by decide +kernel
theorem d_Mod_init_60 : decode b_Mod_init 60 = .ok (.bipush 40, 2) := by decide +kernel
theorem d_Mod_init_62 : decode b_Mod_init 62 = .ok (.newarray .long, 2) := by decide +kernel
theorem d_Mod_init_64 : decode b_Mod_init 64 = .ok (.putfield 34, 3) := by decide +kernel
theorem d_Mod_init_67 : decode b_Mod_init 67 = .ok (.aload_n 0, 1) := by decide +kernel
theorem d_Mod_init_68 : decode b_Mod_init 68 = .ok (.sipush 4096, 3) := by decide +kernel
theorem d_Mod_init_71 : decode b_Mod_init 71 = .ok (.newarray .int, 2) := by decide +kernel
theorem d_Mod_init_73 : decode b_Mod_init 73 = .ok (.putfield 37, 3) := by decide +kernel
theorem d_Mod_init_76 : decode b_Mod_init 76 = .ok (.aload_n 0, 1) := by decide +kernel
theorem d_Mod_init_77 : decode b_Mod_init 77 = .ok (.sipush 4096, 3) := by decide +kernel
theorem d_Mod_init_80 : decode b_Mod_init 80 = .ok (.newarray .int, 2) := by decide +kernel
theorem d_Mod_init_82 : decode b_Mod_init 82 = .ok (.putfield 40, 3) := by decide +kernel
theorem d_Mod_init_85 : decode b_Mod_init 85 = .ok (.aload_n 0, 1) := by decide +kernel
theorem d_Mod_init_86 : decode b_Mod_init 86 = .ok (.sipush 256, 3) := by decide +kernel
theorem d_Mod_init_89 : decode b_Mod_init 89 = .ok (.newarray .long, 2) := by decide +kernel
theorem d_Mod_init_91 : decode b_Mod_init 91 = .ok (.putfield 43, 3) := by decide +kernel
theorem d_Mod_init_94 : decode b_Mod_init 94 = .ok (.aload_n 0, 1) := by decide +kernel
theorem d_Mod_init_95 : decode b_Mod_init 95 = .ok (.bipush 32, 2) := by decide +kernel
theorem d_Mod_init_97 : decode b_Mod_init 97 = .ok (.newarray .long, 2) := by decide +kernel
theorem d_Mod_init_99 : decode b_Mod_init 99 = .ok (.putfield 46, 3) := by decide +kernel
theorem d_Mod_init_102 : decode b_Mod_init 102 = .ok (.aload_n 0, 1) := by decide +kernel
theorem d_Mod_init_103 : decode b_Mod_init 103 = .ok (.sipush 300, 3) := by decide +kernel
theorem d_Mod_init_106 : decode b_Mod_init 106 = .ok (.newarray .long, 2) := by decide +kernel
theorem d_Mod_init_108 : decode b_Mod_init 108 = .ok (.putfield 49, 3) := by decide +kernel
theorem d_Mod_init_111 : decode b_Mod_init 111 = .ok (.aload_n 0, 1) := by decide +kernel
theorem d_Mod_init_112 : decode b_Mod_init 112 = .ok (.sipush 600, 3) := by decide +kernel
theorem d_Mod_init_115 : decode b_Mod_init 115 = .ok (.newarray .long, 2) := by decide +kernel
theorem d_Mod_init_117 : decode b_Mod_init 117 = .ok (.putfield 52, 3) := by decide +kernel
theorem d_Mod_init_120 : decode b_Mod_init 120 = .ok (.aload_n 0, 1) := by decide +kernel
theorem d_Mod_init_121 : decode b_Mod_init 121 = .ok (.invokevirtual 55, 3) := by decide +kernel
theorem d_Mod_init_124 : decode b_Mod_init 124 = .ok (.return_, 1) := by decide +kernel
theorem d_Mod_setBack_0 : decode b_Mod_setBack 0 = .ok (.iconst 0, 1) := by decide +kernel
theorem d_Mod_setBack_1 : decode b_Mod_setBack 1 = .ok (.istore_n 1, 1) := by decide +kernel
theorem d_Mod_setBack_2 : decode b_Mod_setBack 2 = .ok (.iload_n 1, 1) := by decide +kernel
theorem d_Mod_setBack_3 : decode b_Mod_setBack 3 = .ok (.sipush 256, 3) := by decide +kernel
theorem d_Mod_setBack_6 : decode b_Mod_setBack 6 = .ok (.if_icmp .ge 16, 3) := by decide +kernel
theorem d_Mod_setBack_9 : decode b_Mod_setBack 9 = .ok (.aload_n 0, 1) := by decide +kernel
theorem d_Mod_setBack_10 : decode b_Mod_setBack 10 = .ok (.getfield 43, 3) := by decide +kernel
theorem d_Mod_setBack_13 : decode b_Mod_setBack 13 = .ok (.iload_n 1, 1) := by decide +kernel
theorem d_Mod_setBack_14 : decode b_Mod_setBack 14 = .ok (.lconst 0, 1) := by decide +kernel
theorem d_Mod_setBack_15 : decode b_Mod_setBack 15 = .ok (.lastore, 1) := by decide +kernel
theorem d_Mod_setBack_16 : decode b_Mod_setBack 16 = .ok (.iinc 1 1, 3) := by decide +kernel
theorem d_Mod_setBack_19 : decode b_Mod_setBack 19 = .ok (.goto (-17), 3) := by decide +kernel
theorem d_Mod_setBack_22 : decode b_Mod_setBack 22 = .ok (.iconst 0, 1) := by decide +kernel
theorem d_Mod_setBack_23 : decode b_Mod_setBack 23 = .ok (.istore_n 1, 1) := by decide +kernel
theorem d_Mod_setBack_24 : decode b_Mod_setBack 24 = .ok (.iload_n 1, 1) := by decide +kernel
theorem d_Mod_setBack_25 : decode b_Mod_setBack 25 = .ok (.bipush 32, 2) := by decide +kernel
theorem d_Mod_setBack_27 : decode b_Mod_setBack 27 = .ok (.if_icmp .ge 16, 3) := by decide +kernel
theorem d_Mod_setBack_30 : decode b_Mod_setBack 30 = .ok (.aload_n 0, 1) := by decide +kernel
theorem d_Mod_setBack_31 : decode b_Mod_setBack 31 = .ok (.getfield 46, 3) := by decide +kernel
theorem d_Mod_setBack_34 : decode b_Mod_setBack 34 = .ok (.iload_n 1, 1) := by decide +kernel
theorem d_Mod_setBack_35 : decode b_Mod_setBack 35 = .ok (.lconst 0, 1) := by decide +kernel
theorem d_Mod_setBack_36 : decode b_Mod_setBack 36 = .ok (.lastore, 1) := by decide +kernel
theorem d_Mod_setBack_37 : decode b_Mod_setBack 37 = .ok (.iinc 1 1, 3) := by decide +kernel
theorem d_Mod_setBack_40 : decode b_Mod_setBack 40 = .ok (.goto (-16), 3) := by decide +kernel
theorem d_Mod_setBack_43 : decode b_Mod_setBack 43 = .ok (.aload_n 0, 1) := by decide +kernel
theorem d_Mod_setBack_44 : decode b_Mod_setBack 44 = .ok (.iconst 0, 1) := by decide +kernel
theorem d_Mod_setBack_45 : decode b_Mod_setBack 45 = .ok (.putfield 61, 3) := by decide +kernel
theorem d_Mod_setBack_48 : decode b_Mod_setBack 48 = .ok (.aload_n 0, 1) := by decide +kernel
theorem d_Mod_setBack_49 : decode b_Mod_setBack 49 = .ok (.iconst 0, 1) := by decide +kernel
theorem d_Mod_setBack_50 : decode b_Mod_setBack 50 = .ok (.putfield 64, 3) := by decide +kernel
theorem d_Mod_setBack_53 : decode b_Mod_setBack 53 = .ok (.aload_n 0, 1) := by decide +kernel
theorem d_Mod_setBack_54 : decode b_Mod_setBack 54 = .ok (.sipush 255, 3) := by decide +kernel
theorem d_Mod_setBack_57 : decode b_Mod_setBack 57 = .ok (.putfield 67, 3) := by decide +kernel
theorem d_Mod_setBack_60 : decode b_Mod_setBack 60 = .ok (.aload_n 0, 1) := by decide +kernel
theorem d_Mod_setBack_61 : decode b_Mod_setBack 61 = .ok (.iconst 0, 1) := by decide +kernel
theorem d_Mod_setBack_62 : decode b_Mod_setBack 62 = .ok (.putfield 70, 3) := by decide +kernel
theorem d_Mod_setBack_65 : decode b_Mod_setBack 65 = .ok (.aload_n 0, 1) := by decide +kernel
theorem d_Mod_setBack_66 : decode b_Mod_setBack 66 = .ok (.iconst 0, 1) := by decide +kernel
theorem d_Mod_setBack_67 : decode b_Mod_setBack 67 = .ok (.putfield 73, 3) := by decide +kernel
theorem d_Mod_setBack_70 : decode b_Mod_setBack 70 = .ok (.aload_n 0, 1) := by decide +kernel
theorem d_Mod_setBack_71 : decode b_Mod_setBack 71 = .ok (.iconst 0, 1) := by decide +kernel
theorem d_Mod_setBack_72 : decode b_Mod_setBack 72 = .ok (.putfield 76, 3) := by decide +kernel
theorem d_Mod_setBack_75 : decode b_Mod_setBack 75 = .ok (.aload_n 0, 1) := by decide +kernel
theorem d_Mod_setBack_76 : decode b_Mod_setBack 76 = .ok (.ldc2_w 79, 3) := by decide +kernel
theorem d_Mod_setBack_79 : decode b_Mod_setBack 79 = .ok (.putfield 81, 3) := by decide +kernel
theorem d_Mod_setBack_82 : decode b_Mod_setBack 82 = .ok (.return_, 1) := by decide +kernel
