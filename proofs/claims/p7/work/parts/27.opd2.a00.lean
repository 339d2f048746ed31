abbrev b_Opd_add : ByteArray := prog_8_method_3_code
abbrev y_Opd_add : MethodName := ⟨"LittleMix$Operands", "add", "(LLittleMix$Sum;)V"⟩
theorem k_259 : (Jvm.Cond.fieldLink "LittleMix$Operands" (37 : Nat) "LittleMix$Sum" "right" "Z") ∈ mx_T := List.mem_filter.mpr ⟨List.mem_append_right _ ((List.mem_append_right _ (List.mem_append_left _ (List.mem_of_getElem? (l := tables_1_2) (i := 19) (by decide +kernel))))), rfl⟩
theorem k_261 : (Jvm.Cond.fieldLink "LittleMix$Operands" (34 : Nat) "LittleMix$Sum" "isRegister" "Z") ∈ mx_T := List.mem_filter.mpr ⟨List.mem_append_right _ ((List.mem_append_right _ (List.mem_append_left _ (List.mem_of_getElem? (l := tables_1_2) (i := 21) (by decide +kernel))))), rfl⟩
theorem k_263 : (Jvm.Cond.fieldLink "LittleMix$Operands" (28 : Nat) "LittleMix$Sum" "value" "J") ∈ mx_T := List.mem_filter.mpr ⟨List.mem_append_right _ ((List.mem_append_right _ (List.mem_append_left _ (List.mem_of_getElem? (l := tables_1_2) (i := 23) (by decide +kernel))))), rfl⟩
theorem d_Opd_add_0 : decode b_Opd_add 0 = .ok (.aload_n 0, 1) := by decide +kernel
theorem d_Opd_add_1 : decode b_Opd_add 1 = .ok (.getfield 17, 3) := by decide +kernel
theorem d_Opd_add_4 : decode b_Opd_add 4 = .ok (.iconst 3, 1) := by decide +kernel
theorem d_Opd_add_5 : decode b_Opd_add 5 = .ok (.if_icmp .ge 29, 3) := by decide +kernel
theorem d_Opd_add_8 : decode b_Opd_add 8 = .ok (.aload_n 0, 1) := by decide +kernel
theorem d_Opd_add_9 : decode b_Opd_add 9 = .ok (.getfield 9, 3) := by decide +kernel
theorem d_Opd_add_12 : decode b_Opd_add 12 = .ok (.aload_n 0, 1) := by decide +kernel
theorem d_Opd_add_13 : decode b_Opd_add 13 = .ok (.getfield 17, 3) := by decide +kernel
theorem d_Opd_add_16 : decode b_Opd_add 16 = .ok (.aload_n 1, 1) := by decide +kernel
theorem d_Opd_add_17 : decode b_Opd_add 17 = .ok (.getfield 28, 3) := by decide +kernel
theorem d_Opd_add_20 : decode b_Opd_add 20 = .ok (.lastore, 1) := by decide +kernel
theorem d_Opd_add_21 : decode b_Opd_add 21 = .ok (.aload_n 0, 1) := by decide +kernel
theorem d_Opd_add_22 : decode b_Opd_add 22 = .ok (.getfield 13, 3) := by decide +kernel
theorem d_Opd_add_25 : decode b_Opd_add 25 = .ok (.aload_n 0, 1) := by decide +kernel
theorem d_Opd_add_26 : decode b_Opd_add 26 = .ok (.getfield 17, 3) := by decide +kernel
theorem d_Opd_add_29 : decode b_Opd_add 29 = .ok (.aload_n 1, 1) := by decide +kernel
theorem d_Opd_add_30 : decode b_Opd_add 30 = .ok (.getfield 34, 3) := by decide +kernel
theorem d_Opd_add_33 : decode b_Opd_add 33 = .ok (.bastore, 1) := by decide +kernel
theorem d_Opd_add_34 : decode b_Opd_add 34 = .ok (.aload_n 0, 1) := by decide +kernel
theorem d_Opd_add_35 : decode b_Opd_add 35 = .ok (.aload_n 0, 1) := by decide +kernel
theorem d_Opd_add_36 : decode b_Opd_add 36 = .ok (.getfield 21, 3) := by decide +kernel
theorem d_Opd_add_39 : decode b_Opd_add 39 = .ok (.ifCond .eq 14, 3) := by decide +kernel
theorem d_Opd_add_42 : decode b_Opd_add 42 = .ok (.aload_n 1, 1) := by decide +kernel
theorem d_Opd_add_43 : decode b_Opd_add 43 = .ok (.getfield 37, 3) := by decide +kernel
theorem d_Opd_add_46 : decode b_Opd_add 46 = .ok (.ifCond .eq 7, 3) := by decide +kernel
theorem d_Opd_add_49 : decode b_Opd_add 49 = .ok (.iconst 1, 1) := by decide +kernel
theorem d_Opd_add_50 : decode b_Opd_add 50 = .ok (.goto 4, 3) := by decide +kernel
theorem d_Opd_add_53 : decode b_Opd_add 53 = .ok (.iconst 0, 1) := by decide +kernel
theorem d_Opd_add_54 : decode b_Opd_add 54 = .ok (.putfield 21, 3) := by decide +kernel
theorem d_Opd_add_57 : decode b_Opd_add 57 = .ok (.aload_n 0, 1) := by decide +kernel
theorem d_Opd_add_58 : decode b_Opd_add 58 = .ok (.aload_n 0, 1) := by decide +kernel
theorem d_Opd_add_59 : decode b_Opd_add 59 = .ok (.getfield 25, 3) := by decide +kernel
theorem d_Opd_add_62 : decode b_Opd_add 62 = .ok (.ifCond .ne 10, 3) := by decide +kernel
theorem d_Opd_add_65 : decode b_Opd_add 65 = .ok (.aload_n 1, 1) := by decide +kernel
theorem d_Opd_add_66 : decode b_Opd_add 66 = .ok (.getfield 34, 3) := by decide +kernel
theorem d_Opd_add_69 : decode b_Opd_add 69 = .ok (.ifCond .eq 7, 3) := by decide +kernel
theorem d_Opd_add_72 : decode b_Opd_add 72 = .ok (.iconst 1, 1) := by decide +kernel
theorem d_Opd_add_73 : decode b_Opd_add 73 = .ok (.goto 4, 3) := by decide +kernel
theorem d_Opd_add_76 : decode b_Opd_add 76 = .ok (.iconst 0, 1) := by decide +kernel
theorem d_Opd_add_77 : decode b_Opd_add 77 = .ok (.putfield 25, 3) := by decide +kernel
theorem d_Opd_add_80 : decode b_Opd_add 80 = .ok (.aload_n 0, 1) := by decide +kernel
theorem d_Opd_add_81 : decode b_Opd_add 81 = .ok (.dup, 1) := by decide +kernel
theorem d_Opd_add_82 : decode b_Opd_add 82 = .ok (.getfield 17, 3) := by decide +kernel
theorem d_Opd_add_85 : decode b_Opd_add 85 = .ok (.iconst 1, 1) := by decide +kernel
theorem d_Opd_add_86 : decode b_Opd_add 86 = .ok (.iadd, 1) := by decide +kernel
theorem d_Opd_add_87 : decode b_Opd_add 87 = .ok (.putfield 17, 3) := by decide +kernel
theorem d_Opd_add_90 : decode b_Opd_add 90 = .ok (.return_, 1) := by decide +kernel
