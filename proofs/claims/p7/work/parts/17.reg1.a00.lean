abbrev b_Reg_clearFrom : ByteArray := prog_10_method_3_code
abbrev b_Reg_get : ByteArray := prog_10_method_6_code
abbrev b_Reg_read : ByteArray := prog_10_method_4_code
abbrev b_Reg_reset : ByteArray := prog_10_method_2_code
abbrev b_Reg_set : ByteArray := prog_10_method_7_code
abbrev b_Reg_write : ByteArray := prog_10_method_5_code
abbrev y_Reg_clearFrom : MethodName := ⟨"LittleMix$Registers", "clearFrom", "(II)V"⟩
abbrev y_Reg_get : MethodName := ⟨"LittleMix$Registers", "get", "(I)J"⟩
abbrev y_Reg_read : MethodName := ⟨"LittleMix$Registers", "read", "(I)J"⟩
abbrev y_Reg_reset : MethodName := ⟨"LittleMix$Registers", "reset", "()V"⟩
abbrev y_Reg_set : MethodName := ⟨"LittleMix$Registers", "set", "(IJ)V"⟩
abbrev y_Reg_write : MethodName := ⟨"LittleMix$Registers", "write", "(IJ)V"⟩
theorem p_Reg_clearFrom : y_Reg_clearFrom.cls ≠ "java/lang/invoke/MethodHandle" ∧ y_Reg_clearFrom.cls ≠ "java/lang/invoke/VarHandle" ∧ (parseMethodDescriptor y_Reg_clearFrom.desc).map (fun d => d.parameters.length) = some 2 := by decide +kernel
theorem k_51 : (Jvm.Cond.fieldLink "LittleMix$Registers" (29 : Nat) "LittleMix$Registers" "depth" "I") ∈ mx_T := List.mem_filter.mpr ⟨List.mem_append_right _ ((List.mem_append_left _ (List.mem_of_getElem? (l := tables_1_1) (i := 51) (by decide +kernel)))), rfl⟩
theorem k_53 : (Jvm.Cond.fieldLink "LittleMix$Registers" (32 : Nat) "LittleMix$Registers" "local" "I") ∈ mx_T := List.mem_filter.mpr ⟨List.mem_append_right _ ((List.mem_append_left _ (List.mem_of_getElem? (l := tables_1_1) (i := 53) (by decide +kernel)))), rfl⟩
theorem k_701 : (Jvm.Cond.methodLink "LittleMix$Registers" (25 : Nat) ({ cls := "LittleMix$Registers", name := "clearFrom", desc := "(II)V" } : Jvm.MethodName)) ∈ mx_T := List.mem_filter.mpr ⟨List.mem_append_right _ ((List.mem_append_right _ (List.mem_append_right _ (List.mem_append_left _ (List.mem_of_getElem? (l := tables_1_3) (i := 221) (by decide +kernel)))))), rfl⟩
theorem k_703 : (Jvm.Cond.instanceMethod ({ cls := "LittleMix$Registers", name := "clearFrom", desc := "(II)V" } : Jvm.MethodName)) ∈ mx_T := List.mem_filter.mpr ⟨List.mem_append_right _ ((List.mem_append_right _ (List.mem_append_right _ (List.mem_append_left _ (List.mem_of_getElem? (l := tables_1_3) (i := 223) (by decide +kernel)))))), rfl⟩
theorem k_704 : (Jvm.Cond.code ({ cls := "LittleMix$Registers", name := "clearFrom", desc := "(II)V" } : Jvm.MethodName) prog_10_method_3_code (4 : Nat) (Option.none : Option Jvm.ClassFile.FieldType)) ∈ mx_T := List.mem_filter.mpr ⟨List.mem_append_right _ ((List.mem_append_right _ (List.mem_append_right _ (List.mem_append_left _ (List.mem_of_getElem? (l := tables_1_3) (i := 224) rfl))))), rfl⟩
theorem sl_Reg_clearFrom : Cond.selects y_Reg_clearFrom.cls y_Reg_clearFrom y_Reg_clearFrom ∈ mx_T := List.mem_filter.mpr ⟨List.mem_append_left _ (by decide +kernel), by decide +kernel⟩
theorem d_Reg_clearFrom_0 : decode b_Reg_clearFrom 0 = .ok (.iload_n 1, 1) := by decide +kernel
theorem d_Reg_clearFrom_1 : decode b_Reg_clearFrom 1 = .ok (.istore_n 3, 1) := by decide +kernel
theorem d_Reg_clearFrom_2 : decode b_Reg_clearFrom 2 = .ok (.iload_n 3, 1) := by decide +kernel
theorem d_Reg_clearFrom_3 : decode b_Reg_clearFrom 3 = .ok (.iload_n 2, 1) := by decide +kernel
theorem d_Reg_clearFrom_4 : decode b_Reg_clearFrom 4 = .ok (.if_icmp .ge 25, 3) := by decide +kernel
theorem d_Reg_clearFrom_7 : decode b_Reg_clearFrom 7 = .ok (.iload_n 3, 1) := by decide +kernel
theorem d_Reg_clearFrom_8 : decode b_Reg_clearFrom 8 = .ok (.aload_n 0, 1) := by decide +kernel
theorem d_Reg_clearFrom_9 : decode b_Reg_clearFrom 9 = .ok (.getfield 9, 3) := by decide +kernel
theorem d_Reg_clearFrom_12 : decode b_Reg_clearFrom 12 = .ok (.arraylength, 1) := by decide +kernel
theorem d_Reg_clearFrom_13 : decode b_Reg_clearFrom 13 = .ok (.if_icmp .ge 16, 3) := by decide +kernel
theorem d_Reg_clearFrom_16 : decode b_Reg_clearFrom 16 = .ok (.aload_n 0, 1) := by decide +kernel
theorem d_Reg_clearFrom_17 : decode b_Reg_clearFrom 17 = .ok (.getfield 9, 3) := by decide +kernel
theorem d_Reg_clearFrom_20 : decode b_Reg_clearFrom 20 = .ok (.iload_n 3, 1) := by decide +kernel
theorem d_Reg_clearFrom_21 : decode b_Reg_clearFrom 21 = .ok (.lconst 0, 1) := by decide +kernel
theorem d_Reg_clearFrom_22 : decode b_Reg_clearFrom 22 = .ok (.lastore, 1) := by decide +kernel
theorem d_Reg_clearFrom_23 : decode b_Reg_clearFrom 23 = .ok (.iinc 3 1, 3) := by decide +kernel
theorem d_Reg_clearFrom_26 : decode b_Reg_clearFrom 26 = .ok (.goto (-24), 3) := by decide +kernel
theorem d_Reg_clearFrom_29 : decode b_Reg_clearFrom 29 = .ok (.return_, 1) := by decide +kernel
theorem d_Reg_get_0 : decode b_Reg_get 0 = .ok (.iload_n 1, 1) := by decide +kernel
theorem d_Reg_get_1 : decode b_Reg_get 1 = .ok (.bipush 19, 2) := by decide +kernel
theorem d_Reg_get_3 : decode b_Reg_get 3 = .ok (.if_icmp .ne 9, 3) := by decide +kernel
theorem d_Reg_get_6 : decode b_Reg_get 6 = .ok (.aload_n 0, 1) := by decide +kernel
theorem d_Reg_get_7 : decode b_Reg_get 7 = .ok (.getfield 21, 3) := by decide +kernel
theorem d_Reg_get_10 : decode b_Reg_get 10 = .ok (.i2l, 1) := by decide +kernel
theorem d_Reg_get_11 : decode b_Reg_get 11 = .ok (.lreturn, 1) := by decide +kernel
theorem d_Reg_get_12 : decode b_Reg_get 12 = .ok (.iload_n 1, 1) := by decide +kernel
theorem d_Reg_get_13 : decode b_Reg_get 13 = .ok (.bipush 20, 2) := by decide +kernel
theorem d_Reg_get_15 : decode b_Reg_get 15 = .ok (.if_icmp .ne 9, 3) := by decide +kernel
theorem d_Reg_get_18 : decode b_Reg_get 18 = .ok (.aload_n 0, 1) := by decide +kernel
theorem d_Reg_get_19 : decode b_Reg_get 19 = .ok (.getfield 32, 3) := by decide +kernel
theorem d_Reg_get_22 : decode b_Reg_get 22 = .ok (.i2l, 1) := by decide +kernel
theorem d_Reg_get_23 : decode b_Reg_get 23 = .ok (.lreturn, 1) := by decide +kernel
theorem d_Reg_get_24 : decode b_Reg_get 24 = .ok (.iload_n 1, 1) := by decide +kernel
theorem d_Reg_get_25 : decode b_Reg_get 25 = .ok (.ifCond .lt 21, 3) := by decide +kernel
theorem d_Reg_get_28 : decode b_Reg_get 28 = .ok (.iload_n 1, 1) := by decide +kernel
theorem d_Reg_get_29 : decode b_Reg_get 29 = .ok (.aload_n 0, 1) := by decide +kernel
theorem d_Reg_get_30 : decode b_Reg_get 30 = .ok (.getfield 15, 3) := by decide +kernel
theorem d_Reg_get_33 : decode b_Reg_get 33 = .ok (.arraylength, 1) := by decide +kernel
theorem d_Reg_get_34 : decode b_Reg_get 34 = .ok (.if_icmp .ge 12, 3) := by decide +kernel
theorem d_Reg_get_37 : decode b_Reg_get 37 = .ok (.aload_n 0, 1) := by decide +kernel
theorem d_Reg_get_38 : decode b_Reg_get 38 = .ok (.getfield 15, 3) := by decide +kernel
theorem d_Reg_get_41 : decode b_Reg_get 41 = .ok (.iload_n 1, 1) := by decide +kernel
theorem d_Reg_get_42 : decode b_Reg_get 42 = .ok (.laload, 1) := by decide +kernel
theorem d_Reg_get_43 : decode b_Reg_get 43 = .ok (.goto 4, 3) := by decide +kernel
theorem d_Reg_get_46 : decode b_Reg_get 46 = .ok (.lconst 0, 1) := by decide +kernel
theorem d_Reg_get_47 : decode b_Reg_get 47 = .ok (.lreturn, 1) := by decide +kernel
theorem d_Reg_read_0 : decode b_Reg_read 0 = .ok (.iload_n 1, 1) := by decide +kernel
theorem d_Reg_read_1 : decode b_Reg_read 1 = .ok (.ifCond .lt 19, 3) := by decide +kernel
theorem d_Reg_read_4 : decode b_Reg_read 4 = .ok (.iload_n 1, 1) := by decide +kernel
theorem d_Reg_read_5 : decode b_Reg_read 5 = .ok (.sipush 255, 3) := by decide +kernel
theorem d_Reg_read_8 : decode b_Reg_read 8 = .ok (.if_icmp .gt 12, 3) := by decide +kernel
theorem d_Reg_read_11 : decode b_Reg_read 11 = .ok (.aload_n 0, 1) := by decide +kernel
theorem d_Reg_read_12 : decode b_Reg_read 12 = .ok (.getfield 9, 3) := by decide +kernel
theorem d_Reg_read_15 : decode b_Reg_read 15 = .ok (.iload_n 1, 1) := by decide +kernel
theorem d_Reg_read_16 : decode b_Reg_read 16 = .ok (.laload, 1) := by decide +kernel
theorem d_Reg_read_17 : decode b_Reg_read 17 = .ok (.goto 4, 3) := by decide +kernel
theorem d_Reg_read_20 : decode b_Reg_read 20 = .ok (.lconst 0, 1) := by decide +kernel
theorem d_Reg_read_21 : decode b_Reg_read 21 = .ok (.lreturn, 1) := by decide +kernel
theorem d_Reg_reset_0 : decode b_Reg_reset 0 = .ok (.aload_n 0, 1) := by decide +kernel
theorem d_Reg_reset_1 : decode b_Reg_reset 1 = .ok (.iconst 0, 1) := by decide +kernel
theorem d_Reg_reset_2 : decode b_Reg_reset 2 = .ok (.sipush 256, 3) := by decide +kernel
theorem d_Reg_reset_5 : decode b_Reg_reset 5 = .ok (.invokevirtual 25, 3) := by decide +kernel
theorem d_Reg_reset_8 : decode b_Reg_reset 8 = .ok (.iconst 0, 1) := by decide +kernel
theorem d_Reg_reset_9 : decode b_Reg_reset 9 = .ok (.istore_n 1, 1) := by decide +kernel
theorem d_Reg_reset_10 : decode b_Reg_reset 10 = .ok (.iload_n 1, 1) := by decide +kernel
theorem d_Reg_reset_11 : decode b_Reg_reset 11 = .ok (.aload_n 0, 1) := by decide +kernel
theorem d_Reg_reset_12 : decode b_Reg_reset 12 = .ok (.getfield 15, 3) := by decide +kernel
theorem d_Reg_reset_15 : decode b_Reg_reset 15 = .ok (.arraylength, 1) := by decide +kernel
theorem d_Reg_reset_16 : decode b_Reg_reset 16 = .ok (.if_icmp .ge 16, 3) := by decide +kernel
theorem d_Reg_reset_19 : decode b_Reg_reset 19 = .ok (.aload_n 0, 1) := by decide +kernel
theorem d_Reg_reset_20 : decode b_Reg_reset 20 = .ok (.getfield 15, 3) := by decide +kernel
theorem d_Reg_reset_23 : decode b_Reg_reset 23 = .ok (.iload_n 1, 1) := by decide +kernel
theorem d_Reg_reset_24 : decode b_Reg_reset 24 = .ok (.lconst 0, 1) := by decide +kernel
theorem d_Reg_reset_25 : decode b_Reg_reset 25 = .ok (.lastore, 1) := by decide +kernel
theorem d_Reg_reset_26 : decode b_Reg_reset 26 = .ok (.iinc 1 1, 3) := by decide +kernel
theorem d_Reg_reset_29 : decode b_Reg_reset 29 = .ok (.goto (-19), 3) := by decide +kernel
theorem d_Reg_reset_32 : decode b_Reg_reset 32 = .ok (.aload_n 0, 1) := by decide +kernel
theorem d_Reg_reset_33 : decode b_Reg_reset 33 = .ok (.iconst 0, 1) := by decide +kernel
theorem d_Reg_reset_34 : decode b_Reg_reset 34 = .ok (.putfield 29, 3) := by decide +kernel
theorem d_Reg_reset_37 : decode b_Reg_reset 37 = .ok (.aload_n 0, 1) := by decide +kernel
theorem d_Reg_reset_38 : decode b_Reg_reset 38 = .ok (.iconst 0, 1) := by decide +kernel
theorem d_Reg_reset_39 : decode b_Reg_reset 39 = .ok (.putfield 32, 3) := by decide +kernel
theorem d_Reg_reset_42 : decode b_Reg_reset 42 = .ok (.aload_n 0, 1) := by decide +kernel
theorem d_Reg_reset_43 : decode b_Reg_reset 43 = .ok (.sipush 255, 3) := by decide +kernel
theorem d_Reg_reset_46 : decode b_Reg_reset 46 = .ok (.putfield 21, 3) := by decide +kernel
theorem d_Reg_reset_49 : decode b_Reg_reset 49 = .ok (.return_, 1) := by decide +kernel
theorem d_Reg_set_0 : decode b_Reg_set 0 = .ok (.iload_n 1, 1) := by decide +kernel
theorem d_Reg_set_1 : decode b_Reg_set 1 = .ok (.ifCond .lt 19, 3) := by decide +kernel
theorem d_Reg_set_4 : decode b_Reg_set 4 = .ok (.iload_n 1, 1) := by decide +kernel
theorem d_Reg_set_5 : decode b_Reg_set 5 = .ok (.aload_n 0, 1) := by decide +kernel
theorem d_Reg_set_6 : decode b_Reg_set 6 = .ok (.getfield 15, 3) := by decide +kernel
theorem d_Reg_set_9 : decode b_Reg_set 9 = .ok (.arraylength, 1) := by decide +kernel
theorem d_Reg_set_10 : decode b_Reg_set 10 = .ok (.if_icmp .ge 10, 3) := by decide +kernel
theorem d_Reg_set_13 : decode b_Reg_set 13 = .ok (.aload_n 0, 1) := by decide +kernel
theorem d_Reg_set_14 : decode b_Reg_set 14 = .ok (.getfield 15, 3) := by decide +kernel
theorem d_Reg_set_17 : decode b_Reg_set 17 = .ok (.iload_n 1, 1) := by decide +kernel
theorem d_Reg_set_18 : decode b_Reg_set 18 = .ok (.lload_n 2, 1) := by decide +kernel
theorem d_Reg_set_19 : decode b_Reg_set 19 = .ok (.lastore, 1) := by decide +kernel
theorem d_Reg_set_20 : decode b_Reg_set 20 = .ok (.return_, 1) := by decide +kernel
theorem d_Reg_write_0 : decode b_Reg_write 0 = .ok (.iload_n 1, 1) := by decide +kernel
theorem d_Reg_write_1 : decode b_Reg_write 1 = .ok (.ifCond .lt 10, 3) := by decide +kernel
theorem d_Reg_write_4 : decode b_Reg_write 4 = .ok (.iload_n 1, 1) := by decide +kernel
theorem d_Reg_write_5 : decode b_Reg_write 5 = .ok (.sipush 255, 3) := by decide +kernel
theorem d_Reg_write_8 : decode b_Reg_write 8 = .ok (.if_icmp .le 4, 3) := by decide +kernel
theorem d_Reg_write_11 : decode b_Reg_write 11 = .ok (.return_, 1) := by decide +kernel
theorem d_Reg_write_12 : decode b_Reg_write 12 = .ok (.iload_n 1, 1) := by decide +kernel
theorem d_Reg_write_13 : decode b_Reg_write 13 = .ok (.aload_n 0, 1) := by decide +kernel
theorem d_Reg_write_14 : decode b_Reg_write 14 = .ok (.getfield 21, 3) := by decide +kernel
theorem d_Reg_write_17 : decode b_Reg_write 17 = .ok (.if_icmp .ge 18, 3) := by decide +kernel
theorem d_Reg_write_20 : decode b_Reg_write 20 = .ok (.iload_n 1, 1) := by decide +kernel
theorem d_Reg_write_21 : decode b_Reg_write 21 = .ok (.aload_n 0, 1) := by decide +kernel
theorem d_Reg_write_22 : decode b_Reg_write 22 = .ok (.getfield 32, 3) := by decide +kernel
theorem d_Reg_write_25 : decode b_Reg_write 25 = .ok (.if_icmp .lt 10, 3) := by decide +kernel
theorem d_Reg_write_28 : decode b_Reg_write 28 = .ok (.aload_n 0, 1) := by decide +kernel
theorem d_Reg_write_29 : decode b_Reg_write 29 = .ok (.iload_n 1, 1) := by decide +kernel
theorem d_Reg_write_30 : decode b_Reg_write 30 = .ok (.iconst 1, 1) := by decide +kernel
theorem d_Reg_write_31 : decode b_Reg_write 31 = .ok (.iadd, 1) := by decide +kernel
theorem d_Reg_write_32 : decode b_Reg_write 32 = .ok (.putfield 32, 3) := by decide +kernel
theorem d_Reg_write_35 : decode b_Reg_write 35 = .ok (.aload_n 0, 1) := by decide +kernel
theorem d_Reg_write_36 : decode b_Reg_write 36 = .ok (.getfield 9, 3) := by decide +kernel
theorem d_Reg_write_39 : decode b_Reg_write 39 = .ok (.iload_n 1, 1) := by decide +kernel
theorem d_Reg_write_40 : decode b_Reg_write 40 = .ok (.lload_n 2, 1) := by decide +kernel
theorem d_Reg_write_41 : decode b_Reg_write 41 = .ok (.lastore, 1) := by decide +kernel
theorem d_Reg_write_42 : decode b_Reg_write 42 = .ok (.return_, 1) := by decide +kernel
