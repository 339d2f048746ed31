abbrev b_Reg_pop : ByteArray := prog_10_method_10_code
abbrev b_Reg_push : ByteArray := prog_10_method_9_code
abbrev b_Reg_put : ByteArray := prog_10_method_8_code
abbrev y_Reg_pop : MethodName := ⟨"LittleMix$Registers", "pop", "(I)Z"⟩
abbrev y_Reg_push : MethodName := ⟨"LittleMix$Registers", "push", "(I)Z"⟩
abbrev y_Reg_put : MethodName := ⟨"LittleMix$Registers", "put", "(IJ)V"⟩
theorem p_Reg_set : y_Reg_set.cls ≠ "java/lang/invoke/MethodHandle" ∧ y_Reg_set.cls ≠ "java/lang/invoke/VarHandle" ∧ (parseMethodDescriptor y_Reg_set.desc).map (fun d => d.parameters.length) = some 2 := by decide +kernel
theorem k_804 : (Jvm.Cond.methodLink "LittleMix$Registers" (45 : Nat) ({ cls := "java/lang/System", name := "arraycopy", desc := "(Ljava/lang/Object;ILjava/lang/Object;II)V" } : Jvm.MethodName)) ∈ mx_T := List.mem_filter.mpr ⟨List.mem_append_right _ ((List.mem_append_right _ (List.mem_append_right _ (List.mem_append_right _ (List.mem_append_left _ (List.mem_of_getElem? (l := tables_1_4) (i := 84) (by decide +kernel))))))), rfl⟩
theorem k_805 : (Jvm.Cond.methodLink "LittleMix$Registers" (51 : Nat) ({ cls := "java/lang/Math", name := "max", desc := "(II)I" } : Jvm.MethodName)) ∈ mx_T := List.mem_filter.mpr ⟨List.mem_append_right _ ((List.mem_append_right _ (List.mem_append_right _ (List.mem_append_right _ (List.mem_append_left _ (List.mem_of_getElem? (l := tables_1_4) (i := 85) (by decide +kernel))))))), rfl⟩
theorem k_807 : (Jvm.Cond.instanceMethod ({ cls := "LittleMix$Registers", name := "set", desc := "(IJ)V" } : Jvm.MethodName)) ∈ mx_T := List.mem_filter.mpr ⟨List.mem_append_right _ ((List.mem_append_right _ (List.mem_append_right _ (List.mem_append_right _ (List.mem_append_left _ (List.mem_of_getElem? (l := tables_1_4) (i := 87) (by decide +kernel))))))), rfl⟩
theorem k_808 : (Jvm.Cond.selects "LittleMix$Registers" ({ cls := "LittleMix$Registers", name := "set", desc := "(IJ)V" } : Jvm.MethodName) ({ cls := "LittleMix$Registers", name := "set", desc := "(IJ)V" } : Jvm.MethodName)) ∈ mx_T := List.mem_filter.mpr ⟨List.mem_append_right _ ((List.mem_append_right _ (List.mem_append_right _ (List.mem_append_right _ (List.mem_append_left _ (List.mem_of_getElem? (l := tables_1_4) (i := 88) (by decide +kernel))))))), rfl⟩
theorem k_809 : (Jvm.Cond.code ({ cls := "LittleMix$Registers", name := "set", desc := "(IJ)V" } : Jvm.MethodName) prog_10_method_7_code (4 : Nat) (Option.none : Option Jvm.ClassFile.FieldType)) ∈ mx_T := List.mem_filter.mpr ⟨List.mem_append_right _ ((List.mem_append_right _ (List.mem_append_right _ (List.mem_append_right _ (List.mem_append_left _ (List.mem_of_getElem? (l := tables_1_4) (i := 89) rfl)))))), rfl⟩
theorem k_825 : (Jvm.Cond.constantLong "LittleMix$Registers" (35 : Nat) (32 : Int64)) ∈ mx_T := List.mem_filter.mpr ⟨List.mem_append_right _ ((List.mem_append_right _ (List.mem_append_right _ (List.mem_append_right _ (List.mem_append_left _ (List.mem_of_getElem? (l := tables_1_4) (i := 105) (by decide +kernel))))))), rfl⟩
theorem k_826 : (Jvm.Cond.constantLong "LittleMix$Registers" (37 : Nat) (255 : Int64)) ∈ mx_T := List.mem_filter.mpr ⟨List.mem_append_right _ ((List.mem_append_right _ (List.mem_append_right _ (List.mem_append_right _ (List.mem_append_left _ (List.mem_of_getElem? (l := tables_1_4) (i := 106) (by decide +kernel))))))), rfl⟩
theorem k_827 : (Jvm.Cond.constantLong "LittleMix$Registers" (39 : Nat) (262143 : Int64)) ∈ mx_T := List.mem_filter.mpr ⟨List.mem_append_right _ ((List.mem_append_right _ (List.mem_append_right _ (List.mem_append_right _ (List.mem_append_left _ (List.mem_of_getElem? (l := tables_1_4) (i := 107) (by decide +kernel))))))), rfl⟩
theorem k_828 : (Jvm.Cond.methodLink "LittleMix$Registers" (41 : Nat) ({ cls := "LittleMix$Registers", name := "set", desc := "(IJ)V" } : Jvm.MethodName)) ∈ mx_T := List.mem_filter.mpr ⟨List.mem_append_right _ ((List.mem_append_right _ (List.mem_append_right _ (List.mem_append_right _ (List.mem_append_left _ (List.mem_of_getElem? (l := tables_1_4) (i := 108) (by decide +kernel))))))), rfl⟩
theorem k_837 : (Jvm.Cond.methodLink "LittleMix$Registers" (57 : Nat) ({ cls := "java/lang/Math", name := "min", desc := "(II)I" } : Jvm.MethodName)) ∈ mx_T := List.mem_filter.mpr ⟨List.mem_append_right _ ((List.mem_append_right _ (List.mem_append_right _ (List.mem_append_right _ (List.mem_append_left _ (List.mem_of_getElem? (l := tables_1_4) (i := 117) (by decide +kernel))))))), rfl⟩
theorem d_Reg_pop_0 : decode b_Reg_pop 0 = .ok (.aload_n 0, 1) := by decide +kernel
theorem d_Reg_pop_1 : decode b_Reg_pop 1 = .ok (.getfield 29, 3) := by decide +kernel
theorem d_Reg_pop_4 : decode b_Reg_pop 4 = .ok (.ifCond .ne 5, 3) := by decide +kernel
theorem d_Reg_pop_7 : decode b_Reg_pop 7 = .ok (.iconst 0, 1) := by decide +kernel
theorem d_Reg_pop_8 : decode b_Reg_pop 8 = .ok (.ireturn, 1) := by decide +kernel
theorem d_Reg_pop_9 : decode b_Reg_pop 9 = .ok (.iload_n 1, 1) := by decide +kernel
theorem d_Reg_pop_10 : decode b_Reg_pop 10 = .ok (.aload_n 0, 1) := by decide +kernel
theorem d_Reg_pop_11 : decode b_Reg_pop 11 = .ok (.getfield 32, 3) := by decide +kernel
theorem d_Reg_pop_14 : decode b_Reg_pop 14 = .ok (.iconst 1, 1) := by decide +kernel
theorem d_Reg_pop_15 : decode b_Reg_pop 15 = .ok (.iadd, 1) := by decide +kernel
theorem d_Reg_pop_16 : decode b_Reg_pop 16 = .ok (.invokestatic 57, 3) := by decide +kernel
theorem d_Reg_pop_19 : decode b_Reg_pop 19 = .ok (.istore_n 2, 1) := by decide +kernel
theorem d_Reg_pop_20 : decode b_Reg_pop 20 = .ok (.iload_n 2, 1) := by decide +kernel
theorem d_Reg_pop_21 : decode b_Reg_pop 21 = .ok (.ifCond .le 22, 3) := by decide +kernel
theorem d_Reg_pop_24 : decode b_Reg_pop 24 = .ok (.iload_n 2, 1) := by decide +kernel
theorem d_Reg_pop_25 : decode b_Reg_pop 25 = .ok (.aload_n 0, 1) := by decide +kernel
theorem d_Reg_pop_26 : decode b_Reg_pop 26 = .ok (.getfield 32, 3) := by decide +kernel
theorem d_Reg_pop_29 : decode b_Reg_pop 29 = .ok (.if_icmp .gt 14, 3) := by decide +kernel
theorem d_Reg_pop_32 : decode b_Reg_pop 32 = .ok (.aload_n 0, 1) := by decide +kernel
theorem d_Reg_pop_33 : decode b_Reg_pop 33 = .ok (.getfield 9, 3) := by decide +kernel
theorem d_Reg_pop_36 : decode b_Reg_pop 36 = .ok (.iload_n 2, 1) := by decide +kernel
theorem d_Reg_pop_37 : decode b_Reg_pop 37 = .ok (.iconst 1, 1) := by decide +kernel
theorem d_Reg_pop_38 : decode b_Reg_pop 38 = .ok (.isub, 1) := by decide +kernel
theorem d_Reg_pop_39 : decode b_Reg_pop 39 = .ok (.laload, 1) := by decide +kernel
theorem d_Reg_pop_40 : decode b_Reg_pop 40 = .ok (.goto 4, 3) := by decide +kernel
theorem d_Reg_pop_43 : decode b_Reg_pop 43 = .ok (.lconst 0, 1) := by decide +kernel
theorem d_Reg_pop_44 : decode b_Reg_pop 44 = .ok (.lstore_n 3, 1) := by decide +kernel
theorem d_Reg_pop_45 : decode b_Reg_pop 45 = .ok (.aload_n 0, 1) := by decide +kernel
theorem d_Reg_pop_46 : decode b_Reg_pop 46 = .ok (.getfield 18, 3) := by decide +kernel
theorem d_Reg_pop_49 : decode b_Reg_pop 49 = .ok (.aload_n 0, 1) := by decide +kernel
theorem d_Reg_pop_50 : decode b_Reg_pop 50 = .ok (.getfield 29, 3) := by decide +kernel
theorem d_Reg_pop_53 : decode b_Reg_pop 53 = .ok (.iconst 1, 1) := by decide +kernel
theorem d_Reg_pop_54 : decode b_Reg_pop 54 = .ok (.isub, 1) := by decide +kernel
theorem d_Reg_pop_55 : decode b_Reg_pop 55 = .ok (.laload, 1) := by decide +kernel
theorem d_Reg_pop_56 : decode b_Reg_pop 56 = .ok (.l2i, 1) := by decide +kernel
theorem d_Reg_pop_57 : decode b_Reg_pop 57 = .ok (.istore 5, 2) := by decide +kernel
theorem d_Reg_pop_59 : decode b_Reg_pop 59 = .ok (.aload_n 0, 1) := by decide +kernel
theorem d_Reg_pop_60 : decode b_Reg_pop 60 = .ok (.dup, 1) := by decide +kernel
theorem d_Reg_pop_61 : decode b_Reg_pop 61 = .ok (.getfield 29, 3) := by decide +kernel
theorem d_Reg_pop_64 : decode b_Reg_pop 64 = .ok (.iload 5, 2) := by decide +kernel
theorem d_Reg_pop_66 : decode b_Reg_pop 66 = .ok (.iconst 1, 1) := by decide +kernel
theorem d_Reg_pop_67 : decode b_Reg_pop 67 = .ok (.iadd, 1) := by decide +kernel
theorem d_Reg_pop_68 : decode b_Reg_pop 68 = .ok (.isub, 1) := by decide +kernel
theorem d_Reg_pop_69 : decode b_Reg_pop 69 = .ok (.putfield 29, 3) := by decide +kernel
theorem d_Reg_pop_72 : decode b_Reg_pop 72 = .ok (.iload 5, 2) := by decide +kernel
theorem d_Reg_pop_74 : decode b_Reg_pop 74 = .ok (.iload_n 2, 1) := by decide +kernel
theorem d_Reg_pop_75 : decode b_Reg_pop 75 = .ok (.iadd, 1) := by decide +kernel
theorem d_Reg_pop_76 : decode b_Reg_pop 76 = .ok (.aload_n 0, 1) := by decide +kernel
theorem d_Reg_pop_77 : decode b_Reg_pop 77 = .ok (.getfield 21, 3) := by decide +kernel
theorem d_Reg_pop_80 : decode b_Reg_pop 80 = .ok (.invokestatic 57, 3) := by decide +kernel
theorem d_Reg_pop_83 : decode b_Reg_pop 83 = .ok (.istore 6, 2) := by decide +kernel
theorem d_Reg_pop_85 : decode b_Reg_pop 85 = .ok (.iload 6, 2) := by decide +kernel
theorem d_Reg_pop_87 : decode b_Reg_pop 87 = .ok (.iload 5, 2) := by decide +kernel
theorem d_Reg_pop_89 : decode b_Reg_pop 89 = .ok (.iconst 1, 1) := by decide +kernel
theorem d_Reg_pop_90 : decode b_Reg_pop 90 = .ok (.iadd, 1) := by decide +kernel
theorem d_Reg_pop_91 : decode b_Reg_pop 91 = .ok (.if_icmp .le 26, 3) := by decide +kernel
theorem d_Reg_pop_94 : decode b_Reg_pop 94 = .ok (.aload_n 0, 1) := by decide +kernel
theorem d_Reg_pop_95 : decode b_Reg_pop 95 = .ok (.getfield 9, 3) := by decide +kernel
theorem d_Reg_pop_98 : decode b_Reg_pop 98 = .ok (.iconst 0, 1) := by decide +kernel
theorem d_Reg_pop_99 : decode b_Reg_pop 99 = .ok (.aload_n 0, 1) := by decide +kernel
theorem d_Reg_pop_100 : decode b_Reg_pop 100 = .ok (.getfield 9, 3) := by decide +kernel
theorem d_Reg_pop_103 : decode b_Reg_pop 103 = .ok (.iload 5, 2) := by decide +kernel
theorem d_Reg_pop_105 : decode b_Reg_pop 105 = .ok (.iconst 1, 1) := by decide +kernel
theorem d_Reg_pop_106 : decode b_Reg_pop 106 = .ok (.iadd, 1) := by decide +kernel
theorem d_Reg_pop_107 : decode b_Reg_pop 107 = .ok (.iload 6, 2) := by decide +kernel
theorem d_Reg_pop_109 : decode b_Reg_pop 109 = .ok (.iload 5, 2) := by decide +kernel
theorem d_Reg_pop_111 : decode b_Reg_pop 111 = .ok (.isub, 1) := by decide +kernel
theorem d_Reg_pop_112 : decode b_Reg_pop 112 = .ok (.iconst 1, 1) := by decide +kernel
theorem d_Reg_pop_113 : decode b_Reg_pop 113 = .ok (.isub, 1) := by decide +kernel
theorem d_Reg_pop_114 : decode b_Reg_pop 114 = .ok (.invokestatic 45, 3) := by decide +kernel
theorem d_Reg_pop_117 : decode b_Reg_pop 117 = .ok (.iload 6, 2) := by decide +kernel
theorem d_Reg_pop_119 : decode b_Reg_pop 119 = .ok (.iload 5, 2) := by decide +kernel
theorem d_Reg_pop_121 : decode b_Reg_pop 121 = .ok (.if_icmp .le 11, 3) := by decide +kernel
theorem d_Reg_pop_124 : decode b_Reg_pop 124 = .ok (.aload_n 0, 1) := by decide +kernel
theorem d_Reg_pop_125 : decode b_Reg_pop 125 = .ok (.getfield 9, 3) := by decide +kernel
theorem d_Reg_pop_128 : decode b_Reg_pop 128 = .ok (.iload 5, 2) := by decide +kernel
theorem d_Reg_pop_130 : decode b_Reg_pop 130 = .ok (.lload_n 3, 1) := by decide +kernel
theorem d_Reg_pop_131 : decode b_Reg_pop 131 = .ok (.lastore, 1) := by decide +kernel
theorem d_Reg_pop_132 : decode b_Reg_pop 132 = .ok (.aload_n 0, 1) := by decide +kernel
theorem d_Reg_pop_133 : decode b_Reg_pop 133 = .ok (.getfield 18, 3) := by decide +kernel
theorem d_Reg_pop_136 : decode b_Reg_pop 136 = .ok (.aload_n 0, 1) := by decide +kernel
theorem d_Reg_pop_137 : decode b_Reg_pop 137 = .ok (.getfield 29, 3) := by decide +kernel
theorem d_Reg_pop_140 : decode b_Reg_pop 140 = .ok (.aload_n 0, 1) := by decide +kernel
theorem d_Reg_pop_141 : decode b_Reg_pop 141 = .ok (.getfield 9, 3) := by decide +kernel
theorem d_Reg_pop_144 : decode b_Reg_pop 144 = .ok (.iconst 0, 1) := by decide +kernel
theorem d_Reg_pop_145 : decode b_Reg_pop 145 = .ok (.iload 5, 2) := by decide +kernel
theorem d_Reg_pop_147 : decode b_Reg_pop 147 = .ok (.iload 6, 2) := by decide +kernel
theorem d_Reg_pop_149 : decode b_Reg_pop 149 = .ok (.invokestatic 57, 3) := by decide +kernel
theorem d_Reg_pop_152 : decode b_Reg_pop 152 = .ok (.invokestatic 45, 3) := by decide +kernel
theorem d_Reg_pop_155 : decode b_Reg_pop 155 = .ok (.aload_n 0, 1) := by decide +kernel
theorem d_Reg_pop_156 : decode b_Reg_pop 156 = .ok (.iload 6, 2) := by decide +kernel
theorem d_Reg_pop_158 : decode b_Reg_pop 158 = .ok (.aload_n 0, 1) := by decide +kernel
theorem d_Reg_pop_159 : decode b_Reg_pop 159 = .ok (.getfield 32, 3) := by decide +kernel
theorem d_Reg_pop_162 : decode b_Reg_pop 162 = .ok (.invokevirtual 25, 3) := by decide +kernel
theorem d_Reg_pop_165 : decode b_Reg_pop 165 = .ok (.aload_n 0, 1) := by decide +kernel
theorem d_Reg_pop_166 : decode b_Reg_pop 166 = .ok (.iload 6, 2) := by decide +kernel
theorem d_Reg_pop_168 : decode b_Reg_pop 168 = .ok (.putfield 32, 3) := by decide +kernel
theorem d_Reg_pop_171 : decode b_Reg_pop 171 = .ok (.iconst 1, 1) := by decide +kernel
theorem d_Reg_pop_172 : decode b_Reg_pop 172 = .ok (.ireturn, 1) := by decide +kernel
theorem d_Reg_push_0 : decode b_Reg_push 0 = .ok (.iload_n 1, 1) := by decide +kernel
theorem d_Reg_push_1 : decode b_Reg_push 1 = .ok (.aload_n 0, 1) := by decide +kernel
theorem d_Reg_push_2 : decode b_Reg_push 2 = .ok (.getfield 21, 3) := by decide +kernel
theorem d_Reg_push_5 : decode b_Reg_push 5 = .ok (.if_icmp .ge 7, 3) := by decide +kernel
theorem d_Reg_push_8 : decode b_Reg_push 8 = .ok (.iload_n 1, 1) := by decide +kernel
theorem d_Reg_push_9 : decode b_Reg_push 9 = .ok (.goto 7, 3) := by decide +kernel
theorem d_Reg_push_12 : decode b_Reg_push 12 = .ok (.aload_n 0, 1) := by decide +kernel
theorem d_Reg_push_13 : decode b_Reg_push 13 = .ok (.getfield 32, 3) := by decide +kernel
theorem d_Reg_push_16 : decode b_Reg_push 16 = .ok (.istore_n 2, 1) := by decide +kernel
theorem d_Reg_push_17 : decode b_Reg_push 17 = .ok (.aload_n 0, 1) := by decide +kernel
theorem d_Reg_push_18 : decode b_Reg_push 18 = .ok (.getfield 29, 3) := by decide +kernel
theorem d_Reg_push_21 : decode b_Reg_push 21 = .ok (.iload_n 2, 1) := by decide +kernel
theorem d_Reg_push_22 : decode b_Reg_push 22 = .ok (.iadd, 1) := by decide +kernel
theorem d_Reg_push_23 : decode b_Reg_push 23 = .ok (.iconst 1, 1) := by decide +kernel
theorem d_Reg_push_24 : decode b_Reg_push 24 = .ok (.iadd, 1) := by decide +kernel
theorem d_Reg_push_25 : decode b_Reg_push 25 = .ok (.aload_n 0, 1) := by decide +kernel
theorem d_Reg_push_26 : decode b_Reg_push 26 = .ok (.getfield 18, 3) := by decide +kernel
theorem d_Reg_push_29 : decode b_Reg_push 29 = .ok (.arraylength, 1) := by decide +kernel
theorem d_Reg_push_30 : decode b_Reg_push 30 = .ok (.if_icmp .le 5, 3) := by decide +kernel
theorem d_Reg_push_33 : decode b_Reg_push 33 = .ok (.iconst 0, 1) := by decide +kernel
theorem d_Reg_push_34 : decode b_Reg_push 34 = .ok (.ireturn, 1) := by decide +kernel
theorem d_Reg_push_35 : decode b_Reg_push 35 = .ok (.aload_n 0, 1) := by decide +kernel
theorem d_Reg_push_36 : decode b_Reg_push 36 = .ok (.getfield 9, 3) := by decide +kernel
theorem d_Reg_push_39 : decode b_Reg_push 39 = .ok (.iconst 0, 1) := by decide +kernel
theorem d_Reg_push_40 : decode b_Reg_push 40 = .ok (.aload_n 0, 1) := by decide +kernel
theorem d_Reg_push_41 : decode b_Reg_push 41 = .ok (.getfield 18, 3) := by decide +kernel
theorem d_Reg_push_44 : decode b_Reg_push 44 = .ok (.aload_n 0, 1) := by decide +kernel
theorem d_Reg_push_45 : decode b_Reg_push 45 = .ok (.getfield 29, 3) := by decide +kernel
theorem d_Reg_push_48 : decode b_Reg_push 48 = .ok (.iload_n 2, 1) := by decide +kernel
theorem d_Reg_push_49 : decode b_Reg_push 49 = .ok (.invokestatic 45, 3) := by decide +kernel
theorem d_Reg_push_52 : decode b_Reg_push 52 = .ok (.aload_n 0, 1) := by decide +kernel
theorem d_Reg_push_53 : decode b_Reg_push 53 = .ok (.dup, 1) := by decide +kernel
theorem d_Reg_push_54 : decode b_Reg_push 54 = .ok (.getfield 29, 3) := by decide +kernel
theorem d_Reg_push_57 : decode b_Reg_push 57 = .ok (.iload_n 2, 1) := by decide +kernel
theorem d_Reg_push_58 : decode b_Reg_push 58 = .ok (.iconst 1, 1) := by decide +kernel
theorem d_Reg_push_59 : decode b_Reg_push 59 = .ok (.iadd, 1) := by decide +kernel
theorem d_Reg_push_60 : decode b_Reg_push 60 = .ok (.iadd, 1) := by decide +kernel
theorem d_Reg_push_61 : decode b_Reg_push 61 = .ok (.putfield 29, 3) := by decide +kernel
theorem d_Reg_push_64 : decode b_Reg_push 64 = .ok (.aload_n 0, 1) := by decide +kernel
theorem d_Reg_push_65 : decode b_Reg_push 65 = .ok (.getfield 18, 3) := by decide +kernel
theorem d_Reg_push_68 : decode b_Reg_push 68 = .ok (.aload_n 0, 1) := by decide +kernel
theorem d_Reg_push_69 : decode b_Reg_push 69 = .ok (.getfield 29, 3) := by decide +kernel
theorem d_Reg_push_72 : decode b_Reg_push 72 = .ok (.iconst 1, 1) := by decide +kernel
theorem d_Reg_push_73 : decode b_Reg_push 73 = .ok (.isub, 1) := by decide +kernel
theorem d_Reg_push_74 : decode b_Reg_push 74 = .ok (.iload_n 2, 1) := by decide +kernel
theorem d_Reg_push_75 : decode b_Reg_push 75 = .ok (.i2l, 1) := by decide +kernel
theorem d_Reg_push_76 : decode b_Reg_push 76 = .ok (.lastore, 1) := by decide +kernel
theorem d_Reg_push_77 : decode b_Reg_push 77 = .ok (.iconst 0, 1) := by decide +kernel
theorem d_Reg_push_78 : decode b_Reg_push 78 = .ok (.aload_n 0, 1) := by decide +kernel
theorem d_Reg_push_79 : decode b_Reg_push 79 = .ok (.getfield 32, 3) := by decide +kernel
theorem d_Reg_push_82 : decode b_Reg_push 82 = .ok (.iload_n 2, 1) := by decide +kernel
theorem d_Reg_push_83 : decode b_Reg_push 83 = .ok (.isub, 1) := by decide +kernel
theorem d_Reg_push_84 : decode b_Reg_push 84 = .ok (.iconst 1, 1) := by decide +kernel
theorem d_Reg_push_85 : decode b_Reg_push 85 = .ok (.isub, 1) := by decide +kernel
theorem d_Reg_push_86 : decode b_Reg_push 86 = .ok (.invokestatic 51, 3) := by decide +kernel
theorem d_Reg_push_89 : decode b_Reg_push 89 = .ok (.istore_n 3, 1) := by decide +kernel
theorem d_Reg_push_90 : decode b_Reg_push 90 = .ok (.iload_n 3, 1) := by decide +kernel
theorem d_Reg_push_91 : decode b_Reg_push 91 = .ok (.ifCond .le 19, 3) := by decide +kernel
theorem d_Reg_push_94 : decode b_Reg_push 94 = .ok (.aload_n 0, 1) := by decide +kernel
theorem d_Reg_push_95 : decode b_Reg_push 95 = .ok (.getfield 9, 3) := by decide +kernel
theorem d_Reg_push_98 : decode b_Reg_push 98 = .ok (.iload_n 2, 1) := by decide +kernel
theorem d_Reg_push_99 : decode b_Reg_push 99 = .ok (.iconst 1, 1) := by decide +kernel
theorem d_Reg_push_100 : decode b_Reg_push 100 = .ok (.iadd, 1) := by decide +kernel
theorem d_Reg_push_101 : decode b_Reg_push 101 = .ok (.aload_n 0, 1) := by decide +kernel
theorem d_Reg_push_102 : decode b_Reg_push 102 = .ok (.getfield 9, 3) := by decide +kernel
theorem d_Reg_push_105 : decode b_Reg_push 105 = .ok (.iconst 0, 1) := by decide +kernel
theorem d_Reg_push_106 : decode b_Reg_push 106 = .ok (.iload_n 3, 1) := by decide +kernel
theorem d_Reg_push_107 : decode b_Reg_push 107 = .ok (.invokestatic 45, 3) := by decide +kernel
theorem d_Reg_push_110 : decode b_Reg_push 110 = .ok (.aload_n 0, 1) := by decide +kernel
theorem d_Reg_push_111 : decode b_Reg_push 111 = .ok (.iload_n 3, 1) := by decide +kernel
theorem d_Reg_push_112 : decode b_Reg_push 112 = .ok (.aload_n 0, 1) := by decide +kernel
theorem d_Reg_push_113 : decode b_Reg_push 113 = .ok (.getfield 32, 3) := by decide +kernel
theorem d_Reg_push_116 : decode b_Reg_push 116 = .ok (.invokevirtual 25, 3) := by decide +kernel
theorem d_Reg_push_119 : decode b_Reg_push 119 = .ok (.aload_n 0, 1) := by decide +kernel
theorem d_Reg_push_120 : decode b_Reg_push 120 = .ok (.iload_n 3, 1) := by decide +kernel
theorem d_Reg_push_121 : decode b_Reg_push 121 = .ok (.putfield 32, 3) := by decide +kernel
theorem d_Reg_push_124 : decode b_Reg_push 124 = .ok (.iconst 1, 1) := by decide +kernel
theorem d_Reg_push_125 : decode b_Reg_push 125 = .ok (.ireturn, 1) := by decide +kernel
theorem d_Reg_put_0 : decode b_Reg_put 0 = .ok (.iload_n 1, 1) := by decide +kernel
theorem d_Reg_put_1 : decode b_Reg_put 1 = .ok (.bipush 19, 2) := by decide +kernel
theorem d_Reg_put_3 : decode b_Reg_put 3 = .ok (.if_icmp .ne 48, 3) := by decide +kernel
theorem d_Reg_put_6 : decode b_Reg_put 6 = .ok (.lload_n 2, 1) := by decide +kernel
theorem d_Reg_put_7 : decode b_Reg_put 7 = .ok (.ldc2_w 35, 3) := by decide +kernel
theorem d_Reg_put_10 : decode b_Reg_put 10 = .ok (.lcmp, 1) := by decide +kernel
theorem d_Reg_put_11 : decode b_Reg_put 11 = .ok (.ifCond .lt 101, 3) := by decide +kernel
theorem d_Reg_put_14 : decode b_Reg_put 14 = .ok (.lload_n 2, 1) := by decide +kernel
theorem d_Reg_put_15 : decode b_Reg_put 15 = .ok (.ldc2_w 37, 3) := by decide +kernel
theorem d_Reg_put_18 : decode b_Reg_put 18 = .ok (.lcmp, 1) := by decide +kernel
theorem d_Reg_put_19 : decode b_Reg_put 19 = .ok (.ifCond .gt 93, 3) := by decide +kernel
theorem d_Reg_put_22 : decode b_Reg_put 22 = .ok (.lload_n 2, 1) := by decide +kernel
theorem d_Reg_put_23 : decode b_Reg_put 23 = .ok (.aload_n 0, 1) := by decide +kernel
theorem d_Reg_put_24 : decode b_Reg_put 24 = .ok (.getfield 32, 3) := by decide +kernel
theorem d_Reg_put_27 : decode b_Reg_put 27 = .ok (.i2l, 1) := by decide +kernel
theorem d_Reg_put_28 : decode b_Reg_put 28 = .ok (.lcmp, 1) := by decide +kernel
theorem d_Reg_put_29 : decode b_Reg_put 29 = .ok (.ifCond .lt 83, 3) := by decide +kernel
theorem d_Reg_put_32 : decode b_Reg_put 32 = .ok (.aload_n 0, 1) := by decide +kernel
theorem d_Reg_put_33 : decode b_Reg_put 33 = .ok (.aload_n 0, 1) := by decide +kernel
theorem d_Reg_put_34 : decode b_Reg_put 34 = .ok (.getfield 21, 3) := by decide +kernel
theorem d_Reg_put_37 : decode b_Reg_put 37 = .ok (.lload_n 2, 1) := by decide +kernel
theorem d_Reg_put_38 : decode b_Reg_put 38 = .ok (.l2i, 1) := by decide +kernel
theorem d_Reg_put_39 : decode b_Reg_put 39 = .ok (.invokevirtual 25, 3) := by decide +kernel
theorem d_Reg_put_42 : decode b_Reg_put 42 = .ok (.aload_n 0, 1) := by decide +kernel
theorem d_Reg_put_43 : decode b_Reg_put 43 = .ok (.lload_n 2, 1) := by decide +kernel
theorem d_Reg_put_44 : decode b_Reg_put 44 = .ok (.l2i, 1) := by decide +kernel
theorem d_Reg_put_45 : decode b_Reg_put 45 = .ok (.putfield 21, 3) := by decide +kernel
theorem d_Reg_put_48 : decode b_Reg_put 48 = .ok (.goto 64, 3) := by decide +kernel
theorem d_Reg_put_51 : decode b_Reg_put 51 = .ok (.iload_n 1, 1) := by decide +kernel
theorem d_Reg_put_52 : decode b_Reg_put 52 = .ok (.bipush 20, 2) := by decide +kernel
theorem d_Reg_put_54 : decode b_Reg_put 54 = .ok (.if_icmp .ne 38, 3) := by decide +kernel
theorem d_Reg_put_57 : decode b_Reg_put 57 = .ok (.lload_n 2, 1) := by decide +kernel
theorem d_Reg_put_58 : decode b_Reg_put 58 = .ok (.lconst 0, 1) := by decide +kernel
theorem d_Reg_put_59 : decode b_Reg_put 59 = .ok (.lcmp, 1) := by decide +kernel
theorem d_Reg_put_60 : decode b_Reg_put 60 = .ok (.ifCond .lt 52, 3) := by decide +kernel
theorem d_Reg_put_63 : decode b_Reg_put 63 = .ok (.lload_n 2, 1) := by decide +kernel
theorem d_Reg_put_64 : decode b_Reg_put 64 = .ok (.aload_n 0, 1) := by decide +kernel
theorem d_Reg_put_65 : decode b_Reg_put 65 = .ok (.getfield 32, 3) := by decide +kernel
theorem d_Reg_put_68 : decode b_Reg_put 68 = .ok (.i2l, 1) := by decide +kernel
theorem d_Reg_put_69 : decode b_Reg_put 69 = .ok (.lcmp, 1) := by decide +kernel
theorem d_Reg_put_70 : decode b_Reg_put 70 = .ok (.ifCond .ge 42, 3) := by decide +kernel
theorem d_Reg_put_73 : decode b_Reg_put 73 = .ok (.aload_n 0, 1) := by decide +kernel
theorem d_Reg_put_74 : decode b_Reg_put 74 = .ok (.lload_n 2, 1) := by decide +kernel
theorem d_Reg_put_75 : decode b_Reg_put 75 = .ok (.l2i, 1) := by decide +kernel
theorem d_Reg_put_76 : decode b_Reg_put 76 = .ok (.aload_n 0, 1) := by decide +kernel
theorem d_Reg_put_77 : decode b_Reg_put 77 = .ok (.getfield 32, 3) := by decide +kernel
theorem d_Reg_put_80 : decode b_Reg_put 80 = .ok (.invokevirtual 25, 3) := by decide +kernel
theorem d_Reg_put_83 : decode b_Reg_put 83 = .ok (.aload_n 0, 1) := by decide +kernel
theorem d_Reg_put_84 : decode b_Reg_put 84 = .ok (.lload_n 2, 1) := by decide +kernel
theorem d_Reg_put_85 : decode b_Reg_put 85 = .ok (.l2i, 1) := by decide +kernel
theorem d_Reg_put_86 : decode b_Reg_put 86 = .ok (.putfield 32, 3) := by decide +kernel
theorem d_Reg_put_89 : decode b_Reg_put 89 = .ok (.goto 23, 3) := by decide +kernel
theorem d_Reg_put_92 : decode b_Reg_put 92 = .ok (.aload_n 0, 1) := by decide +kernel
theorem d_Reg_put_93 : decode b_Reg_put 93 = .ok (.iload_n 1, 1) := by decide +kernel
theorem d_Reg_put_94 : decode b_Reg_put 94 = .ok (.iload_n 1, 1) := by decide +kernel
theorem d_Reg_put_95 : decode b_Reg_put 95 = .ok (.bipush 21, 2) := by decide +kernel
theorem d_Reg_put_97 : decode b_Reg_put 97 = .ok (.if_icmp .ne 11, 3) := by decide +kernel
theorem d_Reg_put_100 : decode b_Reg_put 100 = .ok (.lload_n 2, 1) := by decide +kernel
theorem d_Reg_put_101 : decode b_Reg_put 101 = .ok (.ldc2_w 39, 3) := by decide +kernel
theorem d_Reg_put_104 : decode b_Reg_put 104 = .ok (.land, 1) := by decide +kernel
theorem d_Reg_put_105 : decode b_Reg_put 105 = .ok (.goto 4, 3) := by decide +kernel
theorem d_Reg_put_108 : decode b_Reg_put 108 = .ok (.lload_n 2, 1) := by decide +kernel
theorem d_Reg_put_109 : decode b_Reg_put 109 = .ok (.invokevirtual 41, 3) := by decide +kernel
theorem d_Reg_put_112 : decode b_Reg_put 112 = .ok (.return_, 1) := by decide +kernel
