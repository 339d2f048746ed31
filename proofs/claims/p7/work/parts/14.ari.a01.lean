theorem d_LittleMix_Arithmetic_upper_27 : decode b_LittleMix_Arithmetic_upper 27 = .ok (.lload_n 0, 1) := by decide +kernel
theorem d_LittleMix_Arithmetic_upper_28 : decode b_LittleMix_Arithmetic_upper 28 = .ok (.ldc2_w 11, 3) := by decide +kernel
theorem d_LittleMix_Arithmetic_upper_31 : decode b_LittleMix_Arithmetic_upper 31 = .ok (.land, 1) := by decide +kernel
theorem d_LittleMix_Arithmetic_upper_32 : decode b_LittleMix_Arithmetic_upper 32 = .ok (.lload_n 2, 1) := by decide +kernel
theorem d_LittleMix_Arithmetic_upper_33 : decode b_LittleMix_Arithmetic_upper 33 = .ok (.bipush 32, 2) := by decide +kernel
theorem d_LittleMix_Arithmetic_upper_35 : decode b_LittleMix_Arithmetic_upper 35 = .ok (.lushr, 1) := by decide +kernel
theorem d_LittleMix_Arithmetic_upper_36 : decode b_LittleMix_Arithmetic_upper 36 = .ok (.lmul, 1) := by decide +kernel
theorem d_LittleMix_Arithmetic_upper_37 : decode b_LittleMix_Arithmetic_upper 37 = .ok (.lload 4, 2) := by decide +kernel
theorem d_LittleMix_Arithmetic_upper_39 : decode b_LittleMix_Arithmetic_upper 39 = .ok (.ldc2_w 11, 3) := by decide +kernel
theorem d_LittleMix_Arithmetic_upper_42 : decode b_LittleMix_Arithmetic_upper 42 = .ok (.land, 1) := by decide +kernel
theorem d_LittleMix_Arithmetic_upper_43 : decode b_LittleMix_Arithmetic_upper 43 = .ok (.ladd, 1) := by decide +kernel
theorem d_LittleMix_Arithmetic_upper_44 : decode b_LittleMix_Arithmetic_upper 44 = .ok (.lstore 6, 2) := by decide +kernel
theorem d_LittleMix_Arithmetic_upper_46 : decode b_LittleMix_Arithmetic_upper 46 = .ok (.lload_n 0, 1) := by decide +kernel
theorem d_LittleMix_Arithmetic_upper_47 : decode b_LittleMix_Arithmetic_upper 47 = .ok (.bipush 32, 2) := by decide +kernel
theorem d_LittleMix_Arithmetic_upper_49 : decode b_LittleMix_Arithmetic_upper 49 = .ok (.lushr, 1) := by decide +kernel
theorem d_LittleMix_Arithmetic_upper_50 : decode b_LittleMix_Arithmetic_upper 50 = .ok (.lload_n 2, 1) := by decide +kernel
theorem d_LittleMix_Arithmetic_upper_51 : decode b_LittleMix_Arithmetic_upper 51 = .ok (.bipush 32, 2) := by decide +kernel
theorem d_LittleMix_Arithmetic_upper_53 : decode b_LittleMix_Arithmetic_upper 53 = .ok (.lushr, 1) := by decide +kernel
theorem d_LittleMix_Arithmetic_upper_54 : decode b_LittleMix_Arithmetic_upper 54 = .ok (.lmul, 1) := by decide +kernel
theorem d_LittleMix_Arithmetic_upper_55 : decode b_LittleMix_Arithmetic_upper 55 = .ok (.lload 4, 2) := by decide +kernel
theorem d_LittleMix_Arithmetic_upper_57 : decode b_LittleMix_Arithmetic_upper 57 = .ok (.bipush 32, 2) := by decide +kernel
theorem d_LittleMix_Arithmetic_upper_59 : decode b_LittleMix_Arithmetic_upper 59 = .ok (.lushr, 1) := by decide +kernel
theorem d_LittleMix_Arithmetic_upper_60 : decode b_LittleMix_Arithmetic_upper 60 = .ok (.ladd, 1) := by decide +kernel
theorem d_LittleMix_Arithmetic_upper_61 : decode b_LittleMix_Arithmetic_upper 61 = .ok (.lload 6, 2) := by decide +kernel
theorem d_LittleMix_Arithmetic_upper_63 : decode b_LittleMix_Arithmetic_upper 63 = .ok (.bipush 32, 2) := by decide +kernel
theorem d_LittleMix_Arithmetic_upper_65 : decode b_LittleMix_Arithmetic_upper 65 = .ok (.lushr, 1) := by decide +kernel
theorem d_LittleMix_Arithmetic_upper_66 : decode b_LittleMix_Arithmetic_upper 66 = .ok (.ladd, 1) := by decide +kernel
theorem d_LittleMix_Arithmetic_upper_67 : decode b_LittleMix_Arithmetic_upper 67 = .ok (.lreturn, 1) := by decide +kernel
