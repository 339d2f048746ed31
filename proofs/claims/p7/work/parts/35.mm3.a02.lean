theorem d_Mod_trip_53 : decode b_Mod_trip 53 = .ok (.bipush 26, 2) := by decide +kernel
theorem d_Mod_trip_55 : decode b_Mod_trip 55 = .ok (.lload 5, 2) := by decide +kernel
theorem d_Mod_trip_57 : decode b_Mod_trip 57 = .ok (.lastore, 1) := by decide +kernel
theorem d_Mod_trip_58 : decode b_Mod_trip 58 = .ok (.aload_n 0, 1) := by decide +kernel
theorem d_Mod_trip_59 : decode b_Mod_trip 59 = .ok (.getfield 46, 3) := by decide +kernel
theorem d_Mod_trip_62 : decode b_Mod_trip 62 = .ok (.bipush 27, 2) := by decide +kernel
theorem d_Mod_trip_64 : decode b_Mod_trip 64 = .ok (.lload 7, 2) := by decide +kernel
theorem d_Mod_trip_66 : decode b_Mod_trip 66 = .ok (.lastore, 1) := by decide +kernel
theorem d_Mod_trip_67 : decode b_Mod_trip 67 = .ok (.lload_n 1, 1) := by decide +kernel
theorem d_Mod_trip_68 : decode b_Mod_trip 68 = .ok (.lreturn, 1) := by decide +kernel
theorem d_Mod_wide_0 : decode b_Mod_wide 0 = .ok (.aload_n 0, 1) := by decide +kernel
theorem d_Mod_wide_1 : decode b_Mod_wide 1 = .ok (.iload_n 2, 1) := by decide +kernel
theorem d_Mod_wide_2 : decode b_Mod_wide 2 = .ok (.invokevirtual 385, 3) := by decide +kernel
theorem d_Mod_wide_5 : decode b_Mod_wide 5 = .ok (.lstore 5, 2) := by decide +kernel
theorem d_Mod_wide_7 : decode b_Mod_wide 7 = .ok (.iload_n 1, 1) := by decide +kernel
theorem d_Mod_wide_8 : decode b_Mod_wide 8 = .ok (.sipush 224, 3) := by decide +kernel
theorem d_Mod_wide_11 : decode b_Mod_wide 11 = .ok (.isub, 1) := by decide +kernel
theorem d_Mod_wide_12 : decode b_Mod_wide 12 = .ok (.iconst 2, 1) := by decide +kernel
theorem d_Mod_wide_13 : decode b_Mod_wide 13 = .ok (.ishr, 1) := by decide +kernel
theorem d_Mod_wide_14 : decode b_Mod_wide 14 = .ok (.istore 7, 2) := by decide +kernel
theorem d_Mod_wide_16 : decode b_Mod_wide 16 = .ok (.aload_n 0, 1) := by decide +kernel
theorem d_Mod_wide_17 : decode b_Mod_wide 17 = .ok (.iload_n 2, 1) := by decide +kernel
theorem d_Mod_wide_18 : decode b_Mod_wide 18 = .ok (.iload 7, 2) := by decide +kernel
theorem d_Mod_wide_20 : decode b_Mod_wide 20 = .ok (.ifCond .ne 7, 3) := by decide +kernel
theorem d_Mod_wide_23 : decode b_Mod_wide 23 = .ok (.lload_n 3, 1) := by decide +kernel
theorem d_Mod_wide_24 : decode b_Mod_wide 24 = .ok (.goto 37, 3) := by decide +kernel
theorem d_Mod_wide_27 : decode b_Mod_wide 27 = .ok (.iload 7, 2) := by decide +kernel
theorem d_Mod_wide_29 : decode b_Mod_wide 29 = .ok (.iconst 1, 1) := by decide +kernel
theorem d_Mod_wide_30 : decode b_Mod_wide 30 = .ok (.if_icmp .ne 10, 3) := by decide +kernel
theorem d_Mod_wide_33 : decode b_Mod_wide 33 = .ok (.lload 5, 2) := by decide +kernel
theorem d_Mod_wide_35 : decode b_Mod_wide 35 = .ok (.lload_n 3, 1) := by decide +kernel
theorem d_Mod_wide_36 : decode b_Mod_wide 36 = .ok (.ladd, 1) := by decide +kernel
theorem d_Mod_wide_37 : decode b_Mod_wide 37 = .ok (.goto 24, 3) := by decide +kernel
theorem d_Mod_wide_40 : decode b_Mod_wide 40 = .ok (.iload 7, 2) := by decide +kernel
theorem d_Mod_wide_42 : decode b_Mod_wide 42 = .ok (.iconst 2, 1) := by decide +kernel
theorem d_Mod_wide_43 : decode b_Mod_wide 43 = .ok (.if_icmp .ne 10, 3) := by decide +kernel
theorem d_Mod_wide_46 : decode b_Mod_wide 46 = .ok (.lload 5, 2) := by decide +kernel
theorem d_Mod_wide_48 : decode b_Mod_wide 48 = .ok (.lload_n 3, 1) := by decide +kernel
theorem d_Mod_wide_49 : decode b_Mod_wide 49 = .ok (.lor, 1) := by decide +kernel
theorem d_Mod_wide_50 : decode b_Mod_wide 50 = .ok (.goto 11, 3) := by decide +kernel
theorem d_Mod_wide_53 : decode b_Mod_wide 53 = .ok (.lload 5, 2) := by decide +kernel
theorem d_Mod_wide_55 : decode b_Mod_wide 55 = .ok (.lload_n 3, 1) := by decide +kernel
theorem d_Mod_wide_56 : decode b_Mod_wide 56 = .ok (.ldc2_w 301, 3) := by decide +kernel
theorem d_Mod_wide_59 : decode b_Mod_wide 59 = .ok (.lxor, 1) := by decide +kernel
theorem d_Mod_wide_60 : decode b_Mod_wide 60 = .ok (.land, 1) := by decide +kernel
theorem d_Mod_wide_61 : decode b_Mod_wide 61 = .ok (.invokevirtual 393, 3) := by decide +kernel
theorem d_Mod_wide_64 : decode b_Mod_wide 64 = .ok (.return_, 1) := by decide +kernel
