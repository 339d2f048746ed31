theorem d_Mod_right_6 : decode b_Mod_right 6 = .ok (.ifCond .lt 11, 3) := by decide +kernel
theorem d_Mod_right_9 : decode b_Mod_right 9 = .ok (.lload_n 2, 1) := by decide +kernel
theorem d_Mod_right_10 : decode b_Mod_right 10 = .ok (.ldc2_w 346, 3) := by decide +kernel
theorem d_Mod_right_13 : decode b_Mod_right 13 = .ok (.lcmp, 1) := by decide +kernel
theorem d_Mod_right_14 : decode b_Mod_right 14 = .ok (.ifCond .le 8, 3) := by decide +kernel
theorem d_Mod_right_17 : decode b_Mod_right 17 = .ok (.bipush 64, 2) := by decide +kernel
theorem d_Mod_right_19 : decode b_Mod_right 19 = .ok (.goto 5, 3) := by decide +kernel
theorem d_Mod_right_22 : decode b_Mod_right 22 = .ok (.lload_n 2, 1) := by decide +kernel
theorem d_Mod_right_23 : decode b_Mod_right 23 = .ok (.l2i, 1) := by decide +kernel
theorem d_Mod_right_24 : decode b_Mod_right 24 = .ok (.istore 7, 2) := by decide +kernel
theorem d_Mod_right_26 : decode b_Mod_right 26 = .ok (.iconst 0, 1) := by decide +kernel
theorem d_Mod_right_27 : decode b_Mod_right 27 = .ok (.istore 8, 2) := by decide +kernel
theorem d_Mod_right_29 : decode b_Mod_right 29 = .ok (.iload 8, 2) := by decide +kernel
theorem d_Mod_right_31 : decode b_Mod_right 31 = .ok (.iload 7, 2) := by decide +kernel
theorem d_Mod_right_33 : decode b_Mod_right 33 = .ok (.if_icmp .ge 31, 3) := by decide +kernel
theorem d_Mod_right_36 : decode b_Mod_right 36 = .ok (.lload 5, 2) := by decide +kernel
theorem d_Mod_right_38 : decode b_Mod_right 38 = .ok (.iconst 1, 1) := by decide +kernel
theorem d_Mod_right_39 : decode b_Mod_right 39 = .ok (.lushr, 1) := by decide +kernel
theorem d_Mod_right_40 : decode b_Mod_right 40 = .ok (.iload 4, 2) := by decide +kernel
theorem d_Mod_right_42 : decode b_Mod_right 42 = .ok (.ifCond .eq 12, 3) := by decide +kernel
theorem d_Mod_right_45 : decode b_Mod_right 45 = .ok (.lload 5, 2) := by decide +kernel
theorem d_Mod_right_47 : decode b_Mod_right 47 = .ok (.ldc2_w 340, 3) := by decide +kernel
theorem d_Mod_right_50 : decode b_Mod_right 50 = .ok (.land, 1) := by decide +kernel
theorem d_Mod_right_51 : decode b_Mod_right 51 = .ok (.goto 4, 3) := by decide +kernel
theorem d_Mod_right_54 : decode b_Mod_right 54 = .ok (.lconst 0, 1) := by decide +kernel
theorem d_Mod_right_55 : decode b_Mod_right 55 = .ok (.lor, 1) := by decide +kernel
theorem d_Mod_right_56 : decode b_Mod_right 56 = .ok (.lstore 5, 2) := by decide +kernel
theorem d_Mod_right_58 : decode b_Mod_right 58 = .ok (.iinc 8 1, 3) := by decide +kernel
theorem d_Mod_right_61 : decode b_Mod_right 61 = .ok (.goto (-32), 3) := by decide +kernel
theorem d_Mod_right_64 : decode b_Mod_right 64 = .ok (.lload 5, 2) := by decide +kernel
theorem d_Mod_right_66 : decode b_Mod_right 66 = .ok (.lreturn, 1) := by decide +kernel
