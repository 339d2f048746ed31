theorem d_Mod_labelNamed_67 : decode b_Mod_labelNamed 67 = .ok (.iaload, 1) := by decide +kernel
theorem d_Mod_labelNamed_68 : decode b_Mod_labelNamed 68 = .ok (.if_icmp .ne 7, 3) := by decide +kernel
theorem d_Mod_labelNamed_71 : decode b_Mod_labelNamed 71 = .ok (.iconst 1, 1) := by decide +kernel
theorem d_Mod_labelNamed_72 : decode b_Mod_labelNamed 72 = .ok (.goto 4, 3) := by decide +kernel
theorem d_Mod_labelNamed_75 : decode b_Mod_labelNamed 75 = .ok (.iconst 0, 1) := by decide +kernel
theorem d_Mod_labelNamed_76 : decode b_Mod_labelNamed 76 = .ok (.istore 4, 2) := by decide +kernel
theorem d_Mod_labelNamed_78 : decode b_Mod_labelNamed 78 = .ok (.iinc 5 1, 3) := by decide +kernel
theorem d_Mod_labelNamed_81 : decode b_Mod_labelNamed 81 = .ok (.goto (-49), 3) := by decide +kernel
theorem d_Mod_labelNamed_84 : decode b_Mod_labelNamed 84 = .ok (.iload 4, 2) := by decide +kernel
theorem d_Mod_labelNamed_86 : decode b_Mod_labelNamed 86 = .ok (.ifCond .eq 5, 3) := by decide +kernel
theorem d_Mod_labelNamed_89 : decode b_Mod_labelNamed 89 = .ok (.iload_n 3, 1) := by decide +kernel
theorem d_Mod_labelNamed_90 : decode b_Mod_labelNamed 90 = .ok (.ireturn, 1) := by decide +kernel
theorem d_Mod_labelNamed_91 : decode b_Mod_labelNamed 91 = .ok (.iinc 3 1, 3) := by decide +kernel
theorem d_Mod_labelNamed_94 : decode b_Mod_labelNamed 94 = .ok (.goto (-92), 3) := by decide +kernel
theorem d_Mod_labelNamed_97 : decode b_Mod_labelNamed 97 = .ok (.iconst (-1), 1) := by decide +kernel
theorem d_Mod_labelNamed_98 : decode b_Mod_labelNamed 98 = .ok (.ireturn, 1) := by decide +kernel
theorem d_Mod_specialNamed_0 : decode b_Mod_specialNamed 0 = .ok (.aload_n 0, 1) := by decide +kernel
theorem d_Mod_specialNamed_1 : decode b_Mod_specialNamed 1 = .ok (.iload_n 1, 1) := by decide +kernel
theorem d_Mod_specialNamed_2 : decode b_Mod_specialNamed 2 = .ok (.iload_n 2, 1) := by decide +kernel
theorem d_Mod_specialNamed_3 : decode b_Mod_specialNamed 3 = .ok (.ldc 124, 2) := by decide +kernel
theorem d_Mod_specialNamed_5 : decode b_Mod_specialNamed 5 = .ok (.invokevirtual 126, 3) := by decide +kernel
theorem d_Mod_specialNamed_8 : decode b_Mod_specialNamed 8 = .ok (.istore_n 3, 1) := by decide +kernel
theorem d_Mod_specialNamed_9 : decode b_Mod_specialNamed 9 = .ok (.iload_n 3, 1) := by decide +kernel
theorem d_Mod_specialNamed_10 : decode b_Mod_specialNamed 10 = .ok (.iconst (-1), 1) := by decide +kernel
theorem d_Mod_specialNamed_11 : decode b_Mod_specialNamed 11 = .ok (.if_icmp .ne 7, 3) := by decide +kernel
theorem d_Mod_specialNamed_14 : decode b_Mod_specialNamed 14 = .ok (.iconst (-1), 1) := by decide +kernel
theorem d_Mod_specialNamed_15 : decode b_Mod_specialNamed 15 = .ok (.goto 7, 3) := by decide +kernel
theorem d_Mod_specialNamed_18 : decode b_Mod_specialNamed 18 = .ok (.iload_n 3, 1) := by decide +kernel
theorem d_Mod_specialNamed_19 : decode b_Mod_specialNamed 19 = .ok (.invokestatic 130, 3) := by decide +kernel
theorem d_Mod_specialNamed_22 : decode b_Mod_specialNamed 22 = .ok (.ireturn, 1) := by decide +kernel
theorem d_Mod_specialOf_0 : decode b_Mod_specialOf 0 = .ok (.iload_n 0, 1) := by decide +kernel
theorem d_Mod_specialOf_1 : decode b_Mod_specialOf 1 = .ok (.iconst 2, 1) := by decide +kernel
theorem d_Mod_specialOf_2 : decode b_Mod_specialOf 2 = .ok (.if_icmp .ge 7, 3) := by decide +kernel
theorem d_Mod_specialOf_5 : decode b_Mod_specialOf 5 = .ok (.iload_n 0, 1) := by decide +kernel
theorem d_Mod_specialOf_6 : decode b_Mod_specialOf 6 = .ok (.goto 32, 3) := by decide +kernel
theorem d_Mod_specialOf_9 : decode b_Mod_specialOf 9 = .ok (.iload_n 0, 1) := by decide +kernel
theorem d_Mod_specialOf_10 : decode b_Mod_specialOf 10 = .ok (.bipush 6, 2) := by decide +kernel
theorem d_Mod_specialOf_12 : decode b_Mod_specialOf 12 = .ok (.if_icmp .ge 9, 3) := by decide +kernel
theorem d_Mod_specialOf_15 : decode b_Mod_specialOf 15 = .ok (.iload_n 0, 1) := by decide +kernel
theorem d_Mod_specialOf_16 : decode b_Mod_specialOf 16 = .ok (.iconst 1, 1) := by decide +kernel
theorem d_Mod_specialOf_17 : decode b_Mod_specialOf 17 = .ok (.iadd, 1) := by decide +kernel
theorem d_Mod_specialOf_18 : decode b_Mod_specialOf 18 = .ok (.goto 20, 3) := by decide +kernel
theorem d_Mod_specialOf_21 : decode b_Mod_specialOf 21 = .ok (.iload_n 0, 1) := by decide +kernel
theorem d_Mod_specialOf_22 : decode b_Mod_specialOf 22 = .ok (.bipush 9, 2) := by decide +kernel
theorem d_Mod_specialOf_24 : decode b_Mod_specialOf 24 = .ok (.if_icmp .ge 10, 3) := by decide +kernel
theorem d_Mod_specialOf_27 : decode b_Mod_specialOf 27 = .ok (.iload_n 0, 1) := by decide +kernel
theorem d_Mod_specialOf_28 : decode b_Mod_specialOf 28 = .ok (.bipush 13, 2) := by decide +kernel
theorem d_Mod_specialOf_30 : decode b_Mod_specialOf 30 = .ok (.iadd, 1) := by decide +kernel
theorem d_Mod_specialOf_31 : decode b_Mod_specialOf 31 = .ok (.goto 7, 3) := by decide +kernel
theorem d_Mod_specialOf_34 : decode b_Mod_specialOf 34 = .ok (.iload_n 0, 1) := by decide +kernel
theorem d_Mod_specialOf_35 : decode b_Mod_specialOf 35 = .ok (.bipush 15, 2) := by decide +kernel
theorem d_Mod_specialOf_37 : decode b_Mod_specialOf 37 = .ok (.iadd, 1) := by decide +kernel
theorem d_Mod_specialOf_38 : decode b_Mod_specialOf 38 = .ok (.ireturn, 1) := by decide +kernel
theorem d_Mod_word_0 : decode b_Mod_word 0 = .ok (.iload_n 1, 1) := by decide +kernel
theorem d_Mod_word_1 : decode b_Mod_word 1 = .ok (.istore_n 2, 1) := by decide +kernel
theorem d_Mod_word_2 : decode b_Mod_word 2 = .ok (.aload_n 0, 1) := by decide +kernel
theorem d_Mod_word_3 : decode b_Mod_word 3 = .ok (.iload_n 2, 1) := by decide +kernel
theorem d_Mod_word_4 : decode b_Mod_word 4 = .ok (.invokevirtual 91, 3) := by decide +kernel
theorem d_Mod_word_7 : decode b_Mod_word 7 = .ok (.invokestatic 95, 3) := by decide +kernel
theorem d_Mod_word_10 : decode b_Mod_word 10 = .ok (.ifCond .ne 14, 3) := by decide +kernel
theorem d_Mod_word_13 : decode b_Mod_word 13 = .ok (.aload_n 0, 1) := by decide +kernel
theorem d_Mod_word_14 : decode b_Mod_word 14 = .ok (.iload_n 2, 1) := by decide +kernel
theorem d_Mod_word_15 : decode b_Mod_word 15 = .ok (.invokevirtual 91, 3) := by decide +kernel
theorem d_Mod_word_18 : decode b_Mod_word 18 = .ok (.invokestatic 99, 3) := by decide +kernel
theorem d_Mod_word_21 : decode b_Mod_word 21 = .ok (.ifCond .eq 9, 3) := by decide +kernel
theorem d_Mod_word_24 : decode b_Mod_word 24 = .ok (.iinc 2 1, 3) := by decide +kernel
theorem d_Mod_word_27 : decode b_Mod_word 27 = .ok (.goto (-25), 3) := by decide +kernel
theorem d_Mod_word_30 : decode b_Mod_word 30 = .ok (.iload_n 2, 1) := by decide +kernel
theorem d_Mod_word_31 : decode b_Mod_word 31 = .ok (.ireturn, 1) := by decide +kernel
