theorem d_Mac_combined_73 : decode b_Mac_combined 73 = .ok (.getfield 89, 3) := by decide +kernel
theorem d_Mac_combined_76 : decode b_Mac_combined 76 = .ok (.aload_n 0, 1) := by decide +kernel
theorem d_Mac_combined_77 : decode b_Mac_combined 77 = .ok (.getfield 92, 3) := by decide +kernel
theorem d_Mac_combined_80 : decode b_Mac_combined 80 = .ok (.lor, 1) := by decide +kernel
theorem d_Mac_combined_81 : decode b_Mac_combined 81 = .ok (.ldc2_w 168, 3) := by decide +kernel
theorem d_Mac_combined_84 : decode b_Mac_combined 84 = .ok (.lxor, 1) := by decide +kernel
theorem d_Mac_combined_85 : decode b_Mac_combined 85 = .ok (.lreturn, 1) := by decide +kernel
theorem d_Mac_combined_86 : decode b_Mac_combined 86 = .ok (.aload_n 0, 1) := by decide +kernel
theorem d_Mac_combined_87 : decode b_Mac_combined 87 = .ok (.getfield 89, 3) := by decide +kernel
theorem d_Mac_combined_90 : decode b_Mac_combined 90 = .ok (.aload_n 0, 1) := by decide +kernel
theorem d_Mac_combined_91 : decode b_Mac_combined 91 = .ok (.getfield 92, 3) := by decide +kernel
theorem d_Mac_combined_94 : decode b_Mac_combined 94 = .ok (.lxor, 1) := by decide +kernel
theorem d_Mac_combined_95 : decode b_Mac_combined 95 = .ok (.lreturn, 1) := by decide +kernel
theorem d_Mac_combined_96 : decode b_Mac_combined 96 = .ok (.aload_n 0, 1) := by decide +kernel
theorem d_Mac_combined_97 : decode b_Mac_combined 97 = .ok (.getfield 89, 3) := by decide +kernel
theorem d_Mac_combined_100 : decode b_Mac_combined 100 = .ok (.aload_n 0, 1) := by decide +kernel
theorem d_Mac_combined_101 : decode b_Mac_combined 101 = .ok (.getfield 92, 3) := by decide +kernel
theorem d_Mac_combined_104 : decode b_Mac_combined 104 = .ok (.land, 1) := by decide +kernel
theorem d_Mac_combined_105 : decode b_Mac_combined 105 = .ok (.lreturn, 1) := by decide +kernel
theorem d_Mac_combined_106 : decode b_Mac_combined 106 = .ok (.aload_n 0, 1) := by decide +kernel
theorem d_Mac_combined_107 : decode b_Mac_combined 107 = .ok (.getfield 89, 3) := by decide +kernel
theorem d_Mac_combined_110 : decode b_Mac_combined 110 = .ok (.aload_n 0, 1) := by decide +kernel
theorem d_Mac_combined_111 : decode b_Mac_combined 111 = .ok (.getfield 92, 3) := by decide +kernel
theorem d_Mac_combined_114 : decode b_Mac_combined 114 = .ok (.ldc2_w 168, 3) := by decide +kernel
theorem d_Mac_combined_117 : decode b_Mac_combined 117 = .ok (.lxor, 1) := by decide +kernel
theorem d_Mac_combined_118 : decode b_Mac_combined 118 = .ok (.land, 1) := by decide +kernel
theorem d_Mac_combined_119 : decode b_Mac_combined 119 = .ok (.lreturn, 1) := by decide +kernel
theorem d_Mac_combined_120 : decode b_Mac_combined 120 = .ok (.aload_n 0, 1) := by decide +kernel
theorem d_Mac_combined_121 : decode b_Mac_combined 121 = .ok (.getfield 89, 3) := by decide +kernel
theorem d_Mac_combined_124 : decode b_Mac_combined 124 = .ok (.aload_n 0, 1) := by decide +kernel
theorem d_Mac_combined_125 : decode b_Mac_combined 125 = .ok (.getfield 92, 3) := by decide +kernel
theorem d_Mac_combined_128 : decode b_Mac_combined 128 = .ok (.land, 1) := by decide +kernel
theorem d_Mac_combined_129 : decode b_Mac_combined 129 = .ok (.ldc2_w 168, 3) := by decide +kernel
theorem d_Mac_combined_132 : decode b_Mac_combined 132 = .ok (.lxor, 1) := by decide +kernel
theorem d_Mac_combined_133 : decode b_Mac_combined 133 = .ok (.lreturn, 1) := by decide +kernel
theorem d_Mac_combined_134 : decode b_Mac_combined 134 = .ok (.aload_n 0, 1) := by decide +kernel
theorem d_Mac_combined_135 : decode b_Mac_combined 135 = .ok (.getfield 89, 3) := by decide +kernel
theorem d_Mac_combined_138 : decode b_Mac_combined 138 = .ok (.aload_n 0, 1) := by decide +kernel
theorem d_Mac_combined_139 : decode b_Mac_combined 139 = .ok (.getfield 92, 3) := by decide +kernel
theorem d_Mac_combined_142 : decode b_Mac_combined 142 = .ok (.lxor, 1) := by decide +kernel
theorem d_Mac_combined_143 : decode b_Mac_combined 143 = .ok (.ldc2_w 168, 3) := by decide +kernel
theorem d_Mac_combined_146 : decode b_Mac_combined 146 = .ok (.lxor, 1) := by decide +kernel
theorem d_Mac_combined_147 : decode b_Mac_combined 147 = .ok (.lreturn, 1) := by decide +kernel
theorem d_Mac_getSpecial_0 : decode b_Mac_getSpecial 0 = .ok (.aload_n 0, 1) := by decide +kernel
theorem d_Mac_getSpecial_1 : decode b_Mac_getSpecial 1 = .ok (.getfield 82, 3) := by decide +kernel
theorem d_Mac_getSpecial_4 : decode b_Mac_getSpecial 4 = .ok (.i2l, 1) := by decide +kernel
theorem d_Mac_getSpecial_5 : decode b_Mac_getSpecial 5 = .ok (.invokestatic 252, 3) := by decide +kernel
theorem d_Mac_getSpecial_8 : decode b_Mac_getSpecial 8 = .ok (.ifCond .ne 5, 3) := by decide +kernel
theorem d_Mac_getSpecial_11 : decode b_Mac_getSpecial 11 = .ok (.iconst 1, 1) := by decide +kernel
theorem d_Mac_getSpecial_12 : decode b_Mac_getSpecial 12 = .ok (.ireturn, 1) := by decide +kernel
theorem d_Mac_getSpecial_13 : decode b_Mac_getSpecial 13 = .ok (.aload_n 0, 1) := by decide +kernel
theorem d_Mac_getSpecial_14 : decode b_Mac_getSpecial 14 = .ok (.getfield 13, 3) := by decide +kernel
theorem d_Mac_getSpecial_17 : decode b_Mac_getSpecial 17 = .ok (.aload_n 0, 1) := by decide +kernel
theorem d_Mac_getSpecial_18 : decode b_Mac_getSpecial 18 = .ok (.getfield 76, 3) := by decide +kernel
theorem d_Mac_getSpecial_21 : decode b_Mac_getSpecial 21 = .ok (.aload_n 0, 1) := by decide +kernel
theorem d_Mac_getSpecial_22 : decode b_Mac_getSpecial 22 = .ok (.getfield 13, 3) := by decide +kernel
theorem d_Mac_getSpecial_25 : decode b_Mac_getSpecial 25 = .ok (.aload_n 0, 1) := by decide +kernel
theorem d_Mac_getSpecial_26 : decode b_Mac_getSpecial 26 = .ok (.getfield 82, 3) := by decide +kernel
theorem d_Mac_getSpecial_29 : decode b_Mac_getSpecial 29 = .ok (.invokevirtual 99, 3) := by decide +kernel
theorem d_Mac_getSpecial_32 : decode b_Mac_getSpecial 32 = .ok (.invokevirtual 110, 3) := by decide +kernel
theorem d_Mac_getSpecial_35 : decode b_Mac_getSpecial 35 = .ok (.iconst 0, 1) := by decide +kernel
theorem d_Mac_getSpecial_36 : decode b_Mac_getSpecial 36 = .ok (.ireturn, 1) := by decide +kernel
theorem d_Mac_happen_0 : decode b_Mac_happen 0 = .ok (.aload_n 0, 1) := by decide +kernel
theorem d_Mac_happen_1 : decode b_Mac_happen 1 = .ok (.getfield 13, 3) := by decide +kernel
theorem d_Mac_happen_4 : decode b_Mac_happen 4 = .ok (.bipush 21, 2) := by decide +kernel
theorem d_Mac_happen_6 : decode b_Mac_happen 6 = .ok (.invokevirtual 99, 3) := by decide +kernel
theorem d_Mac_happen_9 : decode b_Mac_happen 9 = .ok (.lstore_n 1, 1) := by decide +kernel
theorem d_Mac_happen_10 : decode b_Mac_happen 10 = .ok (.lload_n 1, 1) := by decide +kernel
theorem d_Mac_happen_11 : decode b_Mac_happen 11 = .ok (.aload_n 0, 1) := by decide +kernel
theorem d_Mac_happen_12 : decode b_Mac_happen 12 = .ok (.getfield 54, 3) := by decide +kernel
theorem d_Mac_happen_15 : decode b_Mac_happen 15 = .ok (.bipush 8, 2) := by decide +kernel
theorem d_Mac_happen_17 : decode b_Mac_happen 17 = .ok (.ishl, 1) := by decide +kernel
theorem d_Mac_happen_18 : decode b_Mac_happen 18 = .ok (.i2l, 1) := by decide +kernel
theorem d_Mac_happen_19 : decode b_Mac_happen 19 = .ok (.land, 1) := by decide +kernel
theorem d_Mac_happen_20 : decode b_Mac_happen 20 = .ok (.lconst 0, 1) := by decide +kernel
theorem d_Mac_happen_21 : decode b_Mac_happen 21 = .ok (.lcmp, 1) := by decide +kernel
theorem d_Mac_happen_22 : decode b_Mac_happen 22 = .ok (.ifCond .ne 22, 3) := by decide +kernel
theorem d_Mac_happen_25 : decode b_Mac_happen 25 = .ok (.aload_n 0, 1) := by decide +kernel
theorem d_Mac_happen_26 : decode b_Mac_happen 26 = .ok (.getfield 13, 3) := by decide +kernel
theorem d_Mac_happen_29 : decode b_Mac_happen 29 = .ok (.bipush 21, 2) := by decide +kernel
theorem d_Mac_happen_31 : decode b_Mac_happen 31 = .ok (.lload_n 1, 1) := by decide +kernel
theorem d_Mac_happen_32 : decode b_Mac_happen 32 = .ok (.aload_n 0, 1) := by decide +kernel
theorem d_Mac_happen_33 : decode b_Mac_happen 33 = .ok (.getfield 54, 3) := by decide +kernel
theorem d_Mac_happen_36 : decode b_Mac_happen 36 = .ok (.i2l, 1) := by decide +kernel
theorem d_Mac_happen_37 : decode b_Mac_happen 37 = .ok (.lor, 1) := by decide +kernel
theorem d_Mac_happen_38 : decode b_Mac_happen 38 = .ok (.invokevirtual 102, 3) := by decide +kernel
theorem d_Mac_happen_41 : decode b_Mac_happen 41 = .ok (.goto 34, 3) := by decide +kernel
theorem d_Mac_happen_44 : decode b_Mac_happen 44 = .ok (.aload_n 0, 1) := by decide +kernel
theorem d_Mac_happen_45 : decode b_Mac_happen 45 = .ok (.aload_n 0, 1) := by decide +kernel
theorem d_Mac_happen_46 : decode b_Mac_happen 46 = .ok (.getfield 54, 3) := by decide +kernel
theorem d_Mac_happen_49 : decode b_Mac_happen 49 = .ok (.sipush 128, 3) := by decide +kernel
theorem d_Mac_happen_52 : decode b_Mac_happen 52 = .ok (.if_icmp .ne 8, 3) := by decide +kernel
theorem d_Mac_happen_55 : decode b_Mac_happen 55 = .ok (.bipush 16, 2) := by decide +kernel
theorem d_Mac_happen_57 : decode b_Mac_happen 57 = .ok (.goto 5, 3) := by decide +kernel
theorem d_Mac_happen_60 : decode b_Mac_happen 60 = .ok (.bipush 32, 2) := by decide +kernel
theorem d_Mac_happen_62 : decode b_Mac_happen 62 = .ok (.invokevirtual 106, 3) := by decide +kernel
theorem d_Mac_happen_65 : decode b_Mac_happen 65 = .ok (.aload_n 0, 1) := by decide +kernel
theorem d_Mac_happen_66 : decode b_Mac_happen 66 = .ok (.dup, 1) := by decide +kernel
theorem d_Mac_happen_67 : decode b_Mac_happen 67 = .ok (.getfield 63, 3) := by decide +kernel
theorem d_Mac_happen_70 : decode b_Mac_happen 70 = .ok (.iconst 5, 1) := by decide +kernel
theorem d_Mac_happen_71 : decode b_Mac_happen 71 = .ok (.iadd, 1) := by decide +kernel
theorem d_Mac_happen_72 : decode b_Mac_happen 72 = .ok (.putfield 63, 3) := by decide +kernel
theorem d_Mac_happen_75 : decode b_Mac_happen 75 = .ok (.return_, 1) := by decide +kernel
theorem d_Mac_multiplied_0 : decode b_Mac_multiplied 0 = .ok (.aload_n 0, 1) := by decide +kernel
theorem d_Mac_multiplied_1 : decode b_Mac_multiplied 1 = .ok (.aload_n 0, 1) := by decide +kernel
theorem d_Mac_multiplied_2 : decode b_Mac_multiplied 2 = .ok (.getfield 73, 3) := by decide +kernel
theorem d_Mac_multiplied_5 : decode b_Mac_multiplied 5 = .ok (.bipush 28, 2) := by decide +kernel
theorem d_Mac_multiplied_7 : decode b_Mac_multiplied 7 = .ok (.if_icmp .ge 8, 3) := by decide +kernel
theorem d_Mac_multiplied_10 : decode b_Mac_multiplied 10 = .ok (.bipush 10, 2) := by decide +kernel
theorem d_Mac_multiplied_12 : decode b_Mac_multiplied 12 = .ok (.goto 5, 3) := by decide +kernel
theorem d_Mac_multiplied_15 : decode b_Mac_multiplied 15 = .ok (.bipush 60, 2) := by decide +kernel
theorem d_Mac_multiplied_17 : decode b_Mac_multiplied 17 = .ok (.putfield 63, 3) := by decide +kernel
theorem d_Mac_multiplied_20 : decode b_Mac_multiplied 20 = .ok (.aload_n 0, 1) := by decide +kernel
theorem d_Mac_multiplied_21 : decode b_Mac_multiplied 21 = .ok (.getfield 73, 3) := by decide +kernel
theorem d_Mac_multiplied_24 : decode b_Mac_multiplied 24 = .ok (.iconst 1, 1) := by decide +kernel
theorem d_Mac_multiplied_25 : decode b_Mac_multiplied 25 = .ok (.ishr, 1) := by decide +kernel
theorem d_Mac_multiplied_26 : decode b_Mac_multiplied 26 = .ok (.tableswitch 93 12 14 #[26, 59, 88], 26) := by decide +kernel
theorem d_Mac_multiplied_52 : decode b_Mac_multiplied 52 = .ok (.aload_n 0, 1) := by decide +kernel
theorem d_Mac_multiplied_53 : decode b_Mac_multiplied 53 = .ok (.aload_n 0, 1) := by decide +kernel
theorem d_Mac_multiplied_54 : decode b_Mac_multiplied 54 = .ok (.getfield 89, 3) := by decide +kernel
theorem d_Mac_multiplied_57 : decode b_Mac_multiplied 57 = .ok (.aload_n 0, 1) := by decide +kernel
theorem d_Mac_multiplied_58 : decode b_Mac_multiplied 58 = .ok (.getfield 92, 3) := by decide +kernel
theorem d_Mac_multiplied_61 : decode b_Mac_multiplied 61 = .ok (.invokestatic 150, 3) := by decide +kernel
theorem d_Mac_multiplied_64 : decode b_Mac_multiplied 64 = .ok (.ifCond .ne 7, 3) := by decide +kernel
theorem d_Mac_multiplied_67 : decode b_Mac_multiplied 67 = .ok (.iconst 1, 1) := by decide +kernel
theorem d_Mac_multiplied_68 : decode b_Mac_multiplied 68 = .ok (.goto 4, 3) := by decide +kernel
theorem d_Mac_multiplied_71 : decode b_Mac_multiplied 71 = .ok (.iconst 0, 1) := by decide +kernel
theorem d_Mac_multiplied_72 : decode b_Mac_multiplied 72 = .ok (.invokevirtual 154, 3) := by decide +kernel
theorem d_Mac_multiplied_75 : decode b_Mac_multiplied 75 = .ok (.aload_n 0, 1) := by decide +kernel
theorem d_Mac_multiplied_76 : decode b_Mac_multiplied 76 = .ok (.getfield 89, 3) := by decide +kernel
theorem d_Mac_multiplied_79 : decode b_Mac_multiplied 79 = .ok (.aload_n 0, 1) := by decide +kernel
theorem d_Mac_multiplied_80 : decode b_Mac_multiplied 80 = .ok (.getfield 92, 3) := by decide +kernel
theorem d_Mac_multiplied_83 : decode b_Mac_multiplied 83 = .ok (.lmul, 1) := by decide +kernel
theorem d_Mac_multiplied_84 : decode b_Mac_multiplied 84 = .ok (.lreturn, 1) := by decide +kernel
theorem d_Mac_multiplied_85 : decode b_Mac_multiplied 85 = .ok (.aload_n 0, 1) := by decide +kernel
theorem d_Mac_multiplied_86 : decode b_Mac_multiplied 86 = .ok (.getfield 13, 3) := by decide +kernel
theorem d_Mac_multiplied_89 : decode b_Mac_multiplied 89 = .ok (.iconst 3, 1) := by decide +kernel
theorem d_Mac_multiplied_90 : decode b_Mac_multiplied 90 = .ok (.aload_n 0, 1) := by decide +kernel
theorem d_Mac_multiplied_91 : decode b_Mac_multiplied 91 = .ok (.getfield 89, 3) := by decide +kernel
theorem d_Mac_multiplied_94 : decode b_Mac_multiplied 94 = .ok (.aload_n 0, 1) := by decide +kernel
theorem d_Mac_multiplied_95 : decode b_Mac_multiplied 95 = .ok (.getfield 92, 3) := by decide +kernel
theorem d_Mac_multiplied_98 : decode b_Mac_multiplied 98 = .ok (.invokestatic 158, 3) := by decide +kernel
theorem d_Mac_multiplied_101 : decode b_Mac_multiplied 101 = .ok (.invokevirtual 102, 3) := by decide +kernel
theorem d_Mac_multiplied_104 : decode b_Mac_multiplied 104 = .ok (.aload_n 0, 1) := by decide +kernel
theorem d_Mac_multiplied_105 : decode b_Mac_multiplied 105 = .ok (.getfield 89, 3) := by decide +kernel
theorem d_Mac_multiplied_108 : decode b_Mac_multiplied 108 = .ok (.aload_n 0, 1) := by decide +kernel
theorem d_Mac_multiplied_109 : decode b_Mac_multiplied 109 = .ok (.getfield 92, 3) := by decide +kernel
theorem d_Mac_multiplied_112 : decode b_Mac_multiplied 112 = .ok (.lmul, 1) := by decide +kernel
theorem d_Mac_multiplied_113 : decode b_Mac_multiplied 113 = .ok (.lreturn, 1) := by decide +kernel
theorem d_Mac_multiplied_114 : decode b_Mac_multiplied 114 = .ok (.aload_n 0, 1) := by decide +kernel
theorem d_Mac_multiplied_115 : decode b_Mac_multiplied 115 = .ok (.invokevirtual 162, 3) := by decide +kernel
theorem d_Mac_multiplied_118 : decode b_Mac_multiplied 118 = .ok (.lreturn, 1) := by decide +kernel
theorem d_Mac_multiplied_119 : decode b_Mac_multiplied 119 = .ok (.aload_n 0, 1) := by decide +kernel
theorem d_Mac_multiplied_120 : decode b_Mac_multiplied 120 = .ok (.invokevirtual 165, 3) := by decide +kernel
theorem d_Mac_multiplied_123 : decode b_Mac_multiplied 123 = .ok (.lreturn, 1) := by decide +kernel
theorem d_Mac_popAndReturn_0 : decode b_Mac_popAndReturn 0 = .ok (.aload_n 0, 1) := by decide +kernel
theorem d_Mac_popAndReturn_1 : decode b_Mac_popAndReturn 1 = .ok (.getfield 13, 3) := by decide +kernel
theorem d_Mac_popAndReturn_4 : decode b_Mac_popAndReturn 4 = .ok (.aload_n 0, 1) := by decide +kernel
theorem d_Mac_popAndReturn_5 : decode b_Mac_popAndReturn 5 = .ok (.getfield 76, 3) := by decide +kernel
theorem d_Mac_popAndReturn_8 : decode b_Mac_popAndReturn 8 = .ok (.invokevirtual 249, 3) := by decide +kernel
theorem d_Mac_popAndReturn_11 : decode b_Mac_popAndReturn 11 = .ok (.ifCond .ne 5, 3) := by decide +kernel
theorem d_Mac_popAndReturn_14 : decode b_Mac_popAndReturn 14 = .ok (.iconst 3, 1) := by decide +kernel
theorem d_Mac_popAndReturn_15 : decode b_Mac_popAndReturn 15 = .ok (.ireturn, 1) := by decide +kernel
theorem d_Mac_popAndReturn_16 : decode b_Mac_popAndReturn 16 = .ok (.aload_n 0, 1) := by decide +kernel
theorem d_Mac_popAndReturn_17 : decode b_Mac_popAndReturn 17 = .ok (.aload_n 0, 1) := by decide +kernel
theorem d_Mac_popAndReturn_18 : decode b_Mac_popAndReturn 18 = .ok (.getfield 13, 3) := by decide +kernel
theorem d_Mac_popAndReturn_21 : decode b_Mac_popAndReturn 21 = .ok (.iconst 4, 1) := by decide +kernel
theorem d_Mac_popAndReturn_22 : decode b_Mac_popAndReturn 22 = .ok (.invokevirtual 99, 3) := by decide +kernel
theorem d_Mac_popAndReturn_25 : decode b_Mac_popAndReturn 25 = .ok (.ldc2_w 95, 3) := by decide +kernel
theorem d_Mac_popAndReturn_28 : decode b_Mac_popAndReturn 28 = .ok (.aload_n 0, 1) := by decide +kernel
theorem d_Mac_popAndReturn_29 : decode b_Mac_popAndReturn 29 = .ok (.getfield 70, 3) := by decide +kernel
theorem d_Mac_popAndReturn_32 : decode b_Mac_popAndReturn 32 = .ok (.ldc 196, 2) := by decide +kernel
theorem d_Mac_popAndReturn_34 : decode b_Mac_popAndReturn 34 = .ok (.iand, 1) := by decide +kernel
theorem d_Mac_popAndReturn_35 : decode b_Mac_popAndReturn 35 = .ok (.i2l, 1) := by decide +kernel
theorem d_Mac_popAndReturn_36 : decode b_Mac_popAndReturn 36 = .ok (.lmul, 1) := by decide +kernel
theorem d_Mac_popAndReturn_37 : decode b_Mac_popAndReturn 37 = .ok (.ladd, 1) := by decide +kernel
theorem d_Mac_popAndReturn_38 : decode b_Mac_popAndReturn 38 = .ok (.putfield 60, 3) := by decide +kernel
theorem d_Mac_popAndReturn_41 : decode b_Mac_popAndReturn 41 = .ok (.aload_n 0, 1) := by decide +kernel
theorem d_Mac_popAndReturn_42 : decode b_Mac_popAndReturn 42 = .ok (.iconst 3, 1) := by decide +kernel
theorem d_Mac_popAndReturn_43 : decode b_Mac_popAndReturn 43 = .ok (.putfield 63, 3) := by decide +kernel
theorem d_Mac_popAndReturn_46 : decode b_Mac_popAndReturn 46 = .ok (.iconst 0, 1) := by decide +kernel
theorem d_Mac_popAndReturn_47 : decode b_Mac_popAndReturn 47 = .ok (.ireturn, 1) := by decide +kernel
theorem d_Mac_pushAndJump_0 : decode b_Mac_pushAndJump 0 = .ok (.aload_n 0, 1) := by decide +kernel
theorem d_Mac_pushAndJump_1 : decode b_Mac_pushAndJump 1 = .ok (.getfield 13, 3) := by decide +kernel
theorem d_Mac_pushAndJump_4 : decode b_Mac_pushAndJump 4 = .ok (.aload_n 0, 1) := by decide +kernel
theorem d_Mac_pushAndJump_5 : decode b_Mac_pushAndJump 5 = .ok (.getfield 76, 3) := by decide +kernel
theorem d_Mac_pushAndJump_8 : decode b_Mac_pushAndJump 8 = .ok (.invokevirtual 245, 3) := by decide +kernel
theorem d_Mac_pushAndJump_11 : decode b_Mac_pushAndJump 11 = .ok (.ifCond .ne 5, 3) := by decide +kernel
theorem d_Mac_pushAndJump_14 : decode b_Mac_pushAndJump 14 = .ok (.iconst 2, 1) := by decide +kernel
theorem d_Mac_pushAndJump_15 : decode b_Mac_pushAndJump 15 = .ok (.ireturn, 1) := by decide +kernel
theorem d_Mac_pushAndJump_16 : decode b_Mac_pushAndJump 16 = .ok (.aload_n 0, 1) := by decide +kernel
theorem d_Mac_pushAndJump_17 : decode b_Mac_pushAndJump 17 = .ok (.getfield 13, 3) := by decide +kernel
theorem d_Mac_pushAndJump_20 : decode b_Mac_pushAndJump 20 = .ok (.iconst 4, 1) := by decide +kernel
theorem d_Mac_pushAndJump_21 : decode b_Mac_pushAndJump 21 = .ok (.aload_n 0, 1) := by decide +kernel
theorem d_Mac_pushAndJump_22 : decode b_Mac_pushAndJump 22 = .ok (.getfield 60, 3) := by decide +kernel
theorem d_Mac_pushAndJump_25 : decode b_Mac_pushAndJump 25 = .ok (.invokevirtual 102, 3) := by decide +kernel
theorem d_Mac_pushAndJump_28 : decode b_Mac_pushAndJump 28 = .ok (.aload_n 0, 1) := by decide +kernel
theorem d_Mac_pushAndJump_29 : decode b_Mac_pushAndJump 29 = .ok (.aload_n 0, 1) := by decide +kernel
theorem d_Mac_pushAndJump_30 : decode b_Mac_pushAndJump 30 = .ok (.invokevirtual 206, 3) := by decide +kernel
theorem d_Mac_pushAndJump_33 : decode b_Mac_pushAndJump 33 = .ok (.putfield 60, 3) := by decide +kernel
theorem d_Mac_pushAndJump_36 : decode b_Mac_pushAndJump 36 = .ok (.iconst 0, 1) := by decide +kernel
theorem d_Mac_pushAndJump_37 : decode b_Mac_pushAndJump 37 = .ok (.ireturn, 1) := by decide +kernel
theorem d_Mac_putSpecial_0 : decode b_Mac_putSpecial 0 = .ok (.aload_n 0, 1) := by decide +kernel
theorem d_Mac_putSpecial_1 : decode b_Mac_putSpecial 1 = .ok (.getfield 76, 3) := by decide +kernel
theorem d_Mac_putSpecial_4 : decode b_Mac_putSpecial 4 = .ok (.i2l, 1) := by decide +kernel
theorem d_Mac_putSpecial_5 : decode b_Mac_putSpecial 5 = .ok (.invokestatic 252, 3) := by decide +kernel
theorem d_Mac_putSpecial_8 : decode b_Mac_putSpecial 8 = .ok (.ifCond .ne 5, 3) := by decide +kernel
theorem d_Mac_putSpecial_11 : decode b_Mac_putSpecial 11 = .ok (.iconst 1, 1) := by decide +kernel
theorem d_Mac_putSpecial_12 : decode b_Mac_putSpecial 12 = .ok (.ireturn, 1) := by decide +kernel
theorem d_Mac_putSpecial_13 : decode b_Mac_putSpecial 13 = .ok (.aload_n 0, 1) := by decide +kernel
theorem d_Mac_putSpecial_14 : decode b_Mac_putSpecial 14 = .ok (.getfield 13, 3) := by decide +kernel
theorem d_Mac_putSpecial_17 : decode b_Mac_putSpecial 17 = .ok (.aload_n 0, 1) := by decide +kernel
theorem d_Mac_putSpecial_18 : decode b_Mac_putSpecial 18 = .ok (.getfield 76, 3) := by decide +kernel
theorem d_Mac_putSpecial_21 : decode b_Mac_putSpecial 21 = .ok (.aload_n 0, 1) := by decide +kernel
theorem d_Mac_putSpecial_22 : decode b_Mac_putSpecial 22 = .ok (.getfield 92, 3) := by decide +kernel
theorem d_Mac_putSpecial_25 : decode b_Mac_putSpecial 25 = .ok (.invokevirtual 256, 3) := by decide +kernel
theorem d_Mac_putSpecial_28 : decode b_Mac_putSpecial 28 = .ok (.iconst 0, 1) := by decide +kernel
theorem d_Mac_putSpecial_29 : decode b_Mac_putSpecial 29 = .ok (.ireturn, 1) := by decide +kernel
theorem d_Mac_scattered_0 : decode b_Mac_scattered 0 = .ok (.aload_n 0, 1) := by decide +kernel
theorem d_Mac_scattered_1 : decode b_Mac_scattered 1 = .ok (.getfield 13, 3) := by decide +kernel
theorem d_Mac_scattered_4 : decode b_Mac_scattered 4 = .ok (.iconst 5, 1) := by decide +kernel
theorem d_Mac_scattered_5 : decode b_Mac_scattered 5 = .ok (.invokevirtual 99, 3) := by decide +kernel
theorem d_Mac_scattered_8 : decode b_Mac_scattered 8 = .ok (.lstore_n 1, 1) := by decide +kernel
theorem d_Mac_scattered_9 : decode b_Mac_scattered 9 = .ok (.aload_n 0, 1) := by decide +kernel
theorem d_Mac_scattered_10 : decode b_Mac_scattered 10 = .ok (.getfield 73, 3) := by decide +kernel
theorem d_Mac_scattered_13 : decode b_Mac_scattered 13 = .ok (.iconst 1, 1) := by decide +kernel
theorem d_Mac_scattered_14 : decode b_Mac_scattered 14 = .ok (.ishr, 1) := by decide +kernel
theorem d_Mac_scattered_15 : decode b_Mac_scattered 15 = .ok (.tableswitch 91 108 111 #[29, 47, 65, 78], 29) := by decide +kernel
theorem d_Mac_scattered_44 : decode b_Mac_scattered 44 = .ok (.aload_n 0, 1) := by decide +kernel
theorem d_Mac_scattered_45 : decode b_Mac_scattered 45 = .ok (.getfield 89, 3) := by decide +kernel
theorem d_Mac_scattered_48 : decode b_Mac_scattered 48 = .ok (.lload_n 1, 1) := by decide +kernel
theorem d_Mac_scattered_49 : decode b_Mac_scattered 49 = .ok (.land, 1) := by decide +kernel
theorem d_Mac_scattered_50 : decode b_Mac_scattered 50 = .ok (.aload_n 0, 1) := by decide +kernel
theorem d_Mac_scattered_51 : decode b_Mac_scattered 51 = .ok (.getfield 92, 3) := by decide +kernel
theorem d_Mac_scattered_54 : decode b_Mac_scattered 54 = .ok (.lload_n 1, 1) := by decide +kernel
theorem d_Mac_scattered_55 : decode b_Mac_scattered 55 = .ok (.ldc2_w 168, 3) := by decide +kernel
theorem d_Mac_scattered_58 : decode b_Mac_scattered 58 = .ok (.lxor, 1) := by decide +kernel
theorem d_Mac_scattered_59 : decode b_Mac_scattered 59 = .ok (.land, 1) := by decide +kernel
theorem d_Mac_scattered_60 : decode b_Mac_scattered 60 = .ok (.lor, 1) := by decide +kernel
theorem d_Mac_scattered_61 : decode b_Mac_scattered 61 = .ok (.lreturn, 1) := by decide +kernel
theorem d_Mac_scattered_62 : decode b_Mac_scattered 62 = .ok (.aload_n 0, 1) := by decide +kernel
theorem d_Mac_scattered_63 : decode b_Mac_scattered 63 = .ok (.getfield 89, 3) := by decide +kernel
theorem d_Mac_scattered_66 : decode b_Mac_scattered 66 = .ok (.aload_n 0, 1) := by decide +kernel
theorem d_Mac_scattered_67 : decode b_Mac_scattered 67 = .ok (.getfield 92, 3) := by decide +kernel
theorem d_Mac_scattered_70 : decode b_Mac_scattered 70 = .ok (.ldc2_w 168, 3) := by decide +kernel
theorem d_Mac_scattered_73 : decode b_Mac_scattered 73 = .ok (.lxor, 1) := by decide +kernel
theorem d_Mac_scattered_74 : decode b_Mac_scattered 74 = .ok (.land, 1) := by decide +kernel
theorem d_Mac_scattered_75 : decode b_Mac_scattered 75 = .ok (.invokestatic 218, 3) := by decide +kernel
theorem d_Mac_scattered_78 : decode b_Mac_scattered 78 = .ok (.i2l, 1) := by decide +kernel
theorem d_Mac_scattered_79 : decode b_Mac_scattered 79 = .ok (.lreturn, 1) := by decide +kernel
theorem d_Mac_scattered_80 : decode b_Mac_scattered 80 = .ok (.aload_n 0, 1) := by decide +kernel
theorem d_Mac_scattered_81 : decode b_Mac_scattered 81 = .ok (.getfield 89, 3) := by decide +kernel
theorem d_Mac_scattered_84 : decode b_Mac_scattered 84 = .ok (.aload_n 0, 1) := by decide +kernel
theorem d_Mac_scattered_85 : decode b_Mac_scattered 85 = .ok (.getfield 92, 3) := by decide +kernel
theorem d_Mac_scattered_88 : decode b_Mac_scattered 88 = .ok (.iconst 0, 1) := by decide +kernel
theorem d_Mac_scattered_89 : decode b_Mac_scattered 89 = .ok (.invokestatic 221, 3) := by decide +kernel
theorem d_Mac_scattered_92 : decode b_Mac_scattered 92 = .ok (.lreturn, 1) := by decide +kernel
theorem d_Mac_scattered_93 : decode b_Mac_scattered 93 = .ok (.aload_n 0, 1) := by decide +kernel
theorem d_Mac_scattered_94 : decode b_Mac_scattered 94 = .ok (.getfield 89, 3) := by decide +kernel
theorem d_Mac_scattered_97 : decode b_Mac_scattered 97 = .ok (.aload_n 0, 1) := by decide +kernel
theorem d_Mac_scattered_98 : decode b_Mac_scattered 98 = .ok (.getfield 92, 3) := by decide +kernel
theorem d_Mac_scattered_101 : decode b_Mac_scattered 101 = .ok (.iconst 1, 1) := by decide +kernel
theorem d_Mac_scattered_102 : decode b_Mac_scattered 102 = .ok (.invokestatic 221, 3) := by decide +kernel
theorem d_Mac_scattered_105 : decode b_Mac_scattered 105 = .ok (.lreturn, 1) := by decide +kernel
theorem d_Mac_scattered_106 : decode b_Mac_scattered 106 = .ok (.aload_n 0, 1) := by decide +kernel
theorem d_Mac_scattered_107 : decode b_Mac_scattered 107 = .ok (.getfield 89, 3) := by decide +kernel
theorem d_Mac_scattered_110 : decode b_Mac_scattered 110 = .ok (.aload_n 0, 1) := by decide +kernel
theorem d_Mac_scattered_111 : decode b_Mac_scattered 111 = .ok (.getfield 92, 3) := by decide +kernel
theorem d_Mac_scattered_114 : decode b_Mac_scattered 114 = .ok (.bipush 8, 2) := by decide +kernel
theorem d_Mac_scattered_116 : decode b_Mac_scattered 116 = .ok (.aload_n 0, 1) := by decide +kernel
theorem d_Mac_scattered_117 : decode b_Mac_scattered 117 = .ok (.getfield 73, 3) := by decide +kernel
theorem d_Mac_scattered_120 : decode b_Mac_scattered 120 = .ok (.iconst 1, 1) := by decide +kernel
theorem d_Mac_scattered_121 : decode b_Mac_scattered 121 = .ok (.ishr, 1) := by decide +kernel
theorem d_Mac_scattered_122 : decode b_Mac_scattered 122 = .ok (.bipush 104, 2) := by decide +kernel
theorem d_Mac_scattered_124 : decode b_Mac_scattered 124 = .ok (.isub, 1) := by decide +kernel
theorem d_Mac_scattered_125 : decode b_Mac_scattered 125 = .ok (.ishl, 1) := by decide +kernel
theorem d_Mac_scattered_126 : decode b_Mac_scattered 126 = .ok (.invokestatic 225, 3) := by decide +kernel
theorem d_Mac_scattered_129 : decode b_Mac_scattered 129 = .ok (.lreturn, 1) := by decide +kernel
theorem d_Mac_shifted_0 : decode b_Mac_shifted 0 = .ok (.aload_n 0, 1) := by decide +kernel
theorem d_Mac_shifted_1 : decode b_Mac_shifted 1 = .ok (.getfield 92, 3) := by decide +kernel
theorem d_Mac_shifted_4 : decode b_Mac_shifted 4 = .ok (.lconst 0, 1) := by decide +kernel
theorem d_Mac_shifted_5 : decode b_Mac_shifted 5 = .ok (.lcmp, 1) := by decide +kernel
theorem d_Mac_shifted_6 : decode b_Mac_shifted 6 = .ok (.ifCond .lt 14, 3) := by decide +kernel
theorem d_Mac_shifted_9 : decode b_Mac_shifted 9 = .ok (.aload_n 0, 1) := by decide +kernel
theorem d_Mac_shifted_10 : decode b_Mac_shifted 10 = .ok (.getfield 92, 3) := by decide +kernel
theorem d_Mac_shifted_13 : decode b_Mac_shifted 13 = .ok (.ldc2_w 194, 3) := by decide +kernel
theorem d_Mac_shifted_16 : decode b_Mac_shifted 16 = .ok (.lcmp, 1) := by decide +kernel
theorem d_Mac_shifted_17 : decode b_Mac_shifted 17 = .ok (.ifCond .le 7, 3) := by decide +kernel
theorem d_Mac_shifted_20 : decode b_Mac_shifted 20 = .ok (.iconst 1, 1) := by decide +kernel
theorem d_Mac_shifted_21 : decode b_Mac_shifted 21 = .ok (.goto 4, 3) := by decide +kernel
theorem d_Mac_shifted_24 : decode b_Mac_shifted 24 = .ok (.iconst 0, 1) := by decide +kernel
theorem d_Mac_shifted_25 : decode b_Mac_shifted 25 = .ok (.istore_n 1, 1) := by decide +kernel
theorem d_Mac_shifted_26 : decode b_Mac_shifted 26 = .ok (.aload_n 0, 1) := by decide +kernel
theorem d_Mac_shifted_27 : decode b_Mac_shifted 27 = .ok (.getfield 73, 3) := by decide +kernel
theorem d_Mac_shifted_30 : decode b_Mac_shifted 30 = .ok (.iconst 1, 1) := by decide +kernel
theorem d_Mac_shifted_31 : decode b_Mac_shifted 31 = .ok (.ishr, 1) := by decide +kernel
theorem d_Mac_shifted_32 : decode b_Mac_shifted 32 = .ok (.tableswitch 145 28 30 #[28, 101, 120], 28) := by decide +kernel
theorem d_Mac_shifted_60 : decode b_Mac_shifted 60 = .ok (.aload_n 0, 1) := by decide +kernel
theorem d_Mac_shifted_61 : decode b_Mac_shifted 61 = .ok (.iload_n 1, 1) := by decide +kernel
theorem d_Mac_shifted_62 : decode b_Mac_shifted 62 = .ok (.ifCond .eq 20, 3) := by decide +kernel
