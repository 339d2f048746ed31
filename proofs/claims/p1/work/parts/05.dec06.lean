theorem d_Mod_run_9 : decode b_Mod_run 9 = .ok (.iload_n 1, 1) := by decide +kernel
theorem d_Mod_run_10 : decode b_Mod_run 10 = .ok (.sipush 5000, 3) := by decide +kernel
theorem d_Mod_run_13 : decode b_Mod_run 13 = .ok (.if_icmp .le 5, 3) := by decide +kernel
theorem d_Mod_run_16 : decode b_Mod_run 16 = .ok (.iconst 0, 1) := by decide +kernel
theorem d_Mod_run_17 : decode b_Mod_run 17 = .ok (.ireturn, 1) := by decide +kernel
theorem d_Mod_run_18 : decode b_Mod_run 18 = .ok (.iconst 0, 1) := by decide +kernel
theorem d_Mod_run_19 : decode b_Mod_run 19 = .ok (.istore_n 2, 1) := by decide +kernel
theorem d_Mod_run_20 : decode b_Mod_run 20 = .ok (.iload_n 2, 1) := by decide +kernel
theorem d_Mod_run_21 : decode b_Mod_run 21 = .ok (.iload_n 1, 1) := by decide +kernel
theorem d_Mod_run_22 : decode b_Mod_run 22 = .ok (.if_icmp .ge 31, 3) := by decide +kernel
theorem d_Mod_run_25 : decode b_Mod_run 25 = .ok (.aload_n 0, 1) := by decide +kernel
theorem d_Mod_run_26 : decode b_Mod_run 26 = .ok (.getfield 76, 3) := by decide +kernel
theorem d_Mod_run_29 : decode b_Mod_run 29 = .ok (.ifCond .ne 24, 3) := by decide +kernel
theorem d_Mod_run_32 : decode b_Mod_run 32 = .ok (.aload_n 0, 1) := by decide +kernel
theorem d_Mod_run_33 : decode b_Mod_run 33 = .ok (.aload_n 0, 1) := by decide +kernel
theorem d_Mod_run_34 : decode b_Mod_run 34 = .ok (.invokevirtual 431, 3) := by decide +kernel
theorem d_Mod_run_37 : decode b_Mod_run 37 = .ok (.putfield 76, 3) := by decide +kernel
theorem d_Mod_run_40 : decode b_Mod_run 40 = .ok (.aload_n 0, 1) := by decide +kernel
theorem d_Mod_run_41 : decode b_Mod_run 41 = .ok (.getfield 76, 3) := by decide +kernel
theorem d_Mod_run_44 : decode b_Mod_run 44 = .ok (.ifCond .ne (-24), 3) := by decide +kernel
theorem d_Mod_run_53 : decode b_Mod_run 53 = .ok (.iload_n 2, 1) := by decide +kernel
theorem d_Mod_run_54 : decode b_Mod_run 54 = .ok (.ireturn, 1) := by decide +kernel
theorem d_Mod_second_0 : decode b_Mod_second 0 = .ok (.iconst 0, 1) := by decide +kernel
theorem d_Mod_second_1 : decode b_Mod_second 1 = .ok (.istore_n 1, 1) := by decide +kernel
theorem d_Mod_second_2 : decode b_Mod_second 2 = .ok (.iload_n 1, 1) := by decide +kernel
theorem d_Mod_second_3 : decode b_Mod_second 3 = .ok (.sipush 4096, 3) := by decide +kernel
theorem d_Mod_second_6 : decode b_Mod_second 6 = .ok (.if_icmp .ge 16, 3) := by decide +kernel
theorem d_Mod_second_9 : decode b_Mod_second 9 = .ok (.aload_n 0, 1) := by decide +kernel
theorem d_Mod_second_10 : decode b_Mod_second 10 = .ok (.getfield 40, 3) := by decide +kernel
theorem d_Mod_second_13 : decode b_Mod_second 13 = .ok (.iload_n 1, 1) := by decide +kernel
theorem d_Mod_second_14 : decode b_Mod_second 14 = .ok (.iconst 0, 1) := by decide +kernel
theorem d_Mod_second_15 : decode b_Mod_second 15 = .ok (.iastore, 1) := by decide +kernel
theorem d_Mod_second_16 : decode b_Mod_second 16 = .ok (.iinc 1 1, 3) := by decide +kernel
theorem d_Mod_second_19 : decode b_Mod_second 19 = .ok (.goto (-17), 3) := by decide +kernel
theorem d_Mod_second_22 : decode b_Mod_second 22 = .ok (.sipush 256, 3) := by decide +kernel
theorem d_Mod_second_25 : decode b_Mod_second 25 = .ok (.istore_n 1, 1) := by decide +kernel
theorem d_Mod_second_26 : decode b_Mod_second 26 = .ok (.iconst 0, 1) := by decide +kernel
theorem d_Mod_second_27 : decode b_Mod_second 27 = .ok (.istore_n 2, 1) := by decide +kernel
theorem d_Mod_second_28 : decode b_Mod_second 28 = .ok (.iconst 0, 1) := by decide +kernel
theorem d_Mod_second_29 : decode b_Mod_second 29 = .ok (.istore_n 3, 1) := by decide +kernel
theorem d_Mod_second_30 : decode b_Mod_second 30 = .ok (.iload_n 3, 1) := by decide +kernel
theorem d_Mod_second_31 : decode b_Mod_second 31 = .ok (.aload_n 0, 1) := by decide +kernel
theorem d_Mod_second_32 : decode b_Mod_second 32 = .ok (.getfield 88, 3) := by decide +kernel
theorem d_Mod_second_35 : decode b_Mod_second 35 = .ok (.if_icmp .ge 219, 3) := by decide +kernel
theorem d_Mod_second_254 : decode b_Mod_second 254 = .ok (.iconst (-1), 1) := by decide +kernel
theorem d_Mod_second_255 : decode b_Mod_second 255 = .ok (.ireturn, 1) := by decide +kernel
theorem d_Mod_setBack_0 : decode b_Mod_setBack 0 = .ok (.iconst 0, 1) := by decide +kernel
theorem d_Mod_setBack_1 : decode b_Mod_setBack 1 = .ok (.istore_n 1, 1) := by decide +kernel
theorem d_Mod_setBack_2 : decode b_Mod_setBack 2 = .ok (.iload_n 1, 1) := by decide +kernel
theorem d_Mod_setBack_3 : decode b_Mod_setBack 3 = .ok (.sipush 256, 3) := by decide +kernel
theorem d_Mod_setBack_6 : decode b_Mod_setBack 6 = .ok (.if_icmp .ge 16, 3) := by decide +kernel
theorem d_Mod_setBack_9 : decode b_Mod_setBack 9 = .ok (.aload_n 0, 1) := by decide +kernel
theorem d_Mod_setBack_10 : decode b_Mod_setBack 10 = .ok (.getfield 43, 3) := by decide +kernel
theorem d_Mod_setBack_13 : decode b_Mod_setBack 13 = .ok (.iload_n 1, 1) := by decide +kernel
theorem d_Mod_setBack_14 : decode b_Mod_setBack 14 = .ok (.lconst 0, 1) := by decide +kernel
theorem d_Mod_setBack_15 : decode b_Mod_setBack 15 = .ok (.lastore, 1) := by decide +kernel
theorem d_Mod_setBack_16 : decode b_Mod_setBack 16 = .ok (.iinc 1 1, 3) := by decide +kernel
theorem d_Mod_setBack_19 : decode b_Mod_setBack 19 = .ok (.goto (-17), 3) := by decide +kernel
theorem d_Mod_setBack_22 : decode b_Mod_setBack 22 = .ok (.iconst 0, 1) := by decide +kernel
theorem d_Mod_setBack_23 : decode b_Mod_setBack 23 = .ok (.istore_n 1, 1) := by decide +kernel
theorem d_Mod_setBack_24 : decode b_Mod_setBack 24 = .ok (.iload_n 1, 1) := by decide +kernel
theorem d_Mod_setBack_25 : decode b_Mod_setBack 25 = .ok (.bipush 32, 2) := by decide +kernel
theorem d_Mod_setBack_27 : decode b_Mod_setBack 27 = .ok (.if_icmp .ge 16, 3) := by decide +kernel
theorem d_Mod_setBack_30 : decode b_Mod_setBack 30 = .ok (.aload_n 0, 1) := by decide +kernel
theorem d_Mod_setBack_31 : decode b_Mod_setBack 31 = .ok (.getfield 46, 3) := by decide +kernel
theorem d_Mod_setBack_34 : decode b_Mod_setBack 34 = .ok (.iload_n 1, 1) := by decide +kernel
theorem d_Mod_setBack_35 : decode b_Mod_setBack 35 = .ok (.lconst 0, 1) := by decide +kernel
theorem d_Mod_setBack_36 : decode b_Mod_setBack 36 = .ok (.lastore, 1) := by decide +kernel
theorem d_Mod_setBack_37 : decode b_Mod_setBack 37 = .ok (.iinc 1 1, 3) := by decide +kernel
theorem d_Mod_setBack_40 : decode b_Mod_setBack 40 = .ok (.goto (-16), 3) := by decide +kernel
theorem d_Mod_setBack_43 : decode b_Mod_setBack 43 = .ok (.aload_n 0, 1) := by decide +kernel
theorem d_Mod_setBack_44 : decode b_Mod_setBack 44 = .ok (.iconst 0, 1) := by decide +kernel
theorem d_Mod_setBack_45 : decode b_Mod_setBack 45 = .ok (.putfield 61, 3) := by decide +kernel
theorem d_Mod_setBack_48 : decode b_Mod_setBack 48 = .ok (.aload_n 0, 1) := by decide +kernel
theorem d_Mod_setBack_49 : decode b_Mod_setBack 49 = .ok (.iconst 0, 1) := by decide +kernel
theorem d_Mod_setBack_50 : decode b_Mod_setBack 50 = .ok (.putfield 64, 3) := by decide +kernel
theorem d_Mod_setBack_53 : decode b_Mod_setBack 53 = .ok (.aload_n 0, 1) := by decide +kernel
theorem d_Mod_setBack_54 : decode b_Mod_setBack 54 = .ok (.sipush 255, 3) := by decide +kernel
theorem d_Mod_setBack_57 : decode b_Mod_setBack 57 = .ok (.putfield 67, 3) := by decide +kernel
theorem d_Mod_setBack_60 : decode b_Mod_setBack 60 = .ok (.aload_n 0, 1) := by decide +kernel
theorem d_Mod_setBack_61 : decode b_Mod_setBack 61 = .ok (.iconst 0, 1) := by decide +kernel
theorem d_Mod_setBack_62 : decode b_Mod_setBack 62 = .ok (.putfield 70, 3) := by decide +kernel
theorem d_Mod_setBack_65 : decode b_Mod_setBack 65 = .ok (.aload_n 0, 1) := by decide +kernel
theorem d_Mod_setBack_66 : decode b_Mod_setBack 66 = .ok (.iconst 0, 1) := by decide +kernel
theorem d_Mod_setBack_67 : decode b_Mod_setBack 67 = .ok (.putfield 73, 3) := by decide +kernel
theorem d_Mod_setBack_70 : decode b_Mod_setBack 70 = .ok (.aload_n 0, 1) := by decide +kernel
theorem d_Mod_setBack_71 : decode b_Mod_setBack 71 = .ok (.iconst 0, 1) := by decide +kernel
theorem d_Mod_setBack_72 : decode b_Mod_setBack 72 = .ok (.putfield 76, 3) := by decide +kernel
theorem d_Mod_setBack_75 : decode b_Mod_setBack 75 = .ok (.aload_n 0, 1) := by decide +kernel
theorem d_Mod_setBack_76 : decode b_Mod_setBack 76 = .ok (.ldc2_w 79, 3) := by decide +kernel
theorem d_Mod_setBack_79 : decode b_Mod_setBack 79 = .ok (.putfield 81, 3) := by decide +kernel
theorem d_Mod_setBack_82 : decode b_Mod_setBack 82 = .ok (.return_, 1) := by decide +kernel
theorem d_Mod_special_0 : decode b_Mod_special 0 = .ok (.aload_n 0, 1) := by decide +kernel
theorem d_Mod_special_1 : decode b_Mod_special 1 = .ok (.iconst 0, 1) := by decide +kernel
theorem d_Mod_special_2 : decode b_Mod_special 2 = .ok (.putfield 58, 3) := by decide +kernel
theorem d_Mod_special_5 : decode b_Mod_special 5 = .ok (.iload_n 1, 1) := by decide +kernel
theorem d_Mod_special_6 : decode b_Mod_special 6 = .ok (.i2l, 1) := by decide +kernel
theorem d_Mod_special_7 : decode b_Mod_special 7 = .ok (.invokestatic 285, 3) := by decide +kernel
theorem d_Mod_special_10 : decode b_Mod_special 10 = .ok (.ifCond .eq 11, 3) := by decide +kernel
theorem d_Mod_special_13 : decode b_Mod_special 13 = .ok (.aload_n 0, 1) := by decide +kernel
theorem d_Mod_special_14 : decode b_Mod_special 14 = .ok (.iload_n 1, 1) := by decide +kernel
theorem d_Mod_special_15 : decode b_Mod_special 15 = .ok (.invokevirtual 422, 3) := by decide +kernel
theorem d_Mod_special_18 : decode b_Mod_special 18 = .ok (.goto 4, 3) := by decide +kernel
theorem d_Mod_special_21 : decode b_Mod_special 21 = .ok (.lconst 0, 1) := by decide +kernel
theorem d_Mod_special_22 : decode b_Mod_special 22 = .ok (.lreturn, 1) := by decide +kernel
theorem d_Mod_step_0 : decode b_Mod_step 0 = .ok (.aload_n 0, 1) := by decide +kernel
theorem d_Mod_step_1 : decode b_Mod_step 1 = .ok (.getfield 81, 3) := by decide +kernel
theorem d_Mod_step_4 : decode b_Mod_step 4 = .ok (.lconst 0, 1) := by decide +kernel
theorem d_Mod_step_5 : decode b_Mod_step 5 = .ok (.lcmp, 1) := by decide +kernel
theorem d_Mod_step_6 : decode b_Mod_step 6 = .ok (.ifCond .lt 14, 3) := by decide +kernel
theorem d_Mod_step_9 : decode b_Mod_step 9 = .ok (.aload_n 0, 1) := by decide +kernel
theorem d_Mod_step_10 : decode b_Mod_step 10 = .ok (.getfield 81, 3) := by decide +kernel
theorem d_Mod_step_13 : decode b_Mod_step 13 = .ok (.ldc2_w 377, 3) := by decide +kernel
theorem d_Mod_step_16 : decode b_Mod_step 16 = .ok (.lcmp, 1) := by decide +kernel
theorem d_Mod_step_17 : decode b_Mod_step 17 = .ok (.ifCond .le 5, 3) := by decide +kernel
theorem d_Mod_step_22 : decode b_Mod_step 22 = .ok (.aload_n 0, 1) := by decide +kernel
theorem d_Mod_step_23 : decode b_Mod_step 23 = .ok (.getfield 81, 3) := by decide +kernel
theorem d_Mod_step_26 : decode b_Mod_step 26 = .ok (.l2i, 1) := by decide +kernel
theorem d_Mod_step_27 : decode b_Mod_step 27 = .ok (.istore_n 1, 1) := by decide +kernel
theorem d_Mod_step_28 : decode b_Mod_step 28 = .ok (.aload_n 0, 1) := by decide +kernel
theorem d_Mod_step_29 : decode b_Mod_step 29 = .ok (.getfield 37, 3) := by decide +kernel
theorem d_Mod_step_32 : decode b_Mod_step 32 = .ok (.iload_n 1, 1) := by decide +kernel
theorem d_Mod_step_33 : decode b_Mod_step 33 = .ok (.iaload, 1) := by decide +kernel
theorem d_Mod_step_34 : decode b_Mod_step 34 = .ok (.istore_n 2, 1) := by decide +kernel
theorem d_Mod_step_35 : decode b_Mod_step 35 = .ok (.aload_n 0, 1) := by decide +kernel
theorem d_Mod_step_36 : decode b_Mod_step 36 = .ok (.getfield 37, 3) := by decide +kernel
theorem d_Mod_step_39 : decode b_Mod_step 39 = .ok (.iload_n 1, 1) := by decide +kernel
theorem d_Mod_step_40 : decode b_Mod_step 40 = .ok (.iconst 1, 1) := by decide +kernel
theorem d_Mod_step_41 : decode b_Mod_step 41 = .ok (.iadd, 1) := by decide +kernel
theorem d_Mod_step_42 : decode b_Mod_step 42 = .ok (.iaload, 1) := by decide +kernel
theorem d_Mod_step_43 : decode b_Mod_step 43 = .ok (.istore_n 3, 1) := by decide +kernel
theorem d_Mod_step_44 : decode b_Mod_step 44 = .ok (.aload_n 0, 1) := by decide +kernel
theorem d_Mod_step_45 : decode b_Mod_step 45 = .ok (.getfield 37, 3) := by decide +kernel
theorem d_Mod_step_48 : decode b_Mod_step 48 = .ok (.iload_n 1, 1) := by decide +kernel
theorem d_Mod_step_49 : decode b_Mod_step 49 = .ok (.iconst 2, 1) := by decide +kernel
theorem d_Mod_step_50 : decode b_Mod_step 50 = .ok (.iadd, 1) := by decide +kernel
theorem d_Mod_step_51 : decode b_Mod_step 51 = .ok (.iaload, 1) := by decide +kernel
theorem d_Mod_step_52 : decode b_Mod_step 52 = .ok (.istore 4, 2) := by decide +kernel
theorem d_Mod_step_54 : decode b_Mod_step 54 = .ok (.aload_n 0, 1) := by decide +kernel
theorem d_Mod_step_55 : decode b_Mod_step 55 = .ok (.getfield 37, 3) := by decide +kernel
theorem d_Mod_step_58 : decode b_Mod_step 58 = .ok (.iload_n 1, 1) := by decide +kernel
theorem d_Mod_step_59 : decode b_Mod_step 59 = .ok (.iconst 3, 1) := by decide +kernel
theorem d_Mod_step_60 : decode b_Mod_step 60 = .ok (.iadd, 1) := by decide +kernel
theorem d_Mod_step_61 : decode b_Mod_step 61 = .ok (.iaload, 1) := by decide +kernel
theorem d_Mod_step_62 : decode b_Mod_step 62 = .ok (.istore 5, 2) := by decide +kernel
theorem d_Mod_step_64 : decode b_Mod_step 64 = .ok (.aload_n 0, 1) := by decide +kernel
theorem d_Mod_step_65 : decode b_Mod_step 65 = .ok (.iload_n 2, 1) := by decide +kernel
theorem d_Mod_step_66 : decode b_Mod_step 66 = .ok (.invokevirtual 379, 3) := by decide +kernel
theorem d_Mod_step_69 : decode b_Mod_step 69 = .ok (.ifCond .ne 5, 3) := by decide +kernel
theorem d_Mod_step_74 : decode b_Mod_step 74 = .ok (.iload_n 2, 1) := by decide +kernel
theorem d_Mod_step_75 : decode b_Mod_step 75 = .ok (.sipush 246, 3) := by decide +kernel
theorem d_Mod_step_78 : decode b_Mod_step 78 = .ok (.if_icmp .eq 10, 3) := by decide +kernel
theorem d_Mod_step_81 : decode b_Mod_step 81 = .ok (.iload_n 2, 1) := by decide +kernel
theorem d_Mod_step_82 : decode b_Mod_step 82 = .ok (.sipush 247, 3) := by decide +kernel
theorem d_Mod_step_85 : decode b_Mod_step 85 = .ok (.if_icmp .ne 11, 3) := by decide +kernel
theorem d_Mod_step_96 : decode b_Mod_step 96 = .ok (.iload_n 2, 1) := by decide +kernel
theorem d_Mod_step_97 : decode b_Mod_step 97 = .ok (.sipush 254, 3) := by decide +kernel
theorem d_Mod_step_100 : decode b_Mod_step 100 = .ok (.if_icmp .ne 14, 3) := by decide +kernel
theorem d_Mod_step_114 : decode b_Mod_step 114 = .ok (.iload_n 2, 1) := by decide +kernel
theorem d_Mod_step_115 : decode b_Mod_step 115 = .ok (.ifCond .ne 14, 3) := by decide +kernel
theorem d_Mod_step_118 : decode b_Mod_step 118 = .ok (.iload_n 3, 1) := by decide +kernel
theorem d_Mod_step_119 : decode b_Mod_step 119 = .ok (.ifCond .ne 10, 3) := by decide +kernel
theorem d_Mod_step_122 : decode b_Mod_step 122 = .ok (.iload 4, 2) := by decide +kernel
theorem d_Mod_step_124 : decode b_Mod_step 124 = .ok (.ifCond .ne 5, 3) := by decide +kernel
theorem d_Mod_step_127 : decode b_Mod_step 127 = .ok (.iconst 5, 1) := by decide +kernel
theorem d_Mod_step_128 : decode b_Mod_step 128 = .ok (.ireturn, 1) := by decide +kernel
theorem d_Mod_stopped_0 : decode b_Mod_stopped 0 = .ok (.aload_n 0, 1) := by decide +kernel
theorem d_Mod_stopped_1 : decode b_Mod_stopped 1 = .ok (.iconst 0, 1) := by decide +kernel
theorem d_Mod_stopped_2 : decode b_Mod_stopped 2 = .ok (.putfield 58, 3) := by decide +kernel
theorem d_Mod_stopped_5 : decode b_Mod_stopped 5 = .ok (.aload_n 0, 1) := by decide +kernel
theorem d_Mod_stopped_6 : decode b_Mod_stopped 6 = .ok (.getfield 76, 3) := by decide +kernel
theorem d_Mod_stopped_9 : decode b_Mod_stopped 9 = .ok (.ireturn, 1) := by decide +kernel
theorem d_Mod_store_0 : decode b_Mod_store 0 = .ok (.aload_n 0, 1) := by decide +kernel
theorem d_Mod_store_1 : decode b_Mod_store 1 = .ok (.iconst 0, 1) := by decide +kernel
theorem d_Mod_store_2 : decode b_Mod_store 2 = .ok (.putfield 58, 3) := by decide +kernel
theorem d_Mod_store_5 : decode b_Mod_store 5 = .ok (.iload_n 1, 1) := by decide +kernel
theorem d_Mod_store_6 : decode b_Mod_store 6 = .ok (.ifCond .lt 17, 3) := by decide +kernel
theorem d_Mod_store_9 : decode b_Mod_store 9 = .ok (.iload_n 1, 1) := by decide +kernel
theorem d_Mod_store_10 : decode b_Mod_store 10 = .ok (.sipush 4088, 3) := by decide +kernel
theorem d_Mod_store_13 : decode b_Mod_store 13 = .ok (.if_icmp .gt 10, 3) := by decide +kernel
theorem d_Mod_store_16 : decode b_Mod_store 16 = .ok (.iload_n 1, 1) := by decide +kernel
theorem d_Mod_store_17 : decode b_Mod_store 17 = .ok (.bipush 8, 2) := by decide +kernel
theorem d_Mod_store_19 : decode b_Mod_store 19 = .ok (.irem, 1) := by decide +kernel
theorem d_Mod_store_20 : decode b_Mod_store 20 = .ok (.ifCond .eq 5, 3) := by decide +kernel
theorem d_Mod_store_23 : decode b_Mod_store 23 = .ok (.iconst 0, 1) := by decide +kernel
theorem d_Mod_store_24 : decode b_Mod_store 24 = .ok (.ireturn, 1) := by decide +kernel
theorem d_Mod_store_25 : decode b_Mod_store 25 = .ok (.iconst 0, 1) := by decide +kernel
theorem d_Mod_store_26 : decode b_Mod_store 26 = .ok (.istore 4, 2) := by decide +kernel
theorem d_Mod_store_28 : decode b_Mod_store 28 = .ok (.iload 4, 2) := by decide +kernel
theorem d_Mod_store_30 : decode b_Mod_store 30 = .ok (.iconst 4, 1) := by decide +kernel
theorem d_Mod_store_31 : decode b_Mod_store 31 = .ok (.if_icmp .ge 57, 3) := by decide +kernel
theorem d_Mod_store_34 : decode b_Mod_store 34 = .ok (.aload_n 0, 1) := by decide +kernel
theorem d_Mod_store_35 : decode b_Mod_store 35 = .ok (.getfield 37, 3) := by decide +kernel
theorem d_Mod_store_38 : decode b_Mod_store 38 = .ok (.iload_n 1, 1) := by decide +kernel
theorem d_Mod_store_39 : decode b_Mod_store 39 = .ok (.iload 4, 2) := by decide +kernel
theorem d_Mod_store_41 : decode b_Mod_store 41 = .ok (.iadd, 1) := by decide +kernel
theorem d_Mod_store_42 : decode b_Mod_store 42 = .ok (.iload_n 2, 1) := by decide +kernel
theorem d_Mod_store_43 : decode b_Mod_store 43 = .ok (.bipush 24, 2) := by decide +kernel
theorem d_Mod_store_45 : decode b_Mod_store 45 = .ok (.bipush 8, 2) := by decide +kernel
theorem d_Mod_store_47 : decode b_Mod_store 47 = .ok (.iload 4, 2) := by decide +kernel
theorem d_Mod_store_49 : decode b_Mod_store 49 = .ok (.imul, 1) := by decide +kernel
theorem d_Mod_store_50 : decode b_Mod_store 50 = .ok (.isub, 1) := by decide +kernel
theorem d_Mod_store_51 : decode b_Mod_store 51 = .ok (.ishr, 1) := by decide +kernel
theorem d_Mod_store_52 : decode b_Mod_store 52 = .ok (.sipush 255, 3) := by decide +kernel
theorem d_Mod_store_55 : decode b_Mod_store 55 = .ok (.iand, 1) := by decide +kernel
theorem d_Mod_store_56 : decode b_Mod_store 56 = .ok (.iastore, 1) := by decide +kernel
theorem d_Mod_store_57 : decode b_Mod_store 57 = .ok (.aload_n 0, 1) := by decide +kernel
theorem d_Mod_store_58 : decode b_Mod_store 58 = .ok (.getfield 37, 3) := by decide +kernel
theorem d_Mod_store_61 : decode b_Mod_store 61 = .ok (.iload_n 1, 1) := by decide +kernel
theorem d_Mod_store_62 : decode b_Mod_store 62 = .ok (.iconst 4, 1) := by decide +kernel
theorem d_Mod_store_63 : decode b_Mod_store 63 = .ok (.iadd, 1) := by decide +kernel
theorem d_Mod_store_64 : decode b_Mod_store 64 = .ok (.iload 4, 2) := by decide +kernel
theorem d_Mod_store_66 : decode b_Mod_store 66 = .ok (.iadd, 1) := by decide +kernel
theorem d_Mod_store_67 : decode b_Mod_store 67 = .ok (.iload_n 3, 1) := by decide +kernel
theorem d_Mod_store_68 : decode b_Mod_store 68 = .ok (.bipush 24, 2) := by decide +kernel
theorem d_Mod_store_70 : decode b_Mod_store 70 = .ok (.bipush 8, 2) := by decide +kernel
theorem d_Mod_store_72 : decode b_Mod_store 72 = .ok (.iload 4, 2) := by decide +kernel
theorem d_Mod_store_74 : decode b_Mod_store 74 = .ok (.imul, 1) := by decide +kernel
theorem d_Mod_store_75 : decode b_Mod_store 75 = .ok (.isub, 1) := by decide +kernel
theorem d_Mod_store_76 : decode b_Mod_store 76 = .ok (.ishr, 1) := by decide +kernel
theorem d_Mod_store_77 : decode b_Mod_store 77 = .ok (.sipush 255, 3) := by decide +kernel
theorem d_Mod_store_80 : decode b_Mod_store 80 = .ok (.iand, 1) := by decide +kernel
theorem d_Mod_store_81 : decode b_Mod_store 81 = .ok (.iastore, 1) := by decide +kernel
theorem d_Mod_store_82 : decode b_Mod_store 82 = .ok (.iinc 4 1, 3) := by decide +kernel
theorem d_Mod_store_85 : decode b_Mod_store 85 = .ok (.goto (-57), 3) := by decide +kernel
theorem d_Mod_store_88 : decode b_Mod_store 88 = .ok (.iconst 1, 1) := by decide +kernel
theorem d_Mod_store_89 : decode b_Mod_store 89 = .ok (.ireturn, 1) := by decide +kernel
theorem d_Mod_taken_0 : decode b_Mod_taken 0 = .ok (.aload_n 0, 1) := by decide +kernel
theorem d_Mod_taken_1 : decode b_Mod_taken 1 = .ok (.iconst 0, 1) := by decide +kernel
theorem d_Mod_taken_2 : decode b_Mod_taken 2 = .ok (.putfield 58, 3) := by decide +kernel
theorem d_Mod_taken_5 : decode b_Mod_taken 5 = .ok (.iload_n 1, 1) := by decide +kernel
theorem d_Mod_taken_6 : decode b_Mod_taken 6 = .ok (.ifCond .ne 10, 3) := by decide +kernel
theorem d_Mod_taken_9 : decode b_Mod_taken 9 = .ok (.aload_n 0, 1) := by decide +kernel
theorem d_Mod_taken_10 : decode b_Mod_taken 10 = .ok (.getfield 70, 3) := by decide +kernel
theorem d_Mod_taken_13 : decode b_Mod_taken 13 = .ok (.goto 28, 3) := by decide +kernel
theorem d_Mod_taken_16 : decode b_Mod_taken 16 = .ok (.iload_n 1, 1) := by decide +kernel
theorem d_Mod_taken_17 : decode b_Mod_taken 17 = .ok (.iconst 1, 1) := by decide +kernel
theorem d_Mod_taken_18 : decode b_Mod_taken 18 = .ok (.if_icmp .ne 10, 3) := by decide +kernel
theorem d_Mod_taken_21 : decode b_Mod_taken 21 = .ok (.aload_n 0, 1) := by decide +kernel
theorem d_Mod_taken_22 : decode b_Mod_taken 22 = .ok (.getfield 73, 3) := by decide +kernel
theorem d_Mod_taken_25 : decode b_Mod_taken 25 = .ok (.goto 16, 3) := by decide +kernel
theorem d_Mod_taken_28 : decode b_Mod_taken 28 = .ok (.iload_n 1, 1) := by decide +kernel
theorem d_Mod_taken_29 : decode b_Mod_taken 29 = .ok (.iconst 2, 1) := by decide +kernel
theorem d_Mod_taken_30 : decode b_Mod_taken 30 = .ok (.if_icmp .ne 10, 3) := by decide +kernel
theorem d_Mod_taken_33 : decode b_Mod_taken 33 = .ok (.aload_n 0, 1) := by decide +kernel
theorem d_Mod_taken_34 : decode b_Mod_taken 34 = .ok (.getfield 61, 3) := by decide +kernel
theorem d_Mod_taken_37 : decode b_Mod_taken 37 = .ok (.goto 4, 3) := by decide +kernel
theorem d_Mod_taken_40 : decode b_Mod_taken 40 = .ok (.iconst (-1), 1) := by decide +kernel
theorem d_Mod_taken_41 : decode b_Mod_taken 41 = .ok (.ireturn, 1) := by decide +kernel
theorem d_String_charAt_0 : decode b_String_charAt 0 = .ok (.aload_n 0, 1) := by decide +kernel
