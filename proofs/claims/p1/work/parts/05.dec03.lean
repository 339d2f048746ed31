theorem d_Opn_init_142 : decode b_Opn_init 142 = .ok (.iconst 1, 1) := by decide +kernel
theorem d_Opn_init_143 : decode b_Opn_init 143 = .ok (.ldc 45, 2) := by decide +kernel
theorem d_Opn_init_145 : decode b_Opn_init 145 = .ok (.invokevirtual 17, 3) := by decide +kernel
theorem d_Opn_init_148 : decode b_Opn_init 148 = .ok (.return_, 1) := by decide +kernel
theorem d_Opn_learn_0 : decode b_Opn_learn 0 = .ok (.iload_n 1, 1) := by decide +kernel
theorem d_Opn_learn_1 : decode b_Opn_learn 1 = .ok (.istore 4, 2) := by decide +kernel
theorem d_Opn_learn_3 : decode b_Opn_learn 3 = .ok (.iconst 0, 1) := by decide +kernel
theorem d_Opn_learn_4 : decode b_Opn_learn 4 = .ok (.istore 5, 2) := by decide +kernel
theorem d_Opn_learn_6 : decode b_Opn_learn 6 = .ok (.iload 5, 2) := by decide +kernel
theorem d_Opn_learn_8 : decode b_Opn_learn 8 = .ok (.aload_n 3, 1) := by decide +kernel
theorem d_Opn_learn_9 : decode b_Opn_learn 9 = .ok (.invokevirtual 47, 3) := by decide +kernel
theorem d_Opn_learn_12 : decode b_Opn_learn 12 = .ok (.if_icmp .ge 64, 3) := by decide +kernel
theorem d_Opn_learn_15 : decode b_Opn_learn 15 = .ok (.iload 4, 2) := by decide +kernel
theorem d_Opn_learn_17 : decode b_Opn_learn 17 = .ok (.aload_n 0, 1) := by decide +kernel
theorem d_Opn_learn_18 : decode b_Opn_learn 18 = .ok (.getfield 11, 3) := by decide +kernel
theorem d_Opn_learn_21 : decode b_Opn_learn 21 = .ok (.arraylength, 1) := by decide +kernel
theorem d_Opn_learn_22 : decode b_Opn_learn 22 = .ok (.if_icmp .ge 54, 3) := by decide +kernel
theorem d_Opn_learn_25 : decode b_Opn_learn 25 = .ok (.aload_n 3, 1) := by decide +kernel
theorem d_Opn_learn_26 : decode b_Opn_learn 26 = .ok (.iload 5, 2) := by decide +kernel
theorem d_Opn_learn_28 : decode b_Opn_learn 28 = .ok (.invokevirtual 53, 3) := by decide +kernel
theorem d_Opn_learn_31 : decode b_Opn_learn 31 = .ok (.istore 6, 2) := by decide +kernel
theorem d_Opn_learn_33 : decode b_Opn_learn 33 = .ok (.iload 6, 2) := by decide +kernel
theorem d_Opn_learn_35 : decode b_Opn_learn 35 = .ok (.bipush 32, 2) := by decide +kernel
theorem d_Opn_learn_37 : decode b_Opn_learn 37 = .ok (.if_icmp .ne 12, 3) := by decide +kernel
theorem d_Opn_learn_40 : decode b_Opn_learn 40 = .ok (.iload 4, 2) := by decide +kernel
theorem d_Opn_learn_42 : decode b_Opn_learn 42 = .ok (.iload_n 2, 1) := by decide +kernel
theorem d_Opn_learn_43 : decode b_Opn_learn 43 = .ok (.iadd, 1) := by decide +kernel
theorem d_Opn_learn_44 : decode b_Opn_learn 44 = .ok (.istore 4, 2) := by decide +kernel
theorem d_Opn_learn_46 : decode b_Opn_learn 46 = .ok (.goto 24, 3) := by decide +kernel
theorem d_Opn_learn_49 : decode b_Opn_learn 49 = .ok (.aload_n 0, 1) := by decide +kernel
theorem d_Opn_learn_50 : decode b_Opn_learn 50 = .ok (.getfield 11, 3) := by decide +kernel
theorem d_Opn_learn_53 : decode b_Opn_learn 53 = .ok (.iload 4, 2) := by decide +kernel
theorem d_Opn_learn_55 : decode b_Opn_learn 55 = .ok (.aload_n 0, 1) := by decide +kernel
theorem d_Opn_learn_56 : decode b_Opn_learn 56 = .ok (.getfield 11, 3) := by decide +kernel
theorem d_Opn_learn_59 : decode b_Opn_learn 59 = .ok (.iload 4, 2) := by decide +kernel
theorem d_Opn_learn_61 : decode b_Opn_learn 61 = .ok (.laload, 1) := by decide +kernel
theorem d_Opn_learn_62 : decode b_Opn_learn 62 = .ok (.bipush 8, 2) := by decide +kernel
theorem d_Opn_learn_64 : decode b_Opn_learn 64 = .ok (.lshl, 1) := by decide +kernel
theorem d_Opn_learn_65 : decode b_Opn_learn 65 = .ok (.iload 6, 2) := by decide +kernel
theorem d_Opn_learn_67 : decode b_Opn_learn 67 = .ok (.i2l, 1) := by decide +kernel
theorem d_Opn_learn_68 : decode b_Opn_learn 68 = .ok (.lor, 1) := by decide +kernel
theorem d_Opn_learn_69 : decode b_Opn_learn 69 = .ok (.lastore, 1) := by decide +kernel
theorem d_Opn_learn_70 : decode b_Opn_learn 70 = .ok (.iinc 5 1, 3) := by decide +kernel
theorem d_Opn_learn_73 : decode b_Opn_learn 73 = .ok (.goto (-67), 3) := by decide +kernel
theorem d_Opn_learn_76 : decode b_Opn_learn 76 = .ok (.return_, 1) := by decide +kernel
theorem d_Reg_init_0 : decode b_Reg_init 0 = .ok (.aload_n 0, 1) := by decide +kernel
theorem d_Reg_init_1 : decode b_Reg_init 1 = .ok (.invokespecial 1, 3) := by decide +kernel
theorem d_Reg_init_4 : decode b_Reg_init 4 = .ok (.aload_n 0, 1) := by decide +kernel
theorem d_Reg_init_5 : decode b_Reg_init 5 = .ok (.sipush 256, 3) := by decide +kernel
theorem d_Reg_init_8 : decode b_Reg_init 8 = .ok (.newarray .long, 2) := by decide +kernel
theorem d_Reg_init_10 : decode b_Reg_init 10 = .ok (.putfield 9, 3) := by decide +kernel
theorem d_Reg_init_13 : decode b_Reg_init 13 = .ok (.aload_n 0, 1) := by decide +kernel
theorem d_Reg_init_14 : decode b_Reg_init 14 = .ok (.bipush 28, 2) := by decide +kernel
theorem d_Reg_init_16 : decode b_Reg_init 16 = .ok (.newarray .long, 2) := by decide +kernel
theorem d_Reg_init_18 : decode b_Reg_init 18 = .ok (.putfield 15, 3) := by decide +kernel
theorem d_Reg_init_21 : decode b_Reg_init 21 = .ok (.aload_n 0, 1) := by decide +kernel
theorem d_Reg_init_22 : decode b_Reg_init 22 = .ok (.sipush 300, 3) := by decide +kernel
theorem d_Reg_init_25 : decode b_Reg_init 25 = .ok (.newarray .long, 2) := by decide +kernel
theorem d_Reg_init_27 : decode b_Reg_init 27 = .ok (.putfield 18, 3) := by decide +kernel
theorem d_Reg_init_30 : decode b_Reg_init 30 = .ok (.aload_n 0, 1) := by decide +kernel
theorem d_Reg_init_31 : decode b_Reg_init 31 = .ok (.sipush 255, 3) := by decide +kernel
theorem d_Reg_init_34 : decode b_Reg_init 34 = .ok (.putfield 21, 3) := by decide +kernel
theorem d_Reg_init_37 : decode b_Reg_init 37 = .ok (.return_, 1) := by decide +kernel
theorem d_Reg_clearFrom_0 : decode b_Reg_clearFrom 0 = .ok (.iload_n 1, 1) := by decide +kernel
theorem d_Reg_clearFrom_1 : decode b_Reg_clearFrom 1 = .ok (.istore_n 3, 1) := by decide +kernel
theorem d_Reg_clearFrom_2 : decode b_Reg_clearFrom 2 = .ok (.iload_n 3, 1) := by decide +kernel
theorem d_Reg_clearFrom_3 : decode b_Reg_clearFrom 3 = .ok (.iload_n 2, 1) := by decide +kernel
theorem d_Reg_clearFrom_4 : decode b_Reg_clearFrom 4 = .ok (.if_icmp .ge 25, 3) := by decide +kernel
theorem d_Reg_clearFrom_7 : decode b_Reg_clearFrom 7 = .ok (.iload_n 3, 1) := by decide +kernel
theorem d_Reg_clearFrom_8 : decode b_Reg_clearFrom 8 = .ok (.aload_n 0, 1) := by decide +kernel
theorem d_Reg_clearFrom_9 : decode b_Reg_clearFrom 9 = .ok (.getfield 9, 3) := by decide +kernel
theorem d_Reg_clearFrom_12 : decode b_Reg_clearFrom 12 = .ok (.arraylength, 1) := by decide +kernel
theorem d_Reg_clearFrom_13 : decode b_Reg_clearFrom 13 = .ok (.if_icmp .ge 16, 3) := by decide +kernel
theorem d_Reg_clearFrom_16 : decode b_Reg_clearFrom 16 = .ok (.aload_n 0, 1) := by decide +kernel
theorem d_Reg_clearFrom_17 : decode b_Reg_clearFrom 17 = .ok (.getfield 9, 3) := by decide +kernel
theorem d_Reg_clearFrom_20 : decode b_Reg_clearFrom 20 = .ok (.iload_n 3, 1) := by decide +kernel
theorem d_Reg_clearFrom_21 : decode b_Reg_clearFrom 21 = .ok (.lconst 0, 1) := by decide +kernel
theorem d_Reg_clearFrom_22 : decode b_Reg_clearFrom 22 = .ok (.lastore, 1) := by decide +kernel
theorem d_Reg_clearFrom_23 : decode b_Reg_clearFrom 23 = .ok (.iinc 3 1, 3) := by decide +kernel
theorem d_Reg_clearFrom_26 : decode b_Reg_clearFrom 26 = .ok (.goto (-24), 3) := by decide +kernel
theorem d_Reg_clearFrom_29 : decode b_Reg_clearFrom 29 = .ok (.return_, 1) := by decide +kernel
theorem d_Reg_get_0 : decode b_Reg_get 0 = .ok (.iload_n 1, 1) := by decide +kernel
theorem d_Reg_get_1 : decode b_Reg_get 1 = .ok (.bipush 19, 2) := by decide +kernel
theorem d_Reg_get_3 : decode b_Reg_get 3 = .ok (.if_icmp .ne 9, 3) := by decide +kernel
theorem d_Reg_get_6 : decode b_Reg_get 6 = .ok (.aload_n 0, 1) := by decide +kernel
theorem d_Reg_get_7 : decode b_Reg_get 7 = .ok (.getfield 21, 3) := by decide +kernel
theorem d_Reg_get_10 : decode b_Reg_get 10 = .ok (.i2l, 1) := by decide +kernel
theorem d_Reg_get_11 : decode b_Reg_get 11 = .ok (.lreturn, 1) := by decide +kernel
theorem d_Reg_get_12 : decode b_Reg_get 12 = .ok (.iload_n 1, 1) := by decide +kernel
theorem d_Reg_get_13 : decode b_Reg_get 13 = .ok (.bipush 20, 2) := by decide +kernel
theorem d_Reg_get_15 : decode b_Reg_get 15 = .ok (.if_icmp .ne 9, 3) := by decide +kernel
theorem d_Reg_get_18 : decode b_Reg_get 18 = .ok (.aload_n 0, 1) := by decide +kernel
theorem d_Reg_get_19 : decode b_Reg_get 19 = .ok (.getfield 32, 3) := by decide +kernel
theorem d_Reg_get_22 : decode b_Reg_get 22 = .ok (.i2l, 1) := by decide +kernel
theorem d_Reg_get_23 : decode b_Reg_get 23 = .ok (.lreturn, 1) := by decide +kernel
theorem d_Reg_get_24 : decode b_Reg_get 24 = .ok (.iload_n 1, 1) := by decide +kernel
theorem d_Reg_get_25 : decode b_Reg_get 25 = .ok (.ifCond .lt 21, 3) := by decide +kernel
theorem d_Reg_get_28 : decode b_Reg_get 28 = .ok (.iload_n 1, 1) := by decide +kernel
theorem d_Reg_get_29 : decode b_Reg_get 29 = .ok (.aload_n 0, 1) := by decide +kernel
theorem d_Reg_get_30 : decode b_Reg_get 30 = .ok (.getfield 15, 3) := by decide +kernel
theorem d_Reg_get_33 : decode b_Reg_get 33 = .ok (.arraylength, 1) := by decide +kernel
theorem d_Reg_get_34 : decode b_Reg_get 34 = .ok (.if_icmp .ge 12, 3) := by decide +kernel
theorem d_Reg_get_37 : decode b_Reg_get 37 = .ok (.aload_n 0, 1) := by decide +kernel
theorem d_Reg_get_38 : decode b_Reg_get 38 = .ok (.getfield 15, 3) := by decide +kernel
theorem d_Reg_get_41 : decode b_Reg_get 41 = .ok (.iload_n 1, 1) := by decide +kernel
theorem d_Reg_get_42 : decode b_Reg_get 42 = .ok (.laload, 1) := by decide +kernel
theorem d_Reg_get_43 : decode b_Reg_get 43 = .ok (.goto 4, 3) := by decide +kernel
theorem d_Reg_get_46 : decode b_Reg_get 46 = .ok (.lconst 0, 1) := by decide +kernel
theorem d_Reg_get_47 : decode b_Reg_get 47 = .ok (.lreturn, 1) := by decide +kernel
theorem d_Reg_read_0 : decode b_Reg_read 0 = .ok (.iload_n 1, 1) := by decide +kernel
theorem d_Reg_read_1 : decode b_Reg_read 1 = .ok (.ifCond .lt 19, 3) := by decide +kernel
theorem d_Reg_read_4 : decode b_Reg_read 4 = .ok (.iload_n 1, 1) := by decide +kernel
theorem d_Reg_read_5 : decode b_Reg_read 5 = .ok (.sipush 255, 3) := by decide +kernel
theorem d_Reg_read_8 : decode b_Reg_read 8 = .ok (.if_icmp .gt 12, 3) := by decide +kernel
theorem d_Reg_read_11 : decode b_Reg_read 11 = .ok (.aload_n 0, 1) := by decide +kernel
theorem d_Reg_read_12 : decode b_Reg_read 12 = .ok (.getfield 9, 3) := by decide +kernel
theorem d_Reg_read_15 : decode b_Reg_read 15 = .ok (.iload_n 1, 1) := by decide +kernel
theorem d_Reg_read_16 : decode b_Reg_read 16 = .ok (.laload, 1) := by decide +kernel
theorem d_Reg_read_17 : decode b_Reg_read 17 = .ok (.goto 4, 3) := by decide +kernel
theorem d_Reg_read_20 : decode b_Reg_read 20 = .ok (.lconst 0, 1) := by decide +kernel
theorem d_Reg_read_21 : decode b_Reg_read 21 = .ok (.lreturn, 1) := by decide +kernel
theorem d_Reg_reset_0 : decode b_Reg_reset 0 = .ok (.aload_n 0, 1) := by decide +kernel
theorem d_Reg_reset_1 : decode b_Reg_reset 1 = .ok (.iconst 0, 1) := by decide +kernel
theorem d_Reg_reset_2 : decode b_Reg_reset 2 = .ok (.sipush 256, 3) := by decide +kernel
theorem d_Reg_reset_5 : decode b_Reg_reset 5 = .ok (.invokevirtual 25, 3) := by decide +kernel
theorem d_Reg_reset_8 : decode b_Reg_reset 8 = .ok (.iconst 0, 1) := by decide +kernel
theorem d_Reg_reset_9 : decode b_Reg_reset 9 = .ok (.istore_n 1, 1) := by decide +kernel
theorem d_Reg_reset_10 : decode b_Reg_reset 10 = .ok (.iload_n 1, 1) := by decide +kernel
theorem d_Reg_reset_11 : decode b_Reg_reset 11 = .ok (.aload_n 0, 1) := by decide +kernel
theorem d_Reg_reset_12 : decode b_Reg_reset 12 = .ok (.getfield 15, 3) := by decide +kernel
theorem d_Reg_reset_15 : decode b_Reg_reset 15 = .ok (.arraylength, 1) := by decide +kernel
theorem d_Reg_reset_16 : decode b_Reg_reset 16 = .ok (.if_icmp .ge 16, 3) := by decide +kernel
theorem d_Reg_reset_19 : decode b_Reg_reset 19 = .ok (.aload_n 0, 1) := by decide +kernel
theorem d_Reg_reset_20 : decode b_Reg_reset 20 = .ok (.getfield 15, 3) := by decide +kernel
theorem d_Reg_reset_23 : decode b_Reg_reset 23 = .ok (.iload_n 1, 1) := by decide +kernel
theorem d_Reg_reset_24 : decode b_Reg_reset 24 = .ok (.lconst 0, 1) := by decide +kernel
theorem d_Reg_reset_25 : decode b_Reg_reset 25 = .ok (.lastore, 1) := by decide +kernel
theorem d_Reg_reset_26 : decode b_Reg_reset 26 = .ok (.iinc 1 1, 3) := by decide +kernel
theorem d_Reg_reset_29 : decode b_Reg_reset 29 = .ok (.goto (-19), 3) := by decide +kernel
theorem d_Reg_reset_32 : decode b_Reg_reset 32 = .ok (.aload_n 0, 1) := by decide +kernel
theorem d_Reg_reset_33 : decode b_Reg_reset 33 = .ok (.iconst 0, 1) := by decide +kernel
theorem d_Reg_reset_34 : decode b_Reg_reset 34 = .ok (.putfield 29, 3) := by decide +kernel
theorem d_Reg_reset_37 : decode b_Reg_reset 37 = .ok (.aload_n 0, 1) := by decide +kernel
theorem d_Reg_reset_38 : decode b_Reg_reset 38 = .ok (.iconst 0, 1) := by decide +kernel
theorem d_Reg_reset_39 : decode b_Reg_reset 39 = .ok (.putfield 32, 3) := by decide +kernel
theorem d_Reg_reset_42 : decode b_Reg_reset 42 = .ok (.aload_n 0, 1) := by decide +kernel
theorem d_Reg_reset_43 : decode b_Reg_reset 43 = .ok (.sipush 255, 3) := by decide +kernel
theorem d_Reg_reset_46 : decode b_Reg_reset 46 = .ok (.putfield 21, 3) := by decide +kernel
theorem d_Reg_reset_49 : decode b_Reg_reset 49 = .ok (.return_, 1) := by decide +kernel
theorem d_Sum_init_0 : decode b_Sum_init 0 = .ok (.aload_n 0, 1) := by decide +kernel
theorem d_Sum_init_1 : decode b_Sum_init 1 = .ok (.invokespecial 3, 3) := by decide +kernel
theorem d_Sum_init_4 : decode b_Sum_init 4 = .ok (.aload_n 0, 1) := by decide +kernel
theorem d_Sum_init_5 : decode b_Sum_init 5 = .ok (.aload_n 1, 1) := by decide +kernel
theorem d_Sum_init_6 : decode b_Sum_init 6 = .ok (.putfield 9, 3) := by decide +kernel
theorem d_Sum_init_9 : decode b_Sum_init 9 = .ok (.aload_n 0, 1) := by decide +kernel
theorem d_Sum_init_10 : decode b_Sum_init 10 = .ok (.aload_n 2, 1) := by decide +kernel
theorem d_Sum_init_11 : decode b_Sum_init 11 = .ok (.putfield 15, 3) := by decide +kernel
theorem d_Sum_init_14 : decode b_Sum_init 14 = .ok (.return_, 1) := by decide +kernel
theorem d_LittleMixLaw_law_0 : decode b_LittleMixLaw_law 0 = .ok (.new 7, 3) := by decide +kernel
theorem d_LittleMixLaw_law_3 : decode b_LittleMixLaw_law 3 = .ok (.dup, 1) := by decide +kernel
theorem d_LittleMixLaw_law_4 : decode b_LittleMixLaw_law 4 = .ok (.invokespecial 9, 3) := by decide +kernel
theorem d_LittleMixLaw_law_7 : decode b_LittleMixLaw_law 7 = .ok (.astore_n 1, 1) := by decide +kernel
theorem d_LittleMixLaw_law_8 : decode b_LittleMixLaw_law 8 = .ok (.new 10, 3) := by decide +kernel
theorem d_LittleMixLaw_law_11 : decode b_LittleMixLaw_law 11 = .ok (.dup, 1) := by decide +kernel
theorem d_LittleMixLaw_law_12 : decode b_LittleMixLaw_law 12 = .ok (.invokespecial 12, 3) := by decide +kernel
theorem d_LittleMixLaw_law_15 : decode b_LittleMixLaw_law 15 = .ok (.astore_n 2, 1) := by decide +kernel
theorem d_LittleMixLaw_law_16 : decode b_LittleMixLaw_law 16 = .ok (.iconst 0, 1) := by decide +kernel
theorem d_LittleMixLaw_law_17 : decode b_LittleMixLaw_law 17 = .ok (.istore_n 3, 1) := by decide +kernel
theorem d_LittleMixLaw_law_18 : decode b_LittleMixLaw_law 18 = .ok (.iload_n 3, 1) := by decide +kernel
theorem d_LittleMixLaw_law_19 : decode b_LittleMixLaw_law 19 = .ok (.aload_n 0, 1) := by decide +kernel
theorem d_LittleMixLaw_law_20 : decode b_LittleMixLaw_law 20 = .ok (.arraylength, 1) := by decide +kernel
theorem d_LittleMixLaw_law_21 : decode b_LittleMixLaw_law 21 = .ok (.bipush 6, 2) := by decide +kernel
theorem d_LittleMixLaw_law_23 : decode b_LittleMixLaw_law 23 = .ok (.isub, 1) := by decide +kernel
theorem d_LittleMixLaw_law_24 : decode b_LittleMixLaw_law 24 = .ok (.if_icmp .gt 403, 3) := by decide +kernel
theorem d_LittleMixLaw_law_27 : decode b_LittleMixLaw_law 27 = .ok (.aload_n 0, 1) := by decide +kernel
theorem d_LittleMixLaw_law_28 : decode b_LittleMixLaw_law 28 = .ok (.iload_n 3, 1) := by decide +kernel
theorem d_LittleMixLaw_law_29 : decode b_LittleMixLaw_law 29 = .ok (.iaload, 1) := by decide +kernel
theorem d_LittleMixLaw_law_30 : decode b_LittleMixLaw_law 30 = .ok (.bipush 15, 2) := by decide +kernel
theorem d_LittleMixLaw_law_32 : decode b_LittleMixLaw_law 32 = .ok (.iand, 1) := by decide +kernel
theorem d_LittleMixLaw_law_33 : decode b_LittleMixLaw_law 33 = .ok (.tableswitch 388 0 12 #[67, 130, 153, 166, 190, 213, 256, 267, 290, 303, 327, 351, 365], 67) := by decide +kernel
theorem d_LittleMixLaw_law_100 : decode b_LittleMixLaw_law 100 = .ok (.aload_n 1, 1) := by decide +kernel
theorem d_LittleMixLaw_law_101 : decode b_LittleMixLaw_law 101 = .ok (.aload_n 0, 1) := by decide +kernel
theorem d_LittleMixLaw_law_102 : decode b_LittleMixLaw_law 102 = .ok (.iload_n 3, 1) := by decide +kernel
theorem d_LittleMixLaw_law_103 : decode b_LittleMixLaw_law 103 = .ok (.iconst 1, 1) := by decide +kernel
theorem d_LittleMixLaw_law_104 : decode b_LittleMixLaw_law 104 = .ok (.iadd, 1) := by decide +kernel
theorem d_LittleMixLaw_law_105 : decode b_LittleMixLaw_law 105 = .ok (.iaload, 1) := by decide +kernel
theorem d_LittleMixLaw_law_106 : decode b_LittleMixLaw_law 106 = .ok (.aload_n 0, 1) := by decide +kernel
theorem d_LittleMixLaw_law_107 : decode b_LittleMixLaw_law 107 = .ok (.iload_n 3, 1) := by decide +kernel
theorem d_LittleMixLaw_law_108 : decode b_LittleMixLaw_law 108 = .ok (.iconst 2, 1) := by decide +kernel
theorem d_LittleMixLaw_law_109 : decode b_LittleMixLaw_law 109 = .ok (.iadd, 1) := by decide +kernel
theorem d_LittleMixLaw_law_110 : decode b_LittleMixLaw_law 110 = .ok (.iaload, 1) := by decide +kernel
theorem d_LittleMixLaw_law_111 : decode b_LittleMixLaw_law 111 = .ok (.aload_n 0, 1) := by decide +kernel
theorem d_LittleMixLaw_law_112 : decode b_LittleMixLaw_law 112 = .ok (.iload_n 3, 1) := by decide +kernel
theorem d_LittleMixLaw_law_113 : decode b_LittleMixLaw_law 113 = .ok (.iconst 3, 1) := by decide +kernel
theorem d_LittleMixLaw_law_114 : decode b_LittleMixLaw_law 114 = .ok (.iadd, 1) := by decide +kernel
theorem d_LittleMixLaw_law_115 : decode b_LittleMixLaw_law 115 = .ok (.iaload, 1) := by decide +kernel
theorem d_LittleMixLaw_law_116 : decode b_LittleMixLaw_law 116 = .ok (.aload_n 0, 1) := by decide +kernel
theorem d_LittleMixLaw_law_117 : decode b_LittleMixLaw_law 117 = .ok (.iload_n 3, 1) := by decide +kernel
theorem d_LittleMixLaw_law_118 : decode b_LittleMixLaw_law 118 = .ok (.iconst 4, 1) := by decide +kernel
theorem d_LittleMixLaw_law_119 : decode b_LittleMixLaw_law 119 = .ok (.iadd, 1) := by decide +kernel
theorem d_LittleMixLaw_law_120 : decode b_LittleMixLaw_law 120 = .ok (.iaload, 1) := by decide +kernel
theorem d_LittleMixLaw_law_121 : decode b_LittleMixLaw_law 121 = .ok (.aload_n 0, 1) := by decide +kernel
theorem d_LittleMixLaw_law_122 : decode b_LittleMixLaw_law 122 = .ok (.iload_n 3, 1) := by decide +kernel
theorem d_LittleMixLaw_law_123 : decode b_LittleMixLaw_law 123 = .ok (.iconst 5, 1) := by decide +kernel
theorem d_LittleMixLaw_law_124 : decode b_LittleMixLaw_law 124 = .ok (.iadd, 1) := by decide +kernel
theorem d_LittleMixLaw_law_125 : decode b_LittleMixLaw_law 125 = .ok (.iaload, 1) := by decide +kernel
theorem d_LittleMixLaw_law_126 : decode b_LittleMixLaw_law 126 = .ok (.invokevirtual 13, 3) := by decide +kernel
theorem d_LittleMixLaw_law_129 : decode b_LittleMixLaw_law 129 = .ok (.aload_n 2, 1) := by decide +kernel
theorem d_LittleMixLaw_law_130 : decode b_LittleMixLaw_law 130 = .ok (.aload_n 0, 1) := by decide +kernel
theorem d_LittleMixLaw_law_131 : decode b_LittleMixLaw_law 131 = .ok (.iload_n 3, 1) := by decide +kernel
theorem d_LittleMixLaw_law_132 : decode b_LittleMixLaw_law 132 = .ok (.iconst 1, 1) := by decide +kernel
theorem d_LittleMixLaw_law_133 : decode b_LittleMixLaw_law 133 = .ok (.iadd, 1) := by decide +kernel
theorem d_LittleMixLaw_law_134 : decode b_LittleMixLaw_law 134 = .ok (.iaload, 1) := by decide +kernel
theorem d_LittleMixLaw_law_135 : decode b_LittleMixLaw_law 135 = .ok (.aload_n 0, 1) := by decide +kernel
theorem d_LittleMixLaw_law_136 : decode b_LittleMixLaw_law 136 = .ok (.iload_n 3, 1) := by decide +kernel
theorem d_LittleMixLaw_law_137 : decode b_LittleMixLaw_law 137 = .ok (.iconst 2, 1) := by decide +kernel
theorem d_LittleMixLaw_law_138 : decode b_LittleMixLaw_law 138 = .ok (.iadd, 1) := by decide +kernel
theorem d_LittleMixLaw_law_139 : decode b_LittleMixLaw_law 139 = .ok (.iaload, 1) := by decide +kernel
theorem d_LittleMixLaw_law_140 : decode b_LittleMixLaw_law 140 = .ok (.aload_n 0, 1) := by decide +kernel
theorem d_LittleMixLaw_law_141 : decode b_LittleMixLaw_law 141 = .ok (.iload_n 3, 1) := by decide +kernel
theorem d_LittleMixLaw_law_142 : decode b_LittleMixLaw_law 142 = .ok (.iconst 3, 1) := by decide +kernel
theorem d_LittleMixLaw_law_143 : decode b_LittleMixLaw_law 143 = .ok (.iadd, 1) := by decide +kernel
theorem d_LittleMixLaw_law_144 : decode b_LittleMixLaw_law 144 = .ok (.iaload, 1) := by decide +kernel
theorem d_LittleMixLaw_law_145 : decode b_LittleMixLaw_law 145 = .ok (.aload_n 0, 1) := by decide +kernel
theorem d_LittleMixLaw_law_146 : decode b_LittleMixLaw_law 146 = .ok (.iload_n 3, 1) := by decide +kernel
theorem d_LittleMixLaw_law_147 : decode b_LittleMixLaw_law 147 = .ok (.iconst 4, 1) := by decide +kernel
theorem d_LittleMixLaw_law_148 : decode b_LittleMixLaw_law 148 = .ok (.iadd, 1) := by decide +kernel
theorem d_LittleMixLaw_law_149 : decode b_LittleMixLaw_law 149 = .ok (.iaload, 1) := by decide +kernel
theorem d_LittleMixLaw_law_150 : decode b_LittleMixLaw_law 150 = .ok (.aload_n 0, 1) := by decide +kernel
theorem d_LittleMixLaw_law_151 : decode b_LittleMixLaw_law 151 = .ok (.iload_n 3, 1) := by decide +kernel
theorem d_LittleMixLaw_law_152 : decode b_LittleMixLaw_law 152 = .ok (.iconst 5, 1) := by decide +kernel
theorem d_LittleMixLaw_law_153 : decode b_LittleMixLaw_law 153 = .ok (.iadd, 1) := by decide +kernel
theorem d_LittleMixLaw_law_154 : decode b_LittleMixLaw_law 154 = .ok (.iaload, 1) := by decide +kernel
theorem d_LittleMixLaw_law_155 : decode b_LittleMixLaw_law 155 = .ok (.invokevirtual 17, 3) := by decide +kernel
theorem d_LittleMixLaw_law_158 : decode b_LittleMixLaw_law 158 = .ok (.if_icmp .eq 263, 3) := by decide +kernel
theorem d_LittleMixLaw_law_163 : decode b_LittleMixLaw_law 163 = .ok (.aload_n 1, 1) := by decide +kernel
theorem d_LittleMixLaw_law_164 : decode b_LittleMixLaw_law 164 = .ok (.aload_n 0, 1) := by decide +kernel
theorem d_LittleMixLaw_law_165 : decode b_LittleMixLaw_law 165 = .ok (.iload_n 3, 1) := by decide +kernel
theorem d_LittleMixLaw_law_166 : decode b_LittleMixLaw_law 166 = .ok (.iconst 1, 1) := by decide +kernel
theorem d_LittleMixLaw_law_167 : decode b_LittleMixLaw_law 167 = .ok (.iadd, 1) := by decide +kernel
theorem d_LittleMixLaw_law_168 : decode b_LittleMixLaw_law 168 = .ok (.iaload, 1) := by decide +kernel
theorem d_LittleMixLaw_law_169 : decode b_LittleMixLaw_law 169 = .ok (.invokevirtual 18, 3) := by decide +kernel
theorem d_LittleMixLaw_law_172 : decode b_LittleMixLaw_law 172 = .ok (.aload_n 2, 1) := by decide +kernel
theorem d_LittleMixLaw_law_173 : decode b_LittleMixLaw_law 173 = .ok (.aload_n 0, 1) := by decide +kernel
theorem d_LittleMixLaw_law_174 : decode b_LittleMixLaw_law 174 = .ok (.iload_n 3, 1) := by decide +kernel
theorem d_LittleMixLaw_law_175 : decode b_LittleMixLaw_law 175 = .ok (.iconst 1, 1) := by decide +kernel
theorem d_LittleMixLaw_law_176 : decode b_LittleMixLaw_law 176 = .ok (.iadd, 1) := by decide +kernel
theorem d_LittleMixLaw_law_177 : decode b_LittleMixLaw_law 177 = .ok (.iaload, 1) := by decide +kernel
theorem d_LittleMixLaw_law_178 : decode b_LittleMixLaw_law 178 = .ok (.invokevirtual 22, 3) := by decide +kernel
theorem d_LittleMixLaw_law_181 : decode b_LittleMixLaw_law 181 = .ok (.if_icmp .eq 240, 3) := by decide +kernel
