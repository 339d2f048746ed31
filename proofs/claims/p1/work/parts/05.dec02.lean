theorem d_Mac_step_9 : decode b_Mac_step 9 = .ok (.invokevirtual 41, 3) := by decide +kernel
theorem d_Mac_step_12 : decode b_Mac_step 12 = .ok (.ifCond .ne 9, 3) := by decide +kernel
theorem d_Mac_step_21 : decode b_Mac_step 21 = .ok (.aload_n 0, 1) := by decide +kernel
theorem d_Mac_step_22 : decode b_Mac_step 22 = .ok (.invokevirtual 47, 3) := by decide +kernel
theorem d_Mac_step_25 : decode b_Mac_step 25 = .ok (.aload_n 0, 1) := by decide +kernel
theorem d_Mac_step_26 : decode b_Mac_step 26 = .ok (.aload_n 0, 1) := by decide +kernel
theorem d_Mac_step_27 : decode b_Mac_step 27 = .ok (.invokevirtual 50, 3) := by decide +kernel
theorem d_Mac_step_30 : decode b_Mac_step 30 = .ok (.putfield 28, 3) := by decide +kernel
theorem d_Mac_step_33 : decode b_Mac_step 33 = .ok (.aload_n 0, 1) := by decide +kernel
theorem d_Mac_step_34 : decode b_Mac_step 34 = .ok (.getfield 28, 3) := by decide +kernel
theorem d_Mac_step_37 : decode b_Mac_step 37 = .ok (.ifCond .eq 4, 3) := by decide +kernel
theorem d_Mac_step_40 : decode b_Mac_step 40 = .ok (.return_, 1) := by decide +kernel
theorem d_Mem_init_0 : decode b_Mem_init 0 = .ok (.aload_n 0, 1) := by decide +kernel
theorem d_Mem_init_1 : decode b_Mem_init 1 = .ok (.invokespecial 1, 3) := by decide +kernel
theorem d_Mem_init_4 : decode b_Mem_init 4 = .ok (.aload_n 0, 1) := by decide +kernel
theorem d_Mem_init_5 : decode b_Mem_init 5 = .ok (.sipush 512, 3) := by decide +kernel
theorem d_Mem_init_8 : decode b_Mem_init 8 = .ok (.newarray .long, 2) := by decide +kernel
theorem d_Mem_init_10 : decode b_Mem_init 10 = .ok (.putfield 9, 3) := by decide +kernel
theorem d_Mem_init_13 : decode b_Mem_init 13 = .ok (.return_, 1) := by decide +kernel
theorem d_Mem_become_0 : decode b_Mem_become 0 = .ok (.aload_n 1, 1) := by decide +kernel
theorem d_Mem_become_1 : decode b_Mem_become 1 = .ok (.getfield 9, 3) := by decide +kernel
theorem d_Mem_become_4 : decode b_Mem_become 4 = .ok (.iconst 0, 1) := by decide +kernel
theorem d_Mem_become_5 : decode b_Mem_become 5 = .ok (.aload_n 0, 1) := by decide +kernel
theorem d_Mem_become_6 : decode b_Mem_become 6 = .ok (.getfield 9, 3) := by decide +kernel
theorem d_Mem_become_9 : decode b_Mem_become 9 = .ok (.iconst 0, 1) := by decide +kernel
theorem d_Mem_become_10 : decode b_Mem_become 10 = .ok (.aload_n 0, 1) := by decide +kernel
theorem d_Mem_become_11 : decode b_Mem_become 11 = .ok (.getfield 9, 3) := by decide +kernel
theorem d_Mem_become_14 : decode b_Mem_become 14 = .ok (.arraylength, 1) := by decide +kernel
theorem d_Mem_become_15 : decode b_Mem_become 15 = .ok (.invokestatic 31, 3) := by decide +kernel
theorem d_Mem_become_18 : decode b_Mem_become 18 = .ok (.return_, 1) := by decide +kernel
theorem d_Mem_clear_0 : decode b_Mem_clear 0 = .ok (.iconst 0, 1) := by decide +kernel
theorem d_Mem_clear_1 : decode b_Mem_clear 1 = .ok (.istore_n 1, 1) := by decide +kernel
theorem d_Mem_clear_2 : decode b_Mem_clear 2 = .ok (.iload_n 1, 1) := by decide +kernel
theorem d_Mem_clear_3 : decode b_Mem_clear 3 = .ok (.aload_n 0, 1) := by decide +kernel
theorem d_Mem_clear_4 : decode b_Mem_clear 4 = .ok (.getfield 9, 3) := by decide +kernel
theorem d_Mem_clear_7 : decode b_Mem_clear 7 = .ok (.arraylength, 1) := by decide +kernel
theorem d_Mem_clear_8 : decode b_Mem_clear 8 = .ok (.if_icmp .ge 16, 3) := by decide +kernel
theorem d_Mem_clear_11 : decode b_Mem_clear 11 = .ok (.aload_n 0, 1) := by decide +kernel
theorem d_Mem_clear_12 : decode b_Mem_clear 12 = .ok (.getfield 9, 3) := by decide +kernel
theorem d_Mem_clear_15 : decode b_Mem_clear 15 = .ok (.iload_n 1, 1) := by decide +kernel
theorem d_Mem_clear_16 : decode b_Mem_clear 16 = .ok (.lconst 0, 1) := by decide +kernel
theorem d_Mem_clear_17 : decode b_Mem_clear 17 = .ok (.lastore, 1) := by decide +kernel
theorem d_Mem_clear_18 : decode b_Mem_clear 18 = .ok (.iinc 1 1, 3) := by decide +kernel
theorem d_Mem_clear_21 : decode b_Mem_clear 21 = .ok (.goto (-19), 3) := by decide +kernel
theorem d_Mem_clear_24 : decode b_Mem_clear 24 = .ok (.return_, 1) := by decide +kernel
theorem d_Mem_holds_0 : decode b_Mem_holds 0 = .ok (.lload_n 1, 1) := by decide +kernel
theorem d_Mem_holds_1 : decode b_Mem_holds 1 = .ok (.lconst 0, 1) := by decide +kernel
theorem d_Mem_holds_2 : decode b_Mem_holds 2 = .ok (.lcmp, 1) := by decide +kernel
theorem d_Mem_holds_3 : decode b_Mem_holds 3 = .ok (.ifCond .lt 18, 3) := by decide +kernel
theorem d_Mem_holds_6 : decode b_Mem_holds 6 = .ok (.lload_n 1, 1) := by decide +kernel
theorem d_Mem_holds_7 : decode b_Mem_holds 7 = .ok (.sipush 4096, 3) := by decide +kernel
theorem d_Mem_holds_10 : decode b_Mem_holds 10 = .ok (.iload_n 3, 1) := by decide +kernel
theorem d_Mem_holds_11 : decode b_Mem_holds 11 = .ok (.isub, 1) := by decide +kernel
theorem d_Mem_holds_12 : decode b_Mem_holds 12 = .ok (.i2l, 1) := by decide +kernel
theorem d_Mem_holds_13 : decode b_Mem_holds 13 = .ok (.lcmp, 1) := by decide +kernel
theorem d_Mem_holds_14 : decode b_Mem_holds 14 = .ok (.ifCond .gt 7, 3) := by decide +kernel
theorem d_Mem_holds_17 : decode b_Mem_holds 17 = .ok (.iconst 1, 1) := by decide +kernel
theorem d_Mem_holds_18 : decode b_Mem_holds 18 = .ok (.goto 4, 3) := by decide +kernel
theorem d_Mem_holds_21 : decode b_Mem_holds 21 = .ok (.iconst 0, 1) := by decide +kernel
theorem d_Mem_holds_22 : decode b_Mem_holds 22 = .ok (.ireturn, 1) := by decide +kernel
theorem d_Mem_instruction_0 : decode b_Mem_instruction 0 = .ok (.iconst 0, 1) := by decide +kernel
theorem d_Mem_instruction_1 : decode b_Mem_instruction 1 = .ok (.istore_n 3, 1) := by decide +kernel
theorem d_Mem_instruction_2 : decode b_Mem_instruction 2 = .ok (.iconst 0, 1) := by decide +kernel
theorem d_Mem_instruction_3 : decode b_Mem_instruction 3 = .ok (.istore 4, 2) := by decide +kernel
theorem d_Mem_instruction_5 : decode b_Mem_instruction 5 = .ok (.iload 4, 2) := by decide +kernel
theorem d_Mem_instruction_7 : decode b_Mem_instruction 7 = .ok (.iconst 4, 1) := by decide +kernel
theorem d_Mem_instruction_8 : decode b_Mem_instruction 8 = .ok (.if_icmp .ge 26, 3) := by decide +kernel
theorem d_Mem_instruction_11 : decode b_Mem_instruction 11 = .ok (.iload_n 3, 1) := by decide +kernel
theorem d_Mem_instruction_12 : decode b_Mem_instruction 12 = .ok (.bipush 8, 2) := by decide +kernel
theorem d_Mem_instruction_14 : decode b_Mem_instruction 14 = .ok (.ishl, 1) := by decide +kernel
theorem d_Mem_instruction_15 : decode b_Mem_instruction 15 = .ok (.aload_n 0, 1) := by decide +kernel
theorem d_Mem_instruction_16 : decode b_Mem_instruction 16 = .ok (.lload_n 1, 1) := by decide +kernel
theorem d_Mem_instruction_17 : decode b_Mem_instruction 17 = .ok (.iload 4, 2) := by decide +kernel
theorem d_Mem_instruction_19 : decode b_Mem_instruction 19 = .ok (.i2l, 1) := by decide +kernel
theorem d_Mem_instruction_20 : decode b_Mem_instruction 20 = .ok (.ladd, 1) := by decide +kernel
theorem d_Mem_instruction_21 : decode b_Mem_instruction 21 = .ok (.iconst 1, 1) := by decide +kernel
theorem d_Mem_instruction_22 : decode b_Mem_instruction 22 = .ok (.invokevirtual 27, 3) := by decide +kernel
theorem d_Mem_instruction_25 : decode b_Mem_instruction 25 = .ok (.l2i, 1) := by decide +kernel
theorem d_Mem_instruction_26 : decode b_Mem_instruction 26 = .ok (.ior, 1) := by decide +kernel
theorem d_Mem_instruction_27 : decode b_Mem_instruction 27 = .ok (.istore_n 3, 1) := by decide +kernel
theorem d_Mem_instruction_28 : decode b_Mem_instruction 28 = .ok (.iinc 4 1, 3) := by decide +kernel
theorem d_Mem_instruction_31 : decode b_Mem_instruction 31 = .ok (.goto (-26), 3) := by decide +kernel
theorem d_Mem_instruction_34 : decode b_Mem_instruction 34 = .ok (.iload_n 3, 1) := by decide +kernel
theorem d_Mem_instruction_35 : decode b_Mem_instruction 35 = .ok (.ireturn, 1) := by decide +kernel
theorem d_Mem_mask_0 : decode b_Mem_mask 0 = .ok (.ldc2_w 25, 3) := by decide +kernel
theorem d_Mem_mask_3 : decode b_Mem_mask 3 = .ok (.bipush 64, 2) := by decide +kernel
theorem d_Mem_mask_5 : decode b_Mem_mask 5 = .ok (.bipush 8, 2) := by decide +kernel
theorem d_Mem_mask_7 : decode b_Mem_mask 7 = .ok (.iload_n 0, 1) := by decide +kernel
theorem d_Mem_mask_8 : decode b_Mem_mask 8 = .ok (.imul, 1) := by decide +kernel
theorem d_Mem_mask_9 : decode b_Mem_mask 9 = .ok (.isub, 1) := by decide +kernel
theorem d_Mem_mask_10 : decode b_Mem_mask 10 = .ok (.lushr, 1) := by decide +kernel
theorem d_Mem_mask_11 : decode b_Mem_mask 11 = .ok (.lreturn, 1) := by decide +kernel
theorem d_Mem_read_0 : decode b_Mem_read 0 = .ok (.aload_n 0, 1) := by decide +kernel
theorem d_Mem_read_1 : decode b_Mem_read 1 = .ok (.lload_n 1, 1) := by decide +kernel
theorem d_Mem_read_2 : decode b_Mem_read 2 = .ok (.iload_n 3, 1) := by decide +kernel
theorem d_Mem_read_3 : decode b_Mem_read 3 = .ok (.invokevirtual 13, 3) := by decide +kernel
theorem d_Mem_read_6 : decode b_Mem_read 6 = .ok (.ifCond .ne 5, 3) := by decide +kernel
theorem d_Mem_read_11 : decode b_Mem_read 11 = .ok (.aload_n 0, 1) := by decide +kernel
theorem d_Mem_read_12 : decode b_Mem_read 12 = .ok (.getfield 9, 3) := by decide +kernel
theorem d_Mem_read_15 : decode b_Mem_read 15 = .ok (.lload_n 1, 1) := by decide +kernel
theorem d_Mem_read_16 : decode b_Mem_read 16 = .ok (.iconst 3, 1) := by decide +kernel
theorem d_Mem_read_17 : decode b_Mem_read 17 = .ok (.lshr, 1) := by decide +kernel
theorem d_Mem_read_18 : decode b_Mem_read 18 = .ok (.l2i, 1) := by decide +kernel
theorem d_Mem_read_19 : decode b_Mem_read 19 = .ok (.laload, 1) := by decide +kernel
theorem d_Mem_read_20 : decode b_Mem_read 20 = .ok (.lload_n 1, 1) := by decide +kernel
theorem d_Mem_read_21 : decode b_Mem_read 21 = .ok (.iload_n 3, 1) := by decide +kernel
theorem d_Mem_read_22 : decode b_Mem_read 22 = .ok (.invokestatic 17, 3) := by decide +kernel
theorem d_Mem_read_25 : decode b_Mem_read 25 = .ok (.lushr, 1) := by decide +kernel
theorem d_Mem_read_26 : decode b_Mem_read 26 = .ok (.iload_n 3, 1) := by decide +kernel
theorem d_Mem_read_27 : decode b_Mem_read 27 = .ok (.invokestatic 21, 3) := by decide +kernel
theorem d_Mem_read_30 : decode b_Mem_read 30 = .ok (.land, 1) := by decide +kernel
theorem d_Mem_read_31 : decode b_Mem_read 31 = .ok (.lreturn, 1) := by decide +kernel
theorem d_Mem_shift_0 : decode b_Mem_shift 0 = .ok (.bipush 64, 2) := by decide +kernel
theorem d_Mem_shift_2 : decode b_Mem_shift 2 = .ok (.bipush 8, 2) := by decide +kernel
theorem d_Mem_shift_4 : decode b_Mem_shift 4 = .ok (.iload_n 2, 1) := by decide +kernel
theorem d_Mem_shift_5 : decode b_Mem_shift 5 = .ok (.imul, 1) := by decide +kernel
theorem d_Mem_shift_6 : decode b_Mem_shift 6 = .ok (.isub, 1) := by decide +kernel
theorem d_Mem_shift_7 : decode b_Mem_shift 7 = .ok (.bipush 8, 2) := by decide +kernel
theorem d_Mem_shift_9 : decode b_Mem_shift 9 = .ok (.lload_n 0, 1) := by decide +kernel
theorem d_Mem_shift_10 : decode b_Mem_shift 10 = .ok (.ldc2_w 37, 3) := by decide +kernel
theorem d_Mem_shift_13 : decode b_Mem_shift 13 = .ok (.land, 1) := by decide +kernel
theorem d_Mem_shift_14 : decode b_Mem_shift 14 = .ok (.iload_n 2, 1) := by decide +kernel
theorem d_Mem_shift_15 : decode b_Mem_shift 15 = .ok (.ineg, 1) := by decide +kernel
theorem d_Mem_shift_16 : decode b_Mem_shift 16 = .ok (.i2l, 1) := by decide +kernel
theorem d_Mem_shift_17 : decode b_Mem_shift 17 = .ok (.land, 1) := by decide +kernel
theorem d_Mem_shift_18 : decode b_Mem_shift 18 = .ok (.l2i, 1) := by decide +kernel
theorem d_Mem_shift_19 : decode b_Mem_shift 19 = .ok (.imul, 1) := by decide +kernel
theorem d_Mem_shift_20 : decode b_Mem_shift 20 = .ok (.isub, 1) := by decide +kernel
theorem d_Mem_shift_21 : decode b_Mem_shift 21 = .ok (.ireturn, 1) := by decide +kernel
theorem d_Mem_write_0 : decode b_Mem_write 0 = .ok (.aload_n 0, 1) := by decide +kernel
theorem d_Mem_write_1 : decode b_Mem_write 1 = .ok (.lload_n 1, 1) := by decide +kernel
theorem d_Mem_write_2 : decode b_Mem_write 2 = .ok (.iload_n 3, 1) := by decide +kernel
theorem d_Mem_write_3 : decode b_Mem_write 3 = .ok (.invokevirtual 13, 3) := by decide +kernel
theorem d_Mem_write_6 : decode b_Mem_write 6 = .ok (.ifCond .ne 4, 3) := by decide +kernel
theorem d_Mem_write_10 : decode b_Mem_write 10 = .ok (.lload_n 1, 1) := by decide +kernel
theorem d_Mem_write_11 : decode b_Mem_write 11 = .ok (.iconst 3, 1) := by decide +kernel
theorem d_Mem_write_12 : decode b_Mem_write 12 = .ok (.lshr, 1) := by decide +kernel
theorem d_Mem_write_13 : decode b_Mem_write 13 = .ok (.l2i, 1) := by decide +kernel
theorem d_Mem_write_14 : decode b_Mem_write 14 = .ok (.istore 6, 2) := by decide +kernel
theorem d_Mem_write_16 : decode b_Mem_write 16 = .ok (.lload_n 1, 1) := by decide +kernel
theorem d_Mem_write_17 : decode b_Mem_write 17 = .ok (.iload_n 3, 1) := by decide +kernel
theorem d_Mem_write_18 : decode b_Mem_write 18 = .ok (.invokestatic 17, 3) := by decide +kernel
theorem d_Mem_write_21 : decode b_Mem_write 21 = .ok (.istore 7, 2) := by decide +kernel
theorem d_Mem_write_23 : decode b_Mem_write 23 = .ok (.aload_n 0, 1) := by decide +kernel
theorem d_Mem_write_24 : decode b_Mem_write 24 = .ok (.getfield 9, 3) := by decide +kernel
theorem d_Mem_write_27 : decode b_Mem_write 27 = .ok (.iload 6, 2) := by decide +kernel
theorem d_Mem_write_29 : decode b_Mem_write 29 = .ok (.aload_n 0, 1) := by decide +kernel
theorem d_Mem_write_30 : decode b_Mem_write 30 = .ok (.getfield 9, 3) := by decide +kernel
theorem d_Mem_write_33 : decode b_Mem_write 33 = .ok (.iload 6, 2) := by decide +kernel
theorem d_Mem_write_35 : decode b_Mem_write 35 = .ok (.laload, 1) := by decide +kernel
theorem d_Mem_write_36 : decode b_Mem_write 36 = .ok (.iload_n 3, 1) := by decide +kernel
theorem d_Mem_write_37 : decode b_Mem_write 37 = .ok (.invokestatic 21, 3) := by decide +kernel
theorem d_Mem_write_40 : decode b_Mem_write 40 = .ok (.iload 7, 2) := by decide +kernel
theorem d_Mem_write_42 : decode b_Mem_write 42 = .ok (.lshl, 1) := by decide +kernel
theorem d_Mem_write_43 : decode b_Mem_write 43 = .ok (.ldc2_w 25, 3) := by decide +kernel
theorem d_Mem_write_46 : decode b_Mem_write 46 = .ok (.lxor, 1) := by decide +kernel
theorem d_Mem_write_47 : decode b_Mem_write 47 = .ok (.land, 1) := by decide +kernel
theorem d_Mem_write_48 : decode b_Mem_write 48 = .ok (.lload 4, 2) := by decide +kernel
theorem d_Mem_write_50 : decode b_Mem_write 50 = .ok (.iload_n 3, 1) := by decide +kernel
theorem d_Mem_write_51 : decode b_Mem_write 51 = .ok (.invokestatic 21, 3) := by decide +kernel
theorem d_Mem_write_54 : decode b_Mem_write 54 = .ok (.land, 1) := by decide +kernel
theorem d_Mem_write_55 : decode b_Mem_write 55 = .ok (.iload 7, 2) := by decide +kernel
theorem d_Mem_write_57 : decode b_Mem_write 57 = .ok (.lshl, 1) := by decide +kernel
theorem d_Mem_write_58 : decode b_Mem_write 58 = .ok (.lor, 1) := by decide +kernel
theorem d_Mem_write_59 : decode b_Mem_write 59 = .ok (.lastore, 1) := by decide +kernel
theorem d_Mem_write_60 : decode b_Mem_write 60 = .ok (.return_, 1) := by decide +kernel
theorem d_Opd_init_0 : decode b_Opd_init 0 = .ok (.aload_n 0, 1) := by decide +kernel
theorem d_Opd_init_1 : decode b_Opd_init 1 = .ok (.invokespecial 1, 3) := by decide +kernel
theorem d_Opd_init_4 : decode b_Opd_init 4 = .ok (.aload_n 0, 1) := by decide +kernel
theorem d_Opd_init_5 : decode b_Opd_init 5 = .ok (.iconst 3, 1) := by decide +kernel
theorem d_Opd_init_6 : decode b_Opd_init 6 = .ok (.newarray .long, 2) := by decide +kernel
theorem d_Opd_init_8 : decode b_Opd_init 8 = .ok (.putfield 9, 3) := by decide +kernel
theorem d_Opd_init_11 : decode b_Opd_init 11 = .ok (.aload_n 0, 1) := by decide +kernel
theorem d_Opd_init_12 : decode b_Opd_init 12 = .ok (.iconst 3, 1) := by decide +kernel
theorem d_Opd_init_13 : decode b_Opd_init 13 = .ok (.newarray .boolean, 2) := by decide +kernel
theorem d_Opd_init_15 : decode b_Opd_init 15 = .ok (.putfield 13, 3) := by decide +kernel
theorem d_Opd_init_18 : decode b_Opd_init 18 = .ok (.return_, 1) := by decide +kernel
theorem d_Opn_init_0 : decode b_Opn_init 0 = .ok (.aload_n 0, 1) := by decide +kernel
theorem d_Opn_init_1 : decode b_Opn_init 1 = .ok (.invokespecial 3, 3) := by decide +kernel
theorem d_Opn_init_4 : decode b_Opn_init 4 = .ok (.aload_n 0, 1) := by decide +kernel
theorem d_Opn_init_5 : decode b_Opn_init 5 = .ok (.sipush 262, 3) := by decide +kernel
theorem d_Opn_init_8 : decode b_Opn_init 8 = .ok (.newarray .long, 2) := by decide +kernel
theorem d_Opn_init_10 : decode b_Opn_init 10 = .ok (.putfield 11, 3) := by decide +kernel
theorem d_Opn_init_13 : decode b_Opn_init 13 = .ok (.aload_n 0, 1) := by decide +kernel
theorem d_Opn_init_14 : decode b_Opn_init 14 = .ok (.iconst 0, 1) := by decide +kernel
theorem d_Opn_init_15 : decode b_Opn_init 15 = .ok (.iconst 1, 1) := by decide +kernel
theorem d_Opn_init_16 : decode b_Opn_init 16 = .ok (.ldc 15, 2) := by decide +kernel
theorem d_Opn_init_18 : decode b_Opn_init 18 = .ok (.invokevirtual 17, 3) := by decide +kernel
theorem d_Opn_init_21 : decode b_Opn_init 21 = .ok (.aload_n 0, 1) := by decide +kernel
theorem d_Opn_init_22 : decode b_Opn_init 22 = .ok (.bipush 24, 2) := by decide +kernel
theorem d_Opn_init_24 : decode b_Opn_init 24 = .ok (.iconst 2, 1) := by decide +kernel
theorem d_Opn_init_25 : decode b_Opn_init 25 = .ok (.ldc 21, 2) := by decide +kernel
theorem d_Opn_init_27 : decode b_Opn_init 27 = .ok (.invokevirtual 17, 3) := by decide +kernel
theorem d_Opn_init_30 : decode b_Opn_init 30 = .ok (.aload_n 0, 1) := by decide +kernel
theorem d_Opn_init_31 : decode b_Opn_init 31 = .ok (.bipush 64, 2) := by decide +kernel
theorem d_Opn_init_33 : decode b_Opn_init 33 = .ok (.iconst 2, 1) := by decide +kernel
theorem d_Opn_init_34 : decode b_Opn_init 34 = .ok (.ldc 23, 2) := by decide +kernel
theorem d_Opn_init_36 : decode b_Opn_init 36 = .ok (.invokevirtual 17, 3) := by decide +kernel
theorem d_Opn_init_39 : decode b_Opn_init 39 = .ok (.aload_n 0, 1) := by decide +kernel
theorem d_Opn_init_40 : decode b_Opn_init 40 = .ok (.bipush 96, 2) := by decide +kernel
theorem d_Opn_init_42 : decode b_Opn_init 42 = .ok (.iconst 2, 1) := by decide +kernel
theorem d_Opn_init_43 : decode b_Opn_init 43 = .ok (.ldc 25, 2) := by decide +kernel
theorem d_Opn_init_45 : decode b_Opn_init 45 = .ok (.invokevirtual 17, 3) := by decide +kernel
theorem d_Opn_init_48 : decode b_Opn_init 48 = .ok (.aload_n 0, 1) := by decide +kernel
theorem d_Opn_init_49 : decode b_Opn_init 49 = .ok (.sipush 128, 3) := by decide +kernel
theorem d_Opn_init_52 : decode b_Opn_init 52 = .ok (.iconst 2, 1) := by decide +kernel
theorem d_Opn_init_53 : decode b_Opn_init 53 = .ok (.ldc 27, 2) := by decide +kernel
theorem d_Opn_init_55 : decode b_Opn_init 55 = .ok (.invokevirtual 17, 3) := by decide +kernel
theorem d_Opn_init_58 : decode b_Opn_init 58 = .ok (.aload_n 0, 1) := by decide +kernel
theorem d_Opn_init_59 : decode b_Opn_init 59 = .ok (.sipush 160, 3) := by decide +kernel
theorem d_Opn_init_62 : decode b_Opn_init 62 = .ok (.iconst 2, 1) := by decide +kernel
theorem d_Opn_init_63 : decode b_Opn_init 63 = .ok (.ldc 29, 2) := by decide +kernel
theorem d_Opn_init_65 : decode b_Opn_init 65 = .ok (.invokevirtual 17, 3) := by decide +kernel
theorem d_Opn_init_68 : decode b_Opn_init 68 = .ok (.aload_n 0, 1) := by decide +kernel
theorem d_Opn_init_69 : decode b_Opn_init 69 = .ok (.sipush 180, 3) := by decide +kernel
theorem d_Opn_init_72 : decode b_Opn_init 72 = .ok (.iconst 2, 1) := by decide +kernel
theorem d_Opn_init_73 : decode b_Opn_init 73 = .ok (.ldc 31, 2) := by decide +kernel
theorem d_Opn_init_75 : decode b_Opn_init 75 = .ok (.invokevirtual 17, 3) := by decide +kernel
theorem d_Opn_init_78 : decode b_Opn_init 78 = .ok (.aload_n 0, 1) := by decide +kernel
theorem d_Opn_init_79 : decode b_Opn_init 79 = .ok (.sipush 192, 3) := by decide +kernel
theorem d_Opn_init_82 : decode b_Opn_init 82 = .ok (.iconst 2, 1) := by decide +kernel
theorem d_Opn_init_83 : decode b_Opn_init 83 = .ok (.ldc 33, 2) := by decide +kernel
theorem d_Opn_init_85 : decode b_Opn_init 85 = .ok (.invokevirtual 17, 3) := by decide +kernel
theorem d_Opn_init_88 : decode b_Opn_init 88 = .ok (.aload_n 0, 1) := by decide +kernel
theorem d_Opn_init_89 : decode b_Opn_init 89 = .ok (.sipush 224, 3) := by decide +kernel
theorem d_Opn_init_92 : decode b_Opn_init 92 = .ok (.iconst 1, 1) := by decide +kernel
theorem d_Opn_init_93 : decode b_Opn_init 93 = .ok (.ldc 35, 2) := by decide +kernel
theorem d_Opn_init_95 : decode b_Opn_init 95 = .ok (.invokevirtual 17, 3) := by decide +kernel
theorem d_Opn_init_98 : decode b_Opn_init 98 = .ok (.aload_n 0, 1) := by decide +kernel
theorem d_Opn_init_99 : decode b_Opn_init 99 = .ok (.sipush 232, 3) := by decide +kernel
theorem d_Opn_init_102 : decode b_Opn_init 102 = .ok (.iconst 1, 1) := by decide +kernel
theorem d_Opn_init_103 : decode b_Opn_init 103 = .ok (.ldc 37, 2) := by decide +kernel
theorem d_Opn_init_105 : decode b_Opn_init 105 = .ok (.invokevirtual 17, 3) := by decide +kernel
theorem d_Opn_init_108 : decode b_Opn_init 108 = .ok (.aload_n 0, 1) := by decide +kernel
theorem d_Opn_init_109 : decode b_Opn_init 109 = .ok (.sipush 240, 3) := by decide +kernel
theorem d_Opn_init_112 : decode b_Opn_init 112 = .ok (.iconst 2, 1) := by decide +kernel
theorem d_Opn_init_113 : decode b_Opn_init 113 = .ok (.ldc 39, 2) := by decide +kernel
theorem d_Opn_init_115 : decode b_Opn_init 115 = .ok (.invokevirtual 17, 3) := by decide +kernel
theorem d_Opn_init_118 : decode b_Opn_init 118 = .ok (.aload_n 0, 1) := by decide +kernel
theorem d_Opn_init_119 : decode b_Opn_init 119 = .ok (.sipush 249, 3) := by decide +kernel
theorem d_Opn_init_122 : decode b_Opn_init 122 = .ok (.iconst 1, 1) := by decide +kernel
theorem d_Opn_init_123 : decode b_Opn_init 123 = .ok (.ldc 41, 2) := by decide +kernel
theorem d_Opn_init_125 : decode b_Opn_init 125 = .ok (.invokevirtual 17, 3) := by decide +kernel
theorem d_Opn_init_128 : decode b_Opn_init 128 = .ok (.aload_n 0, 1) := by decide +kernel
theorem d_Opn_init_129 : decode b_Opn_init 129 = .ok (.sipush 253, 3) := by decide +kernel
theorem d_Opn_init_132 : decode b_Opn_init 132 = .ok (.iconst 1, 1) := by decide +kernel
theorem d_Opn_init_133 : decode b_Opn_init 133 = .ok (.ldc 43, 2) := by decide +kernel
theorem d_Opn_init_135 : decode b_Opn_init 135 = .ok (.invokevirtual 17, 3) := by decide +kernel
theorem d_Opn_init_138 : decode b_Opn_init 138 = .ok (.aload_n 0, 1) := by decide +kernel
theorem d_Opn_init_139 : decode b_Opn_init 139 = .ok (.sipush 256, 3) := by decide +kernel
