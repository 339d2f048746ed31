theorem d_Mix_init_0 : decode b_Mix_init 0 = .ok (.aload_n 0, 1) := by decide +kernel
theorem d_Mix_init_1 : decode b_Mix_init 1 = .ok (.invokespecial 1, 3) := by decide +kernel
theorem d_Mix_init_4 : decode b_Mix_init 4 = .ok (.aload_n 0, 1) := by decide +kernel
theorem d_Mix_init_5 : decode b_Mix_init 5 = .ok (.sipush 1600, 3) := by decide +kernel
theorem d_Mix_init_8 : decode b_Mix_init 8 = .ok (.newarray .char, 2) := by decide +kernel
theorem d_Mix_init_10 : decode b_Mix_init 10 = .ok (.putfield 9, 3) := by decide +kernel
theorem d_Mix_init_13 : decode b_Mix_init 13 = .ok (.aload_n 0, 1) := by decide +kernel
theorem d_Mix_init_14 : decode b_Mix_init 14 = .ok (.new 13, 3) := by decide +kernel
theorem d_Mix_init_17 : decode b_Mix_init 17 = .ok (.dup, 1) := by decide +kernel
theorem d_Mix_init_18 : decode b_Mix_init 18 = .ok (.invokespecial 15, 3) := by decide +kernel
theorem d_Mix_init_21 : decode b_Mix_init 21 = .ok (.putfield 16, 3) := by decide +kernel
theorem d_Mix_init_24 : decode b_Mix_init 24 = .ok (.aload_n 0, 1) := by decide +kernel
theorem d_Mix_init_25 : decode b_Mix_init 25 = .ok (.new 20, 3) := by decide +kernel
theorem d_Mix_init_28 : decode b_Mix_init 28 = .ok (.dup, 1) := by decide +kernel
theorem d_Mix_init_29 : decode b_Mix_init 29 = .ok (.invokespecial 22, 3) := by decide +kernel
theorem d_Mix_init_32 : decode b_Mix_init 32 = .ok (.putfield 23, 3) := by decide +kernel
theorem d_Mix_init_35 : decode b_Mix_init 35 = .ok (.aload_n 0, 1) := by decide +kernel
theorem d_Mix_init_36 : decode b_Mix_init 36 = .ok (.new 27, 3) := by decide +kernel
theorem d_Mix_init_39 : decode b_Mix_init 39 = .ok (.dup, 1) := by decide +kernel
theorem d_Mix_init_40 : decode b_Mix_init 40 = .ok (.aload_n 0, 1) := by decide +kernel
theorem d_Mix_init_41 : decode b_Mix_init 41 = .ok (.getfield 9, 3) := by decide +kernel
theorem d_Mix_init_44 : decode b_Mix_init 44 = .ok (.invokespecial 29, 3) := by decide +kernel
theorem d_Mix_init_47 : decode b_Mix_init 47 = .ok (.putfield 32, 3) := by decide +kernel
theorem d_Mix_init_50 : decode b_Mix_init 50 = .ok (.aload_n 0, 1) := by decide +kernel
theorem d_Mix_init_51 : decode b_Mix_init 51 = .ok (.new 36, 3) := by decide +kernel
theorem d_Mix_init_54 : decode b_Mix_init 54 = .ok (.dup, 1) := by decide +kernel
theorem d_Mix_init_55 : decode b_Mix_init 55 = .ok (.aload_n 0, 1) := by decide +kernel
theorem d_Mix_init_56 : decode b_Mix_init 56 = .ok (.getfield 16, 3) := by decide +kernel
theorem d_Mix_init_59 : decode b_Mix_init 59 = .ok (.aload_n 0, 1) := by decide +kernel
theorem d_Mix_init_60 : decode b_Mix_init 60 = .ok (.getfield 23, 3) := by decide +kernel
theorem d_Mix_init_63 : decode b_Mix_init 63 = .ok (.invokespecial 38, 3) := by decide +kernel
theorem d_Mix_init_66 : decode b_Mix_init 66 = .ok (.putfield 41, 3) := by decide +kernel
theorem d_Mix_init_69 : decode b_Mix_init 69 = .ok (.return_, 1) := by decide +kernel
theorem d_Mix_assemble_0 : decode b_Mix_assemble 0 = .ok (.iload_n 1, 1) := by decide +kernel
theorem d_Mix_assemble_1 : decode b_Mix_assemble 1 = .ok (.ifCond .lt 11, 3) := by decide +kernel
theorem d_Mix_assemble_4 : decode b_Mix_assemble 4 = .ok (.iload_n 1, 1) := by decide +kernel
theorem d_Mix_assemble_5 : decode b_Mix_assemble 5 = .ok (.aload_n 0, 1) := by decide +kernel
theorem d_Mix_assemble_6 : decode b_Mix_assemble 6 = .ok (.getfield 45, 3) := by decide +kernel
theorem d_Mix_assemble_9 : decode b_Mix_assemble 9 = .ok (.if_icmp .le 5, 3) := by decide +kernel
theorem d_Mix_assemble_12 : decode b_Mix_assemble 12 = .ok (.iconst (-1), 1) := by decide +kernel
theorem d_Mix_assemble_13 : decode b_Mix_assemble 13 = .ok (.ireturn, 1) := by decide +kernel
theorem d_Mix_assemble_14 : decode b_Mix_assemble 14 = .ok (.aload_n 0, 1) := by decide +kernel
theorem d_Mix_assemble_15 : decode b_Mix_assemble 15 = .ok (.iconst 0, 1) := by decide +kernel
theorem d_Mix_assemble_16 : decode b_Mix_assemble 16 = .ok (.putfield 45, 3) := by decide +kernel
theorem d_Mix_assemble_19 : decode b_Mix_assemble 19 = .ok (.aload_n 0, 1) := by decide +kernel
theorem d_Mix_assemble_20 : decode b_Mix_assemble 20 = .ok (.getfield 32, 3) := by decide +kernel
theorem d_Mix_assemble_23 : decode b_Mix_assemble 23 = .ok (.iload_n 1, 1) := by decide +kernel
theorem d_Mix_assemble_24 : decode b_Mix_assemble 24 = .ok (.invokevirtual 53, 3) := by decide +kernel
theorem d_Mix_assemble_27 : decode b_Mix_assemble 27 = .ok (.ifCond .ne 5, 3) := by decide +kernel
theorem d_Mix_assemble_32 : decode b_Mix_assemble 32 = .ok (.aload_n 0, 1) := by decide +kernel
theorem d_Mix_assemble_33 : decode b_Mix_assemble 33 = .ok (.getfield 16, 3) := by decide +kernel
theorem d_Mix_assemble_36 : decode b_Mix_assemble 36 = .ok (.aload_n 0, 1) := by decide +kernel
theorem d_Mix_assemble_37 : decode b_Mix_assemble 37 = .ok (.getfield 32, 3) := by decide +kernel
theorem d_Mix_assemble_40 : decode b_Mix_assemble 40 = .ok (.getfield 57, 3) := by decide +kernel
theorem d_Mix_assemble_43 : decode b_Mix_assemble 43 = .ok (.invokevirtual 60, 3) := by decide +kernel
theorem d_Mix_assemble_46 : decode b_Mix_assemble 46 = .ok (.aload_n 0, 1) := by decide +kernel
theorem d_Mix_assemble_47 : decode b_Mix_assemble 47 = .ok (.getfield 41, 3) := by decide +kernel
theorem d_Mix_assemble_50 : decode b_Mix_assemble 50 = .ok (.invokevirtual 64, 3) := by decide +kernel
theorem d_Mix_assemble_53 : decode b_Mix_assemble 53 = .ok (.iconst 0, 1) := by decide +kernel
theorem d_Mix_assemble_54 : decode b_Mix_assemble 54 = .ok (.ireturn, 1) := by decide +kernel
theorem d_Mix_back_0 : decode b_Mix_back 0 = .ok (.aload_n 0, 1) := by decide +kernel
theorem d_Mix_back_1 : decode b_Mix_back 1 = .ok (.getfield 41, 3) := by decide +kernel
theorem d_Mix_back_4 : decode b_Mix_back 4 = .ok (.invokevirtual 64, 3) := by decide +kernel
theorem d_Mix_back_7 : decode b_Mix_back 7 = .ok (.return_, 1) := by decide +kernel
theorem d_Mix_byteAt_0 : decode b_Mix_byteAt 0 = .ok (.aload_n 0, 1) := by decide +kernel
theorem d_Mix_byteAt_1 : decode b_Mix_byteAt 1 = .ok (.getfield 16, 3) := by decide +kernel
theorem d_Mix_byteAt_4 : decode b_Mix_byteAt 4 = .ok (.iload_n 1, 1) := by decide +kernel
theorem d_Mix_byteAt_5 : decode b_Mix_byteAt 5 = .ok (.i2l, 1) := by decide +kernel
theorem d_Mix_byteAt_6 : decode b_Mix_byteAt 6 = .ok (.iconst 1, 1) := by decide +kernel
theorem d_Mix_byteAt_7 : decode b_Mix_byteAt 7 = .ok (.invokevirtual 74, 3) := by decide +kernel
theorem d_Mix_byteAt_10 : decode b_Mix_byteAt 10 = .ok (.ifCond .eq 17, 3) := by decide +kernel
theorem d_Mix_byteAt_13 : decode b_Mix_byteAt 13 = .ok (.aload_n 0, 1) := by decide +kernel
theorem d_Mix_byteAt_14 : decode b_Mix_byteAt 14 = .ok (.getfield 16, 3) := by decide +kernel
theorem d_Mix_byteAt_17 : decode b_Mix_byteAt 17 = .ok (.iload_n 1, 1) := by decide +kernel
theorem d_Mix_byteAt_18 : decode b_Mix_byteAt 18 = .ok (.i2l, 1) := by decide +kernel
theorem d_Mix_byteAt_19 : decode b_Mix_byteAt 19 = .ok (.iconst 1, 1) := by decide +kernel
theorem d_Mix_byteAt_20 : decode b_Mix_byteAt 20 = .ok (.invokevirtual 78, 3) := by decide +kernel
theorem d_Mix_byteAt_23 : decode b_Mix_byteAt 23 = .ok (.l2i, 1) := by decide +kernel
theorem d_Mix_byteAt_24 : decode b_Mix_byteAt 24 = .ok (.goto 4, 3) := by decide +kernel
theorem d_Mix_byteAt_27 : decode b_Mix_byteAt 27 = .ok (.iconst (-1), 1) := by decide +kernel
theorem d_Mix_byteAt_28 : decode b_Mix_byteAt 28 = .ok (.ireturn, 1) := by decide +kernel
theorem d_Mix_feed_0 : decode b_Mix_feed 0 = .ok (.aload_n 0, 1) := by decide +kernel
theorem d_Mix_feed_1 : decode b_Mix_feed 1 = .ok (.getfield 45, 3) := by decide +kernel
theorem d_Mix_feed_4 : decode b_Mix_feed 4 = .ok (.sipush 1580, 3) := by decide +kernel
theorem d_Mix_feed_7 : decode b_Mix_feed 7 = .ok (.if_icmp .le 5, 3) := by decide +kernel
theorem d_Mix_feed_12 : decode b_Mix_feed 12 = .ok (.aload_n 0, 1) := by decide +kernel
theorem d_Mix_feed_13 : decode b_Mix_feed 13 = .ok (.iload_n 1, 1) := by decide +kernel
theorem d_Mix_feed_14 : decode b_Mix_feed 14 = .ok (.invokevirtual 49, 3) := by decide +kernel
theorem d_Mix_feed_17 : decode b_Mix_feed 17 = .ok (.aload_n 0, 1) := by decide +kernel
theorem d_Mix_feed_18 : decode b_Mix_feed 18 = .ok (.iload_n 2, 1) := by decide +kernel
theorem d_Mix_feed_19 : decode b_Mix_feed 19 = .ok (.invokevirtual 49, 3) := by decide +kernel
theorem d_Mix_feed_22 : decode b_Mix_feed 22 = .ok (.aload_n 0, 1) := by decide +kernel
theorem d_Mix_feed_23 : decode b_Mix_feed 23 = .ok (.iload_n 3, 1) := by decide +kernel
theorem d_Mix_feed_24 : decode b_Mix_feed 24 = .ok (.invokevirtual 49, 3) := by decide +kernel
theorem d_Mix_feed_27 : decode b_Mix_feed 27 = .ok (.aload_n 0, 1) := by decide +kernel
theorem d_Mix_feed_28 : decode b_Mix_feed 28 = .ok (.iload 4, 2) := by decide +kernel
theorem d_Mix_feed_30 : decode b_Mix_feed 30 = .ok (.invokevirtual 49, 3) := by decide +kernel
theorem d_Mix_feed_33 : decode b_Mix_feed 33 = .ok (.aload_n 0, 1) := by decide +kernel
theorem d_Mix_feed_34 : decode b_Mix_feed 34 = .ok (.iload 5, 2) := by decide +kernel
theorem d_Mix_feed_36 : decode b_Mix_feed 36 = .ok (.invokevirtual 49, 3) := by decide +kernel
theorem d_Mix_feed_39 : decode b_Mix_feed 39 = .ok (.iconst 1, 1) := by decide +kernel
theorem d_Mix_feed_40 : decode b_Mix_feed 40 = .ok (.ireturn, 1) := by decide +kernel
theorem d_Mix_illAt_0 : decode b_Mix_illAt 0 = .ok (.aload_n 0, 1) := by decide +kernel
theorem d_Mix_illAt_1 : decode b_Mix_illAt 1 = .ok (.getfield 32, 3) := by decide +kernel
theorem d_Mix_illAt_4 : decode b_Mix_illAt 4 = .ok (.getfield 67, 3) := by decide +kernel
theorem d_Mix_illAt_7 : decode b_Mix_illAt 7 = .ok (.ireturn, 1) := by decide +kernel
theorem d_Mix_label_0 : decode b_Mix_label 0 = .ok (.aload_n 0, 1) := by decide +kernel
theorem d_Mix_label_1 : decode b_Mix_label 1 = .ok (.getfield 32, 3) := by decide +kernel
theorem d_Mix_label_4 : decode b_Mix_label 4 = .ok (.iload_n 1, 1) := by decide +kernel
theorem d_Mix_label_5 : decode b_Mix_label 5 = .ok (.invokevirtual 70, 3) := by decide +kernel
theorem d_Mix_label_8 : decode b_Mix_label 8 = .ok (.lreturn, 1) := by decide +kernel
theorem d_Mix_place_0 : decode b_Mix_place 0 = .ok (.aload_n 0, 1) := by decide +kernel
theorem d_Mix_place_1 : decode b_Mix_place 1 = .ok (.getfield 41, 3) := by decide +kernel
theorem d_Mix_place_4 : decode b_Mix_place 4 = .ok (.getfield 100, 3) := by decide +kernel
theorem d_Mix_place_7 : decode b_Mix_place 7 = .ok (.lreturn, 1) := by decide +kernel
theorem d_Mix_punch_0 : decode b_Mix_punch 0 = .ok (.bipush 24, 2) := by decide +kernel
theorem d_Mix_punch_2 : decode b_Mix_punch 2 = .ok (.istore_n 2, 1) := by decide +kernel
theorem d_Mix_punch_3 : decode b_Mix_punch 3 = .ok (.iload_n 2, 1) := by decide +kernel
theorem d_Mix_punch_4 : decode b_Mix_punch 4 = .ok (.ifCond .lt 48, 3) := by decide +kernel
theorem d_Mix_punch_7 : decode b_Mix_punch 7 = .ok (.aload_n 0, 1) := by decide +kernel
theorem d_Mix_punch_8 : decode b_Mix_punch 8 = .ok (.getfield 45, 3) := by decide +kernel
theorem d_Mix_punch_11 : decode b_Mix_punch 11 = .ok (.aload_n 0, 1) := by decide +kernel
theorem d_Mix_punch_12 : decode b_Mix_punch 12 = .ok (.getfield 9, 3) := by decide +kernel
theorem d_Mix_punch_15 : decode b_Mix_punch 15 = .ok (.arraylength, 1) := by decide +kernel
theorem d_Mix_punch_16 : decode b_Mix_punch 16 = .ok (.if_icmp .ge 30, 3) := by decide +kernel
theorem d_Mix_punch_19 : decode b_Mix_punch 19 = .ok (.aload_n 0, 1) := by decide +kernel
theorem d_Mix_punch_20 : decode b_Mix_punch 20 = .ok (.getfield 9, 3) := by decide +kernel
theorem d_Mix_punch_23 : decode b_Mix_punch 23 = .ok (.aload_n 0, 1) := by decide +kernel
theorem d_Mix_punch_24 : decode b_Mix_punch 24 = .ok (.getfield 45, 3) := by decide +kernel
theorem d_Mix_punch_27 : decode b_Mix_punch 27 = .ok (.iload_n 1, 1) := by decide +kernel
theorem d_Mix_punch_28 : decode b_Mix_punch 28 = .ok (.iload_n 2, 1) := by decide +kernel
theorem d_Mix_punch_29 : decode b_Mix_punch 29 = .ok (.iushr, 1) := by decide +kernel
theorem d_Mix_punch_30 : decode b_Mix_punch 30 = .ok (.sipush 255, 3) := by decide +kernel
theorem d_Mix_punch_33 : decode b_Mix_punch 33 = .ok (.iand, 1) := by decide +kernel
theorem d_Mix_punch_34 : decode b_Mix_punch 34 = .ok (.i2c, 1) := by decide +kernel
theorem d_Mix_punch_35 : decode b_Mix_punch 35 = .ok (.castore, 1) := by decide +kernel
theorem d_Mix_punch_36 : decode b_Mix_punch 36 = .ok (.aload_n 0, 1) := by decide +kernel
theorem d_Mix_punch_37 : decode b_Mix_punch 37 = .ok (.dup, 1) := by decide +kernel
theorem d_Mix_punch_38 : decode b_Mix_punch 38 = .ok (.getfield 45, 3) := by decide +kernel
theorem d_Mix_punch_41 : decode b_Mix_punch 41 = .ok (.iconst 1, 1) := by decide +kernel
theorem d_Mix_punch_42 : decode b_Mix_punch 42 = .ok (.iadd, 1) := by decide +kernel
theorem d_Mix_punch_43 : decode b_Mix_punch 43 = .ok (.putfield 45, 3) := by decide +kernel
theorem d_Mix_punch_46 : decode b_Mix_punch 46 = .ok (.iinc 2 (-8), 3) := by decide +kernel
theorem d_Mix_punch_49 : decode b_Mix_punch 49 = .ok (.goto (-46), 3) := by decide +kernel
theorem d_Mix_punch_52 : decode b_Mix_punch 52 = .ok (.return_, 1) := by decide +kernel
theorem d_Mix_register_0 : decode b_Mix_register 0 = .ok (.aload_n 0, 1) := by decide +kernel
theorem d_Mix_register_1 : decode b_Mix_register 1 = .ok (.getfield 23, 3) := by decide +kernel
theorem d_Mix_register_4 : decode b_Mix_register 4 = .ok (.iload_n 1, 1) := by decide +kernel
theorem d_Mix_register_5 : decode b_Mix_register 5 = .ok (.invokevirtual 95, 3) := by decide +kernel
theorem d_Mix_register_8 : decode b_Mix_register 8 = .ok (.lreturn, 1) := by decide +kernel
theorem d_Mix_run_0 : decode b_Mix_run 0 = .ok (.iload_n 1, 1) := by decide +kernel
theorem d_Mix_run_1 : decode b_Mix_run 1 = .ok (.ifCond .lt 10, 3) := by decide +kernel
theorem d_Mix_run_4 : decode b_Mix_run 4 = .ok (.iload_n 1, 1) := by decide +kernel
theorem d_Mix_run_5 : decode b_Mix_run 5 = .ok (.sipush 5000, 3) := by decide +kernel
theorem d_Mix_run_8 : decode b_Mix_run 8 = .ok (.if_icmp .le 7, 3) := by decide +kernel
theorem d_Mix_run_11 : decode b_Mix_run 11 = .ok (.iconst 0, 1) := by decide +kernel
theorem d_Mix_run_12 : decode b_Mix_run 12 = .ok (.goto 11, 3) := by decide +kernel
theorem d_Mix_run_15 : decode b_Mix_run 15 = .ok (.aload_n 0, 1) := by decide +kernel
theorem d_Mix_run_16 : decode b_Mix_run 16 = .ok (.getfield 41, 3) := by decide +kernel
theorem d_Mix_run_19 : decode b_Mix_run 19 = .ok (.iload_n 1, 1) := by decide +kernel
theorem d_Mix_run_20 : decode b_Mix_run 20 = .ok (.invokevirtual 88, 3) := by decide +kernel
theorem d_Mix_run_23 : decode b_Mix_run 23 = .ok (.ireturn, 1) := by decide +kernel
theorem d_Mix_special_0 : decode b_Mix_special 0 = .ok (.aload_n 0, 1) := by decide +kernel
theorem d_Mix_special_1 : decode b_Mix_special 1 = .ok (.getfield 23, 3) := by decide +kernel
theorem d_Mix_special_4 : decode b_Mix_special 4 = .ok (.iload_n 1, 1) := by decide +kernel
theorem d_Mix_special_5 : decode b_Mix_special 5 = .ok (.invokevirtual 97, 3) := by decide +kernel
theorem d_Mix_special_8 : decode b_Mix_special 8 = .ok (.lreturn, 1) := by decide +kernel
theorem d_Mix_stopped_0 : decode b_Mix_stopped 0 = .ok (.aload_n 0, 1) := by decide +kernel
theorem d_Mix_stopped_1 : decode b_Mix_stopped 1 = .ok (.getfield 41, 3) := by decide +kernel
theorem d_Mix_stopped_4 : decode b_Mix_stopped 4 = .ok (.getfield 92, 3) := by decide +kernel
theorem d_Mix_stopped_7 : decode b_Mix_stopped 7 = .ok (.ireturn, 1) := by decide +kernel
theorem d_Mix_store_0 : decode b_Mix_store 0 = .ok (.aload_n 0, 1) := by decide +kernel
theorem d_Mix_store_1 : decode b_Mix_store 1 = .ok (.getfield 16, 3) := by decide +kernel
theorem d_Mix_store_4 : decode b_Mix_store 4 = .ok (.iload_n 1, 1) := by decide +kernel
theorem d_Mix_store_5 : decode b_Mix_store 5 = .ok (.i2l, 1) := by decide +kernel
theorem d_Mix_store_6 : decode b_Mix_store 6 = .ok (.bipush 8, 2) := by decide +kernel
theorem d_Mix_store_8 : decode b_Mix_store 8 = .ok (.invokevirtual 74, 3) := by decide +kernel
theorem d_Mix_store_11 : decode b_Mix_store 11 = .ok (.ifCond .eq 10, 3) := by decide +kernel
theorem d_Mix_store_14 : decode b_Mix_store 14 = .ok (.iload_n 1, 1) := by decide +kernel
theorem d_Mix_store_15 : decode b_Mix_store 15 = .ok (.bipush 7, 2) := by decide +kernel
theorem d_Mix_store_17 : decode b_Mix_store 17 = .ok (.iand, 1) := by decide +kernel
theorem d_Mix_store_18 : decode b_Mix_store 18 = .ok (.ifCond .eq 5, 3) := by decide +kernel
theorem d_Mix_store_21 : decode b_Mix_store 21 = .ok (.iconst 0, 1) := by decide +kernel
theorem d_Mix_store_22 : decode b_Mix_store 22 = .ok (.ireturn, 1) := by decide +kernel
theorem d_Mix_store_23 : decode b_Mix_store 23 = .ok (.aload_n 0, 1) := by decide +kernel
theorem d_Mix_store_24 : decode b_Mix_store 24 = .ok (.getfield 16, 3) := by decide +kernel
theorem d_Mix_store_27 : decode b_Mix_store 27 = .ok (.iload_n 1, 1) := by decide +kernel
theorem d_Mix_store_28 : decode b_Mix_store 28 = .ok (.i2l, 1) := by decide +kernel
theorem d_Mix_store_29 : decode b_Mix_store 29 = .ok (.bipush 8, 2) := by decide +kernel
theorem d_Mix_store_31 : decode b_Mix_store 31 = .ok (.iload_n 2, 1) := by decide +kernel
theorem d_Mix_store_32 : decode b_Mix_store 32 = .ok (.i2l, 1) := by decide +kernel
theorem d_Mix_store_33 : decode b_Mix_store 33 = .ok (.bipush 32, 2) := by decide +kernel
theorem d_Mix_store_35 : decode b_Mix_store 35 = .ok (.lshl, 1) := by decide +kernel
theorem d_Mix_store_36 : decode b_Mix_store 36 = .ok (.iload_n 3, 1) := by decide +kernel
theorem d_Mix_store_37 : decode b_Mix_store 37 = .ok (.i2l, 1) := by decide +kernel
theorem d_Mix_store_38 : decode b_Mix_store 38 = .ok (.ldc2_w 82, 3) := by decide +kernel
theorem d_Mix_store_41 : decode b_Mix_store 41 = .ok (.land, 1) := by decide +kernel
theorem d_Mix_store_42 : decode b_Mix_store 42 = .ok (.lor, 1) := by decide +kernel
theorem d_Mix_store_43 : decode b_Mix_store 43 = .ok (.invokevirtual 84, 3) := by decide +kernel
theorem d_Mix_store_46 : decode b_Mix_store 46 = .ok (.iconst 1, 1) := by decide +kernel
theorem d_Mix_store_47 : decode b_Mix_store 47 = .ok (.ireturn, 1) := by decide +kernel
theorem d_Mix_taken_0 : decode b_Mix_taken 0 = .ok (.iload_n 1, 1) := by decide +kernel
theorem d_Mix_taken_1 : decode b_Mix_taken 1 = .ok (.tableswitch 51 0 2 #[27, 35, 43], 27) := by decide +kernel
theorem d_Mix_taken_28 : decode b_Mix_taken 28 = .ok (.aload_n 0, 1) := by decide +kernel
theorem d_Mix_taken_29 : decode b_Mix_taken 29 = .ok (.getfield 41, 3) := by decide +kernel
theorem d_Mix_taken_32 : decode b_Mix_taken 32 = .ok (.getfield 104, 3) := by decide +kernel
theorem d_Mix_taken_35 : decode b_Mix_taken 35 = .ok (.ireturn, 1) := by decide +kernel
theorem d_Mix_taken_36 : decode b_Mix_taken 36 = .ok (.aload_n 0, 1) := by decide +kernel
theorem d_Mix_taken_37 : decode b_Mix_taken 37 = .ok (.getfield 41, 3) := by decide +kernel
theorem d_Mix_taken_40 : decode b_Mix_taken 40 = .ok (.getfield 107, 3) := by decide +kernel
theorem d_Mix_taken_43 : decode b_Mix_taken 43 = .ok (.ireturn, 1) := by decide +kernel
theorem d_Mix_taken_44 : decode b_Mix_taken 44 = .ok (.aload_n 0, 1) := by decide +kernel
theorem d_Mix_taken_45 : decode b_Mix_taken 45 = .ok (.getfield 23, 3) := by decide +kernel
theorem d_Mix_taken_48 : decode b_Mix_taken 48 = .ok (.getfield 110, 3) := by decide +kernel
theorem d_Mix_taken_51 : decode b_Mix_taken 51 = .ok (.ireturn, 1) := by decide +kernel
theorem d_Mix_taken_52 : decode b_Mix_taken 52 = .ok (.iconst (-1), 1) := by decide +kernel
theorem d_Mix_taken_53 : decode b_Mix_taken 53 = .ok (.ireturn, 1) := by decide +kernel
theorem d_Asm_init_0 : decode b_Asm_init 0 = .ok (.aload_n 0, 1) := by decide +kernel
theorem d_Asm_init_1 : decode b_Asm_init 1 = .ok (.invokespecial 3, 3) := by decide +kernel
theorem d_Asm_init_4 : decode b_Asm_init 4 = .ok (.aload_n 0, 1) := by decide +kernel
theorem d_Asm_init_5 : decode b_Asm_init 5 = .ok (.new 9, 3) := by decide +kernel
theorem d_Asm_init_8 : decode b_Asm_init 8 = .ok (.dup, 1) := by decide +kernel
theorem d_Asm_init_9 : decode b_Asm_init 9 = .ok (.invokespecial 11, 3) := by decide +kernel
theorem d_Asm_init_12 : decode b_Asm_init 12 = .ok (.putfield 12, 3) := by decide +kernel
theorem d_Asm_init_15 : decode b_Asm_init 15 = .ok (.aload_n 0, 1) := by decide +kernel
theorem d_Asm_init_16 : decode b_Asm_init 16 = .ok (.bipush 40, 2) := by decide +kernel
theorem d_Asm_init_18 : decode b_Asm_init 18 = .ok (.newarray .long, 2) := by decide +kernel
theorem d_Asm_init_20 : decode b_Asm_init 20 = .ok (.putfield 20, 3) := by decide +kernel
theorem d_Asm_init_23 : decode b_Asm_init 23 = .ok (.aload_n 0, 1) := by decide +kernel
theorem d_Asm_init_24 : decode b_Asm_init 24 = .ok (.new 24, 3) := by decide +kernel
theorem d_Asm_init_27 : decode b_Asm_init 27 = .ok (.dup, 1) := by decide +kernel
theorem d_Asm_init_28 : decode b_Asm_init 28 = .ok (.invokespecial 26, 3) := by decide +kernel
theorem d_Asm_init_31 : decode b_Asm_init 31 = .ok (.putfield 27, 3) := by decide +kernel
theorem d_Asm_init_34 : decode b_Asm_init 34 = .ok (.aload_n 0, 1) := by decide +kernel
theorem d_Asm_init_35 : decode b_Asm_init 35 = .ok (.iconst (-1), 1) := by decide +kernel
theorem d_Asm_init_36 : decode b_Asm_init 36 = .ok (.putfield 31, 3) := by decide +kernel
theorem d_Asm_init_39 : decode b_Asm_init 39 = .ok (.aload_n 0, 1) := by decide +kernel
theorem d_Asm_init_40 : decode b_Asm_init 40 = .ok (.new 18, 3) := by decide +kernel
theorem d_Asm_init_43 : decode b_Asm_init 43 = .ok (.dup, 1) := by decide +kernel
theorem d_Asm_init_44 : decode b_Asm_init 44 = .ok (.aload_n 1, 1) := by decide +kernel
theorem d_Asm_init_45 : decode b_Asm_init 45 = .ok (.invokespecial 35, 3) := by decide +kernel
theorem d_Asm_init_48 : decode b_Asm_init 48 = .ok (.putfield 38, 3) := by decide +kernel
theorem d_Asm_init_51 : decode b_Asm_init 51 = .ok (.aload_n 0, 1) := by decide +kernel
theorem d_Asm_init_52 : decode b_Asm_init 52 = .ok (.new 42, 3) := by decide +kernel
theorem d_Asm_init_55 : decode b_Asm_init 55 = .ok (.dup, 1) := by decide +kernel
theorem d_Asm_init_56 : decode b_Asm_init 56 = .ok (.aload_n 1, 1) := by decide +kernel
theorem d_Asm_init_57 : decode b_Asm_init 57 = .ok (.invokespecial 44, 3) := by decide +kernel
theorem d_Asm_init_60 : decode b_Asm_init 60 = .ok (.putfield 45, 3) := by decide +kernel
theorem d_Asm_init_63 : decode b_Asm_init 63 = .ok (.aload_n 0, 1) := by decide +kernel
theorem d_Asm_init_64 : decode b_Asm_init 64 = .ok (.new 49, 3) := by decide +kernel
