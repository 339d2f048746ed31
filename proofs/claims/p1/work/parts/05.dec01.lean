theorem d_Asm_init_67 : decode b_Asm_init 67 = .ok (.dup, 1) := by decide +kernel
theorem d_Asm_init_68 : decode b_Asm_init 68 = .ok (.aload_n 1, 1) := by decide +kernel
theorem d_Asm_init_69 : decode b_Asm_init 69 = .ok (.aload_n 0, 1) := by decide +kernel
theorem d_Asm_init_70 : decode b_Asm_init 70 = .ok (.getfield 38, 3) := by decide +kernel
theorem d_Asm_init_73 : decode b_Asm_init 73 = .ok (.invokespecial 51, 3) := by decide +kernel
theorem d_Asm_init_76 : decode b_Asm_init 76 = .ok (.putfield 54, 3) := by decide +kernel
theorem d_Asm_init_79 : decode b_Asm_init 79 = .ok (.return_, 1) := by decide +kernel
theorem d_Asm_answer_0 : decode b_Asm_answer 0 = .ok (.iload_n 1, 1) := by decide +kernel
theorem d_Asm_answer_1 : decode b_Asm_answer 1 = .ok (.ifCond .lt 29, 3) := by decide +kernel
theorem d_Asm_answer_4 : decode b_Asm_answer 4 = .ok (.iload_n 1, 1) := by decide +kernel
theorem d_Asm_answer_5 : decode b_Asm_answer 5 = .ok (.aload_n 0, 1) := by decide +kernel
theorem d_Asm_answer_6 : decode b_Asm_answer 6 = .ok (.getfield 58, 3) := by decide +kernel
theorem d_Asm_answer_9 : decode b_Asm_answer 9 = .ok (.if_icmp .ge 21, 3) := by decide +kernel
theorem d_Asm_answer_30 : decode b_Asm_answer 30 = .ok (.ldc2_w 61, 3) := by decide +kernel
theorem d_Asm_answer_33 : decode b_Asm_answer 33 = .ok (.lreturn, 1) := by decide +kernel
theorem d_Asm_translate_0 : decode b_Asm_translate 0 = .ok (.aload_n 0, 1) := by decide +kernel
theorem d_Asm_translate_1 : decode b_Asm_translate 1 = .ok (.getfield 38, 3) := by decide +kernel
theorem d_Asm_translate_4 : decode b_Asm_translate 4 = .ok (.invokevirtual 63, 3) := by decide +kernel
theorem d_Asm_translate_7 : decode b_Asm_translate 7 = .ok (.aload_n 0, 1) := by decide +kernel
theorem d_Asm_translate_8 : decode b_Asm_translate 8 = .ok (.getfield 27, 3) := by decide +kernel
theorem d_Asm_translate_11 : decode b_Asm_translate 11 = .ok (.invokevirtual 66, 3) := by decide +kernel
theorem d_Asm_translate_14 : decode b_Asm_translate 14 = .ok (.aload_n 0, 1) := by decide +kernel
theorem d_Asm_translate_15 : decode b_Asm_translate 15 = .ok (.iconst (-1), 1) := by decide +kernel
theorem d_Asm_translate_16 : decode b_Asm_translate 16 = .ok (.putfield 31, 3) := by decide +kernel
theorem d_Asm_translate_19 : decode b_Asm_translate 19 = .ok (.iconst 0, 1) := by decide +kernel
theorem d_Asm_translate_20 : decode b_Asm_translate 20 = .ok (.istore_n 2, 1) := by decide +kernel
theorem d_Asm_translate_21 : decode b_Asm_translate 21 = .ok (.iload_n 2, 1) := by decide +kernel
theorem d_Asm_translate_22 : decode b_Asm_translate 22 = .ok (.iconst 2, 1) := by decide +kernel
theorem d_Asm_translate_23 : decode b_Asm_translate 23 = .ok (.if_icmp .ge 160, 3) := by decide +kernel
theorem d_Asm_translate_26 : decode b_Asm_translate 26 = .ok (.aload_n 0, 1) := by decide +kernel
theorem d_Asm_translate_27 : decode b_Asm_translate 27 = .ok (.getfield 31, 3) := by decide +kernel
theorem d_Asm_translate_30 : decode b_Asm_translate 30 = .ok (.iconst (-1), 1) := by decide +kernel
theorem d_Asm_translate_31 : decode b_Asm_translate 31 = .ok (.if_icmp .ne 152, 3) := by decide +kernel
theorem d_Asm_translate_34 : decode b_Asm_translate 34 = .ok (.iload_n 2, 1) := by decide +kernel
theorem d_Asm_translate_35 : decode b_Asm_translate 35 = .ok (.ifCond .ne 7, 3) := by decide +kernel
theorem d_Asm_translate_38 : decode b_Asm_translate 38 = .ok (.iconst 1, 1) := by decide +kernel
theorem d_Asm_translate_39 : decode b_Asm_translate 39 = .ok (.goto 4, 3) := by decide +kernel
theorem d_Asm_translate_42 : decode b_Asm_translate 42 = .ok (.iconst 0, 1) := by decide +kernel
theorem d_Asm_translate_43 : decode b_Asm_translate 43 = .ok (.istore_n 3, 1) := by decide +kernel
theorem d_Asm_translate_44 : decode b_Asm_translate 44 = .ok (.aload_n 0, 1) := by decide +kernel
theorem d_Asm_translate_45 : decode b_Asm_translate 45 = .ok (.sipush 256, 3) := by decide +kernel
theorem d_Asm_translate_48 : decode b_Asm_translate 48 = .ok (.putfield 67, 3) := by decide +kernel
theorem d_Asm_translate_51 : decode b_Asm_translate 51 = .ok (.aload_n 0, 1) := by decide +kernel
theorem d_Asm_translate_52 : decode b_Asm_translate 52 = .ok (.iconst 0, 1) := by decide +kernel
theorem d_Asm_translate_53 : decode b_Asm_translate 53 = .ok (.putfield 70, 3) := by decide +kernel
theorem d_Asm_translate_56 : decode b_Asm_translate 56 = .ok (.iconst 0, 1) := by decide +kernel
theorem d_Asm_translate_57 : decode b_Asm_translate 57 = .ok (.istore 4, 2) := by decide +kernel
theorem d_Asm_translate_59 : decode b_Asm_translate 59 = .ok (.iconst 0, 1) := by decide +kernel
theorem d_Asm_translate_60 : decode b_Asm_translate 60 = .ok (.istore 5, 2) := by decide +kernel
theorem d_Asm_translate_62 : decode b_Asm_translate 62 = .ok (.iload 5, 2) := by decide +kernel
theorem d_Asm_translate_64 : decode b_Asm_translate 64 = .ok (.iload_n 1, 1) := by decide +kernel
theorem d_Asm_translate_65 : decode b_Asm_translate 65 = .ok (.if_icmp .ge 112, 3) := by decide +kernel
theorem d_Asm_translate_177 : decode b_Asm_translate 177 = .ok (.iinc 2 1, 3) := by decide +kernel
theorem d_Asm_translate_180 : decode b_Asm_translate 180 = .ok (.goto (-159), 3) := by decide +kernel
theorem d_Asm_translate_183 : decode b_Asm_translate 183 = .ok (.aload_n 0, 1) := by decide +kernel
theorem d_Asm_translate_184 : decode b_Asm_translate 184 = .ok (.getfield 31, 3) := by decide +kernel
theorem d_Asm_translate_187 : decode b_Asm_translate 187 = .ok (.iconst (-1), 1) := by decide +kernel
theorem d_Asm_translate_188 : decode b_Asm_translate 188 = .ok (.if_icmp .ne 18, 3) := by decide +kernel
theorem d_Asm_translate_191 : decode b_Asm_translate 191 = .ok (.aload_n 0, 1) := by decide +kernel
theorem d_Asm_translate_192 : decode b_Asm_translate 192 = .ok (.aload_n 0, 1) := by decide +kernel
theorem d_Asm_translate_193 : decode b_Asm_translate 193 = .ok (.getfield 38, 3) := by decide +kernel
theorem d_Asm_translate_196 : decode b_Asm_translate 196 = .ok (.aload_n 0, 1) := by decide +kernel
theorem d_Asm_translate_197 : decode b_Asm_translate 197 = .ok (.getfield 20, 3) := by decide +kernel
theorem d_Asm_translate_200 : decode b_Asm_translate 200 = .ok (.invokevirtual 94, 3) := by decide +kernel
theorem d_Asm_translate_203 : decode b_Asm_translate 203 = .ok (.putfield 58, 3) := by decide +kernel
theorem d_Asm_translate_206 : decode b_Asm_translate 206 = .ok (.aload_n 0, 1) := by decide +kernel
theorem d_Asm_translate_207 : decode b_Asm_translate 207 = .ok (.getfield 31, 3) := by decide +kernel
theorem d_Asm_translate_210 : decode b_Asm_translate 210 = .ok (.iconst (-1), 1) := by decide +kernel
theorem d_Asm_translate_211 : decode b_Asm_translate 211 = .ok (.if_icmp .ne 7, 3) := by decide +kernel
theorem d_Asm_translate_214 : decode b_Asm_translate 214 = .ok (.iconst 1, 1) := by decide +kernel
theorem d_Asm_translate_215 : decode b_Asm_translate 215 = .ok (.goto 4, 3) := by decide +kernel
theorem d_Asm_translate_219 : decode b_Asm_translate 219 = .ok (.ireturn, 1) := by decide +kernel
theorem d_Lab_init_0 : decode b_Lab_init 0 = .ok (.aload_n 0, 1) := by decide +kernel
theorem d_Lab_init_1 : decode b_Lab_init 1 = .ok (.invokespecial 3, 3) := by decide +kernel
theorem d_Lab_init_4 : decode b_Lab_init 4 = .ok (.aload_n 0, 1) := by decide +kernel
theorem d_Lab_init_5 : decode b_Lab_init 5 = .ok (.bipush 40, 2) := by decide +kernel
theorem d_Lab_init_7 : decode b_Lab_init 7 = .ok (.newarray .int, 2) := by decide +kernel
theorem d_Lab_init_9 : decode b_Lab_init 9 = .ok (.putfield 11, 3) := by decide +kernel
theorem d_Lab_init_12 : decode b_Lab_init 12 = .ok (.aload_n 0, 1) := by decide +kernel
theorem d_Lab_init_13 : decode b_Lab_init 13 = .ok (.bipush 40, 2) := by decide +kernel
theorem d_Lab_init_15 : decode b_Lab_init 15 = .ok (.newarray .int, 2) := by decide +kernel
theorem d_Lab_init_17 : decode b_Lab_init 17 = .ok (.putfield 15, 3) := by decide +kernel
theorem d_Lab_init_20 : decode b_Lab_init 20 = .ok (.aload_n 0, 1) := by decide +kernel
theorem d_Lab_init_21 : decode b_Lab_init 21 = .ok (.bipush 40, 2) := by decide +kernel
theorem d_Lab_init_23 : decode b_Lab_init 23 = .ok (.newarray .long, 2) := by decide +kernel
theorem d_Lab_init_25 : decode b_Lab_init 25 = .ok (.putfield 18, 3) := by decide +kernel
theorem d_Lab_init_28 : decode b_Lab_init 28 = .ok (.aload_n 0, 1) := by decide +kernel
theorem d_Lab_init_29 : decode b_Lab_init 29 = .ok (.bipush 40, 2) := by decide +kernel
theorem d_Lab_init_31 : decode b_Lab_init 31 = .ok (.newarray .boolean, 2) := by decide +kernel
theorem d_Lab_init_33 : decode b_Lab_init 33 = .ok (.putfield 22, 3) := by decide +kernel
theorem d_Lab_init_36 : decode b_Lab_init 36 = .ok (.aload_n 0, 1) := by decide +kernel
theorem d_Lab_init_37 : decode b_Lab_init 37 = .ok (.aload_n 1, 1) := by decide +kernel
theorem d_Lab_init_38 : decode b_Lab_init 38 = .ok (.putfield 26, 3) := by decide +kernel
theorem d_Lab_init_41 : decode b_Lab_init 41 = .ok (.return_, 1) := by decide +kernel
theorem d_Lab_clear_0 : decode b_Lab_clear 0 = .ok (.aload_n 0, 1) := by decide +kernel
theorem d_Lab_clear_1 : decode b_Lab_clear 1 = .ok (.iconst 0, 1) := by decide +kernel
theorem d_Lab_clear_2 : decode b_Lab_clear 2 = .ok (.putfield 30, 3) := by decide +kernel
theorem d_Lab_clear_5 : decode b_Lab_clear 5 = .ok (.return_, 1) := by decide +kernel
theorem d_Lab_tell_0 : decode b_Lab_tell 0 = .ok (.iconst 0, 1) := by decide +kernel
theorem d_Lab_tell_1 : decode b_Lab_tell 1 = .ok (.istore_n 2, 1) := by decide +kernel
theorem d_Lab_tell_2 : decode b_Lab_tell 2 = .ok (.iload_n 2, 1) := by decide +kernel
theorem d_Lab_tell_3 : decode b_Lab_tell 3 = .ok (.aload_n 0, 1) := by decide +kernel
theorem d_Lab_tell_4 : decode b_Lab_tell 4 = .ok (.getfield 30, 3) := by decide +kernel
theorem d_Lab_tell_7 : decode b_Lab_tell 7 = .ok (.if_icmp .ge 46, 3) := by decide +kernel
theorem d_Lab_tell_53 : decode b_Lab_tell 53 = .ok (.aload_n 0, 1) := by decide +kernel
theorem d_Lab_tell_54 : decode b_Lab_tell 54 = .ok (.getfield 30, 3) := by decide +kernel
theorem d_Lab_tell_57 : decode b_Lab_tell 57 = .ok (.ireturn, 1) := by decide +kernel
theorem d_Lin_init_0 : decode b_Lin_init 0 = .ok (.aload_n 0, 1) := by decide +kernel
theorem d_Lin_init_1 : decode b_Lin_init 1 = .ok (.invokespecial 3, 3) := by decide +kernel
theorem d_Lin_init_4 : decode b_Lin_init 4 = .ok (.aload_n 0, 1) := by decide +kernel
theorem d_Lin_init_5 : decode b_Lin_init 5 = .ok (.new 9, 3) := by decide +kernel
theorem d_Lin_init_8 : decode b_Lin_init 8 = .ok (.dup, 1) := by decide +kernel
theorem d_Lin_init_9 : decode b_Lin_init 9 = .ok (.invokespecial 11, 3) := by decide +kernel
theorem d_Lin_init_12 : decode b_Lin_init 12 = .ok (.putfield 12, 3) := by decide +kernel
theorem d_Lin_init_15 : decode b_Lin_init 15 = .ok (.aload_n 0, 1) := by decide +kernel
theorem d_Lin_init_16 : decode b_Lin_init 16 = .ok (.aload_n 1, 1) := by decide +kernel
theorem d_Lin_init_17 : decode b_Lin_init 17 = .ok (.putfield 18, 3) := by decide +kernel
theorem d_Lin_init_20 : decode b_Lin_init 20 = .ok (.return_, 1) := by decide +kernel
theorem d_Mac_init_0 : decode b_Mac_init 0 = .ok (.aload_n 0, 1) := by decide +kernel
theorem d_Mac_init_1 : decode b_Mac_init 1 = .ok (.invokespecial 1, 3) := by decide +kernel
theorem d_Mac_init_4 : decode b_Mac_init 4 = .ok (.aload_n 0, 1) := by decide +kernel
theorem d_Mac_init_5 : decode b_Mac_init 5 = .ok (.aload_n 1, 1) := by decide +kernel
theorem d_Mac_init_6 : decode b_Mac_init 6 = .ok (.putfield 7, 3) := by decide +kernel
theorem d_Mac_init_9 : decode b_Mac_init 9 = .ok (.aload_n 0, 1) := by decide +kernel
theorem d_Mac_init_10 : decode b_Mac_init 10 = .ok (.aload_n 2, 1) := by decide +kernel
theorem d_Mac_init_11 : decode b_Mac_init 11 = .ok (.putfield 13, 3) := by decide +kernel
theorem d_Mac_init_14 : decode b_Mac_init 14 = .ok (.aload_n 0, 1) := by decide +kernel
theorem d_Mac_init_15 : decode b_Mac_init 15 = .ok (.ldc2_w 17, 3) := by decide +kernel
theorem d_Mac_init_18 : decode b_Mac_init 18 = .ok (.putfield 19, 3) := by decide +kernel
theorem d_Mac_init_21 : decode b_Mac_init 21 = .ok (.return_, 1) := by decide +kernel
theorem d_Mac_decode_0 : decode b_Mac_decode 0 = .ok (.aload_n 0, 1) := by decide +kernel
theorem d_Mac_decode_1 : decode b_Mac_decode 1 = .ok (.aload_n 0, 1) := by decide +kernel
theorem d_Mac_decode_2 : decode b_Mac_decode 2 = .ok (.getfield 7, 3) := by decide +kernel
theorem d_Mac_decode_5 : decode b_Mac_decode 5 = .ok (.aload_n 0, 1) := by decide +kernel
theorem d_Mac_decode_6 : decode b_Mac_decode 6 = .ok (.getfield 19, 3) := by decide +kernel
theorem d_Mac_decode_9 : decode b_Mac_decode 9 = .ok (.invokevirtual 66, 3) := by decide +kernel
theorem d_Mac_decode_12 : decode b_Mac_decode 12 = .ok (.putfield 70, 3) := by decide +kernel
theorem d_Mac_decode_15 : decode b_Mac_decode 15 = .ok (.aload_n 0, 1) := by decide +kernel
theorem d_Mac_decode_16 : decode b_Mac_decode 16 = .ok (.aload_n 0, 1) := by decide +kernel
theorem d_Mac_decode_17 : decode b_Mac_decode 17 = .ok (.getfield 70, 3) := by decide +kernel
theorem d_Mac_decode_20 : decode b_Mac_decode 20 = .ok (.bipush 24, 2) := by decide +kernel
theorem d_Mac_decode_22 : decode b_Mac_decode 22 = .ok (.iushr, 1) := by decide +kernel
theorem d_Mac_decode_23 : decode b_Mac_decode 23 = .ok (.putfield 73, 3) := by decide +kernel
theorem d_Mac_decode_26 : decode b_Mac_decode 26 = .ok (.aload_n 0, 1) := by decide +kernel
theorem d_Mac_decode_27 : decode b_Mac_decode 27 = .ok (.aload_n 0, 1) := by decide +kernel
theorem d_Mac_decode_28 : decode b_Mac_decode 28 = .ok (.getfield 70, 3) := by decide +kernel
theorem d_Mac_decode_31 : decode b_Mac_decode 31 = .ok (.bipush 16, 2) := by decide +kernel
theorem d_Mac_decode_33 : decode b_Mac_decode 33 = .ok (.iushr, 1) := by decide +kernel
theorem d_Mac_decode_34 : decode b_Mac_decode 34 = .ok (.sipush 255, 3) := by decide +kernel
theorem d_Mac_decode_37 : decode b_Mac_decode 37 = .ok (.iand, 1) := by decide +kernel
theorem d_Mac_decode_38 : decode b_Mac_decode 38 = .ok (.putfield 76, 3) := by decide +kernel
theorem d_Mac_decode_41 : decode b_Mac_decode 41 = .ok (.aload_n 0, 1) := by decide +kernel
theorem d_Mac_decode_42 : decode b_Mac_decode 42 = .ok (.aload_n 0, 1) := by decide +kernel
theorem d_Mac_decode_43 : decode b_Mac_decode 43 = .ok (.getfield 70, 3) := by decide +kernel
theorem d_Mac_decode_46 : decode b_Mac_decode 46 = .ok (.bipush 8, 2) := by decide +kernel
theorem d_Mac_decode_48 : decode b_Mac_decode 48 = .ok (.iushr, 1) := by decide +kernel
theorem d_Mac_decode_49 : decode b_Mac_decode 49 = .ok (.sipush 255, 3) := by decide +kernel
theorem d_Mac_decode_52 : decode b_Mac_decode 52 = .ok (.iand, 1) := by decide +kernel
theorem d_Mac_decode_53 : decode b_Mac_decode 53 = .ok (.putfield 79, 3) := by decide +kernel
theorem d_Mac_decode_56 : decode b_Mac_decode 56 = .ok (.aload_n 0, 1) := by decide +kernel
theorem d_Mac_decode_57 : decode b_Mac_decode 57 = .ok (.aload_n 0, 1) := by decide +kernel
theorem d_Mac_decode_58 : decode b_Mac_decode 58 = .ok (.getfield 70, 3) := by decide +kernel
theorem d_Mac_decode_61 : decode b_Mac_decode 61 = .ok (.sipush 255, 3) := by decide +kernel
theorem d_Mac_decode_64 : decode b_Mac_decode 64 = .ok (.iand, 1) := by decide +kernel
theorem d_Mac_decode_65 : decode b_Mac_decode 65 = .ok (.putfield 82, 3) := by decide +kernel
theorem d_Mac_decode_68 : decode b_Mac_decode 68 = .ok (.aload_n 0, 1) := by decide +kernel
theorem d_Mac_decode_69 : decode b_Mac_decode 69 = .ok (.aload_n 0, 1) := by decide +kernel
theorem d_Mac_decode_70 : decode b_Mac_decode 70 = .ok (.getfield 13, 3) := by decide +kernel
theorem d_Mac_decode_73 : decode b_Mac_decode 73 = .ok (.aload_n 0, 1) := by decide +kernel
theorem d_Mac_decode_74 : decode b_Mac_decode 74 = .ok (.getfield 79, 3) := by decide +kernel
theorem d_Mac_decode_77 : decode b_Mac_decode 77 = .ok (.invokevirtual 85, 3) := by decide +kernel
theorem d_Mac_decode_80 : decode b_Mac_decode 80 = .ok (.putfield 89, 3) := by decide +kernel
theorem d_Mac_decode_83 : decode b_Mac_decode 83 = .ok (.aload_n 0, 1) := by decide +kernel
theorem d_Mac_decode_84 : decode b_Mac_decode 84 = .ok (.aload_n 0, 1) := by decide +kernel
theorem d_Mac_decode_85 : decode b_Mac_decode 85 = .ok (.getfield 73, 3) := by decide +kernel
theorem d_Mac_decode_88 : decode b_Mac_decode 88 = .ok (.iconst 1, 1) := by decide +kernel
theorem d_Mac_decode_89 : decode b_Mac_decode 89 = .ok (.iand, 1) := by decide +kernel
theorem d_Mac_decode_90 : decode b_Mac_decode 90 = .ok (.ifCond .ne 17, 3) := by decide +kernel
theorem d_Mac_decode_93 : decode b_Mac_decode 93 = .ok (.aload_n 0, 1) := by decide +kernel
theorem d_Mac_decode_94 : decode b_Mac_decode 94 = .ok (.getfield 13, 3) := by decide +kernel
theorem d_Mac_decode_97 : decode b_Mac_decode 97 = .ok (.aload_n 0, 1) := by decide +kernel
theorem d_Mac_decode_98 : decode b_Mac_decode 98 = .ok (.getfield 82, 3) := by decide +kernel
theorem d_Mac_decode_101 : decode b_Mac_decode 101 = .ok (.invokevirtual 85, 3) := by decide +kernel
theorem d_Mac_decode_104 : decode b_Mac_decode 104 = .ok (.goto 8, 3) := by decide +kernel
theorem d_Mac_decode_112 : decode b_Mac_decode 112 = .ok (.putfield 92, 3) := by decide +kernel
theorem d_Mac_decode_115 : decode b_Mac_decode 115 = .ok (.aload_n 0, 1) := by decide +kernel
theorem d_Mac_decode_116 : decode b_Mac_decode 116 = .ok (.aload_n 0, 1) := by decide +kernel
theorem d_Mac_decode_117 : decode b_Mac_decode 117 = .ok (.getfield 19, 3) := by decide +kernel
theorem d_Mac_decode_120 : decode b_Mac_decode 120 = .ok (.ldc2_w 95, 3) := by decide +kernel
theorem d_Mac_decode_123 : decode b_Mac_decode 123 = .ok (.ladd, 1) := by decide +kernel
theorem d_Mac_decode_124 : decode b_Mac_decode 124 = .ok (.putfield 60, 3) := by decide +kernel
theorem d_Mac_decode_127 : decode b_Mac_decode 127 = .ok (.aload_n 0, 1) := by decide +kernel
theorem d_Mac_decode_128 : decode b_Mac_decode 128 = .ok (.iconst 1, 1) := by decide +kernel
theorem d_Mac_decode_129 : decode b_Mac_decode 129 = .ok (.putfield 63, 3) := by decide +kernel
theorem d_Mac_decode_132 : decode b_Mac_decode 132 = .ok (.aload_n 0, 1) := by decide +kernel
theorem d_Mac_decode_133 : decode b_Mac_decode 133 = .ok (.iconst 0, 1) := by decide +kernel
theorem d_Mac_decode_134 : decode b_Mac_decode 134 = .ok (.putfield 54, 3) := by decide +kernel
theorem d_Mac_decode_137 : decode b_Mac_decode 137 = .ok (.return_, 1) := by decide +kernel
theorem d_Mac_execute_0 : decode b_Mac_execute 0 = .ok (.aload_n 0, 1) := by decide +kernel
theorem d_Mac_execute_1 : decode b_Mac_execute 1 = .ok (.getfield 73, 3) := by decide +kernel
theorem d_Mac_execute_4 : decode b_Mac_execute 4 = .ok (.ifCond .ne 23, 3) := by decide +kernel
theorem d_Mac_execute_7 : decode b_Mac_execute 7 = .ok (.aload_n 0, 1) := by decide +kernel
theorem d_Mac_execute_8 : decode b_Mac_execute 8 = .ok (.getfield 76, 3) := by decide +kernel
theorem d_Mac_execute_11 : decode b_Mac_execute 11 = .ok (.ifCond .ne 14, 3) := by decide +kernel
theorem d_Mac_execute_14 : decode b_Mac_execute 14 = .ok (.aload_n 0, 1) := by decide +kernel
theorem d_Mac_execute_15 : decode b_Mac_execute 15 = .ok (.getfield 79, 3) := by decide +kernel
theorem d_Mac_execute_18 : decode b_Mac_execute 18 = .ok (.ifCond .ne 7, 3) := by decide +kernel
theorem d_Mac_execute_21 : decode b_Mac_execute 21 = .ok (.iconst 5, 1) := by decide +kernel
theorem d_Mac_execute_22 : decode b_Mac_execute 22 = .ok (.goto 4, 3) := by decide +kernel
theorem d_Mac_execute_26 : decode b_Mac_execute 26 = .ok (.ireturn, 1) := by decide +kernel
theorem d_Mac_go_0 : decode b_Mac_go 0 = .ok (.iconst 0, 1) := by decide +kernel
theorem d_Mac_go_1 : decode b_Mac_go 1 = .ok (.istore_n 2, 1) := by decide +kernel
theorem d_Mac_go_2 : decode b_Mac_go 2 = .ok (.iconst 0, 1) := by decide +kernel
theorem d_Mac_go_3 : decode b_Mac_go 3 = .ok (.istore_n 3, 1) := by decide +kernel
theorem d_Mac_go_4 : decode b_Mac_go 4 = .ok (.iload_n 3, 1) := by decide +kernel
theorem d_Mac_go_5 : decode b_Mac_go 5 = .ok (.iload_n 1, 1) := by decide +kernel
theorem d_Mac_go_6 : decode b_Mac_go 6 = .ok (.if_icmp .ge 30, 3) := by decide +kernel
theorem d_Mac_go_9 : decode b_Mac_go 9 = .ok (.aload_n 0, 1) := by decide +kernel
theorem d_Mac_go_10 : decode b_Mac_go 10 = .ok (.getfield 28, 3) := by decide +kernel
theorem d_Mac_go_13 : decode b_Mac_go 13 = .ok (.ifCond .ne 23, 3) := by decide +kernel
theorem d_Mac_go_16 : decode b_Mac_go 16 = .ok (.aload_n 0, 1) := by decide +kernel
theorem d_Mac_go_17 : decode b_Mac_go 17 = .ok (.invokevirtual 38, 3) := by decide +kernel
theorem d_Mac_go_20 : decode b_Mac_go 20 = .ok (.aload_n 0, 1) := by decide +kernel
theorem d_Mac_go_21 : decode b_Mac_go 21 = .ok (.getfield 28, 3) := by decide +kernel
theorem d_Mac_go_24 : decode b_Mac_go 24 = .ok (.ifCond .ne 6, 3) := by decide +kernel
theorem d_Mac_go_30 : decode b_Mac_go 30 = .ok (.iinc 3 1, 3) := by decide +kernel
theorem d_Mac_go_33 : decode b_Mac_go 33 = .ok (.goto (-29), 3) := by decide +kernel
theorem d_Mac_go_36 : decode b_Mac_go 36 = .ok (.iload_n 2, 1) := by decide +kernel
theorem d_Mac_go_37 : decode b_Mac_go 37 = .ok (.ireturn, 1) := by decide +kernel
theorem d_Mac_setBack_0 : decode b_Mac_setBack 0 = .ok (.aload_n 0, 1) := by decide +kernel
theorem d_Mac_setBack_1 : decode b_Mac_setBack 1 = .ok (.getfield 13, 3) := by decide +kernel
theorem d_Mac_setBack_4 : decode b_Mac_setBack 4 = .ok (.invokevirtual 23, 3) := by decide +kernel
theorem d_Mac_setBack_7 : decode b_Mac_setBack 7 = .ok (.aload_n 0, 1) := by decide +kernel
theorem d_Mac_setBack_8 : decode b_Mac_setBack 8 = .ok (.ldc2_w 17, 3) := by decide +kernel
theorem d_Mac_setBack_11 : decode b_Mac_setBack 11 = .ok (.putfield 19, 3) := by decide +kernel
theorem d_Mac_setBack_14 : decode b_Mac_setBack 14 = .ok (.aload_n 0, 1) := by decide +kernel
theorem d_Mac_setBack_15 : decode b_Mac_setBack 15 = .ok (.iconst 0, 1) := by decide +kernel
theorem d_Mac_setBack_16 : decode b_Mac_setBack 16 = .ok (.putfield 28, 3) := by decide +kernel
theorem d_Mac_setBack_19 : decode b_Mac_setBack 19 = .ok (.aload_n 0, 1) := by decide +kernel
theorem d_Mac_setBack_20 : decode b_Mac_setBack 20 = .ok (.iconst 0, 1) := by decide +kernel
theorem d_Mac_setBack_21 : decode b_Mac_setBack 21 = .ok (.putfield 32, 3) := by decide +kernel
theorem d_Mac_setBack_24 : decode b_Mac_setBack 24 = .ok (.aload_n 0, 1) := by decide +kernel
theorem d_Mac_setBack_25 : decode b_Mac_setBack 25 = .ok (.iconst 0, 1) := by decide +kernel
theorem d_Mac_setBack_26 : decode b_Mac_setBack 26 = .ok (.putfield 35, 3) := by decide +kernel
theorem d_Mac_setBack_29 : decode b_Mac_setBack 29 = .ok (.return_, 1) := by decide +kernel
theorem d_Mac_step_0 : decode b_Mac_step 0 = .ok (.aload_n 0, 1) := by decide +kernel
theorem d_Mac_step_1 : decode b_Mac_step 1 = .ok (.getfield 7, 3) := by decide +kernel
theorem d_Mac_step_4 : decode b_Mac_step 4 = .ok (.aload_n 0, 1) := by decide +kernel
theorem d_Mac_step_5 : decode b_Mac_step 5 = .ok (.getfield 19, 3) := by decide +kernel
theorem d_Mac_step_8 : decode b_Mac_step 8 = .ok (.iconst 4, 1) := by decide +kernel
