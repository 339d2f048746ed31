theorem d_Sum_read_192 : decode b_Sum_read 192 = .ok (.iconst 1, 1) := by decide +kernel
theorem d_Sum_read_193 : decode b_Sum_read 193 = .ok (.goto 4, 3) := by decide +kernel
theorem d_Sum_read_196 : decode b_Sum_read 196 = .ok (.iconst 0, 1) := by decide +kernel
theorem d_Sum_read_197 : decode b_Sum_read 197 = .ok (.istore 5, 2) := by decide +kernel
theorem d_Sum_read_199 : decode b_Sum_read 199 = .ok (.aload_n 0, 1) := by decide +kernel
theorem d_Sum_read_200 : decode b_Sum_read 200 = .ok (.dup, 1) := by decide +kernel
theorem d_Sum_read_201 : decode b_Sum_read 201 = .ok (.getfield 19, 3) := by decide +kernel
theorem d_Sum_read_204 : decode b_Sum_read 204 = .ok (.iconst 1, 1) := by decide +kernel
theorem d_Sum_read_205 : decode b_Sum_read 205 = .ok (.iadd, 1) := by decide +kernel
theorem d_Sum_read_206 : decode b_Sum_read 206 = .ok (.putfield 19, 3) := by decide +kernel
theorem d_Sum_read_209 : decode b_Sum_read 209 = .ok (.iinc 7 1, 3) := by decide +kernel
theorem d_Sum_read_212 : decode b_Sum_read 212 = .ok (.goto (-124), 3) := by decide +kernel
theorem d_Sum_read_215 : decode b_Sum_read 215 = .ok (.aload_n 0, 1) := by decide +kernel
theorem d_Sum_read_216 : decode b_Sum_read 216 = .ok (.getfield 37, 3) := by decide +kernel
theorem d_Sum_read_219 : decode b_Sum_read 219 = .ok (.ifCond .eq 28, 3) := by decide +kernel
theorem d_Sum_read_222 : decode b_Sum_read 222 = .ok (.aload_n 0, 1) := by decide +kernel
theorem d_Sum_read_223 : decode b_Sum_read 223 = .ok (.getfield 40, 3) := by decide +kernel
theorem d_Sum_read_226 : decode b_Sum_read 226 = .ok (.lconst 0, 1) := by decide +kernel
theorem d_Sum_read_227 : decode b_Sum_read 227 = .ok (.lcmp, 1) := by decide +kernel
theorem d_Sum_read_228 : decode b_Sum_read 228 = .ok (.ifCond .lt 14, 3) := by decide +kernel
theorem d_Sum_read_231 : decode b_Sum_read 231 = .ok (.aload_n 0, 1) := by decide +kernel
theorem d_Sum_read_232 : decode b_Sum_read 232 = .ok (.getfield 40, 3) := by decide +kernel
theorem d_Sum_read_235 : decode b_Sum_read 235 = .ok (.ldc2_w 50, 3) := by decide +kernel
theorem d_Sum_read_238 : decode b_Sum_read 238 = .ok (.lcmp, 1) := by decide +kernel
theorem d_Sum_read_239 : decode b_Sum_read 239 = .ok (.ifCond .le 8, 3) := by decide +kernel
theorem d_Sum_read_242 : decode b_Sum_read 242 = .ok (.aload_n 0, 1) := by decide +kernel
theorem d_Sum_read_243 : decode b_Sum_read 243 = .ok (.iconst 0, 1) := by decide +kernel
theorem d_Sum_read_244 : decode b_Sum_read 244 = .ok (.putfield 34, 3) := by decide +kernel
theorem d_Sum_read_247 : decode b_Sum_read 247 = .ok (.aload_n 0, 1) := by decide +kernel
theorem d_Sum_read_248 : decode b_Sum_read 248 = .ok (.getfield 30, 3) := by decide +kernel
theorem d_Sum_read_251 : decode b_Sum_read 251 = .ok (.ifCond .eq 10, 3) := by decide +kernel
theorem d_Sum_read_254 : decode b_Sum_read 254 = .ok (.aload_n 0, 1) := by decide +kernel
theorem d_Sum_read_255 : decode b_Sum_read 255 = .ok (.invokevirtual 52, 3) := by decide +kernel
theorem d_Sum_read_258 : decode b_Sum_read 258 = .ok (.goto 4, 3) := by decide +kernel
theorem d_Sum_read_261 : decode b_Sum_read 261 = .ok (.iconst (-1), 1) := by decide +kernel
theorem d_Sum_read_262 : decode b_Sum_read 262 = .ok (.ireturn, 1) := by decide +kernel
theorem d_Sum_readCharacter_0 : decode b_Sum_readCharacter 0 = .ok (.aload_n 0, 1) := by decide +kernel
theorem d_Sum_readCharacter_1 : decode b_Sum_readCharacter 1 = .ok (.getfield 19, 3) := by decide +kernel
theorem d_Sum_readCharacter_4 : decode b_Sum_readCharacter 4 = .ok (.iconst 2, 1) := by decide +kernel
theorem d_Sum_readCharacter_5 : decode b_Sum_readCharacter 5 = .ok (.iadd, 1) := by decide +kernel
theorem d_Sum_readCharacter_6 : decode b_Sum_readCharacter 6 = .ok (.aload_n 0, 1) := by decide +kernel
theorem d_Sum_readCharacter_7 : decode b_Sum_readCharacter 7 = .ok (.getfield 23, 3) := by decide +kernel
theorem d_Sum_readCharacter_10 : decode b_Sum_readCharacter 10 = .ok (.if_icmp .ge 48, 3) := by decide +kernel
theorem d_Sum_readCharacter_13 : decode b_Sum_readCharacter 13 = .ok (.aload_n 0, 1) := by decide +kernel
theorem d_Sum_readCharacter_14 : decode b_Sum_readCharacter 14 = .ok (.getfield 9, 3) := by decide +kernel
theorem d_Sum_readCharacter_17 : decode b_Sum_readCharacter 17 = .ok (.aload_n 0, 1) := by decide +kernel
theorem d_Sum_readCharacter_18 : decode b_Sum_readCharacter 18 = .ok (.getfield 19, 3) := by decide +kernel
theorem d_Sum_readCharacter_21 : decode b_Sum_readCharacter 21 = .ok (.iconst 2, 1) := by decide +kernel
theorem d_Sum_readCharacter_22 : decode b_Sum_readCharacter 22 = .ok (.iadd, 1) := by decide +kernel
theorem d_Sum_readCharacter_23 : decode b_Sum_readCharacter 23 = .ok (.caload, 1) := by decide +kernel
theorem d_Sum_readCharacter_24 : decode b_Sum_readCharacter 24 = .ok (.bipush 39, 2) := by decide +kernel
theorem d_Sum_readCharacter_26 : decode b_Sum_readCharacter 26 = .ok (.if_icmp .ne 32, 3) := by decide +kernel
theorem d_Sum_readCharacter_29 : decode b_Sum_readCharacter 29 = .ok (.aload_n 0, 1) := by decide +kernel
theorem d_Sum_readCharacter_30 : decode b_Sum_readCharacter 30 = .ok (.aload_n 0, 1) := by decide +kernel
theorem d_Sum_readCharacter_31 : decode b_Sum_readCharacter 31 = .ok (.getfield 9, 3) := by decide +kernel
theorem d_Sum_readCharacter_34 : decode b_Sum_readCharacter 34 = .ok (.aload_n 0, 1) := by decide +kernel
theorem d_Sum_readCharacter_35 : decode b_Sum_readCharacter 35 = .ok (.getfield 19, 3) := by decide +kernel
theorem d_Sum_readCharacter_38 : decode b_Sum_readCharacter 38 = .ok (.iconst 1, 1) := by decide +kernel
theorem d_Sum_readCharacter_39 : decode b_Sum_readCharacter 39 = .ok (.iadd, 1) := by decide +kernel
theorem d_Sum_readCharacter_40 : decode b_Sum_readCharacter 40 = .ok (.caload, 1) := by decide +kernel
theorem d_Sum_readCharacter_41 : decode b_Sum_readCharacter 41 = .ok (.i2l, 1) := by decide +kernel
theorem d_Sum_readCharacter_42 : decode b_Sum_readCharacter 42 = .ok (.putfield 59, 3) := by decide +kernel
theorem d_Sum_readCharacter_45 : decode b_Sum_readCharacter 45 = .ok (.aload_n 0, 1) := by decide +kernel
theorem d_Sum_readCharacter_46 : decode b_Sum_readCharacter 46 = .ok (.dup, 1) := by decide +kernel
theorem d_Sum_readCharacter_47 : decode b_Sum_readCharacter 47 = .ok (.getfield 19, 3) := by decide +kernel
theorem d_Sum_readCharacter_50 : decode b_Sum_readCharacter 50 = .ok (.iconst 3, 1) := by decide +kernel
theorem d_Sum_readCharacter_51 : decode b_Sum_readCharacter 51 = .ok (.iadd, 1) := by decide +kernel
theorem d_Sum_readCharacter_52 : decode b_Sum_readCharacter 52 = .ok (.putfield 19, 3) := by decide +kernel
theorem d_Sum_readCharacter_55 : decode b_Sum_readCharacter 55 = .ok (.goto 8, 3) := by decide +kernel
theorem d_Sum_readCharacter_58 : decode b_Sum_readCharacter 58 = .ok (.aload_n 0, 1) := by decide +kernel
theorem d_Sum_readCharacter_59 : decode b_Sum_readCharacter 59 = .ok (.iconst 0, 1) := by decide +kernel
theorem d_Sum_readCharacter_60 : decode b_Sum_readCharacter 60 = .ok (.putfield 30, 3) := by decide +kernel
theorem d_Sum_readCharacter_63 : decode b_Sum_readCharacter 63 = .ok (.return_, 1) := by decide +kernel
theorem d_Sum_readDecimal_0 : decode b_Sum_readDecimal 0 = .ok (.aload_n 0, 1) := by decide +kernel
theorem d_Sum_readDecimal_1 : decode b_Sum_readDecimal 1 = .ok (.getfield 19, 3) := by decide +kernel
theorem d_Sum_readDecimal_4 : decode b_Sum_readDecimal 4 = .ok (.istore_n 1, 1) := by decide +kernel
theorem d_Sum_readDecimal_5 : decode b_Sum_readDecimal 5 = .ok (.aload_n 0, 1) := by decide +kernel
theorem d_Sum_readDecimal_6 : decode b_Sum_readDecimal 6 = .ok (.getfield 19, 3) := by decide +kernel
theorem d_Sum_readDecimal_9 : decode b_Sum_readDecimal 9 = .ok (.aload_n 0, 1) := by decide +kernel
theorem d_Sum_readDecimal_10 : decode b_Sum_readDecimal 10 = .ok (.getfield 23, 3) := by decide +kernel
theorem d_Sum_readDecimal_13 : decode b_Sum_readDecimal 13 = .ok (.if_icmp .ge 57, 3) := by decide +kernel
theorem d_Sum_readDecimal_16 : decode b_Sum_readDecimal 16 = .ok (.aload_n 0, 1) := by decide +kernel
theorem d_Sum_readDecimal_17 : decode b_Sum_readDecimal 17 = .ok (.getfield 9, 3) := by decide +kernel
theorem d_Sum_readDecimal_20 : decode b_Sum_readDecimal 20 = .ok (.aload_n 0, 1) := by decide +kernel
theorem d_Sum_readDecimal_21 : decode b_Sum_readDecimal 21 = .ok (.getfield 19, 3) := by decide +kernel
theorem d_Sum_readDecimal_24 : decode b_Sum_readDecimal 24 = .ok (.caload, 1) := by decide +kernel
theorem d_Sum_readDecimal_25 : decode b_Sum_readDecimal 25 = .ok (.invokestatic 84, 3) := by decide +kernel
theorem d_Sum_readDecimal_28 : decode b_Sum_readDecimal 28 = .ok (.ifCond .eq 42, 3) := by decide +kernel
theorem d_Sum_readDecimal_31 : decode b_Sum_readDecimal 31 = .ok (.aload_n 0, 1) := by decide +kernel
theorem d_Sum_readDecimal_32 : decode b_Sum_readDecimal 32 = .ok (.ldc2_w 87, 3) := by decide +kernel
theorem d_Sum_readDecimal_35 : decode b_Sum_readDecimal 35 = .ok (.aload_n 0, 1) := by decide +kernel
theorem d_Sum_readDecimal_36 : decode b_Sum_readDecimal 36 = .ok (.getfield 59, 3) := by decide +kernel
theorem d_Sum_readDecimal_39 : decode b_Sum_readDecimal 39 = .ok (.lmul, 1) := by decide +kernel
theorem d_Sum_readDecimal_40 : decode b_Sum_readDecimal 40 = .ok (.aload_n 0, 1) := by decide +kernel
theorem d_Sum_readDecimal_41 : decode b_Sum_readDecimal 41 = .ok (.getfield 9, 3) := by decide +kernel
theorem d_Sum_readDecimal_44 : decode b_Sum_readDecimal 44 = .ok (.aload_n 0, 1) := by decide +kernel
theorem d_Sum_readDecimal_45 : decode b_Sum_readDecimal 45 = .ok (.getfield 19, 3) := by decide +kernel
theorem d_Sum_readDecimal_48 : decode b_Sum_readDecimal 48 = .ok (.caload, 1) := by decide +kernel
theorem d_Sum_readDecimal_49 : decode b_Sum_readDecimal 49 = .ok (.bipush 48, 2) := by decide +kernel
theorem d_Sum_readDecimal_51 : decode b_Sum_readDecimal 51 = .ok (.isub, 1) := by decide +kernel
theorem d_Sum_readDecimal_52 : decode b_Sum_readDecimal 52 = .ok (.i2l, 1) := by decide +kernel
theorem d_Sum_readDecimal_53 : decode b_Sum_readDecimal 53 = .ok (.ladd, 1) := by decide +kernel
theorem d_Sum_readDecimal_54 : decode b_Sum_readDecimal 54 = .ok (.putfield 59, 3) := by decide +kernel
theorem d_Sum_readDecimal_57 : decode b_Sum_readDecimal 57 = .ok (.aload_n 0, 1) := by decide +kernel
theorem d_Sum_readDecimal_58 : decode b_Sum_readDecimal 58 = .ok (.dup, 1) := by decide +kernel
theorem d_Sum_readDecimal_59 : decode b_Sum_readDecimal 59 = .ok (.getfield 19, 3) := by decide +kernel
theorem d_Sum_readDecimal_62 : decode b_Sum_readDecimal 62 = .ok (.iconst 1, 1) := by decide +kernel
theorem d_Sum_readDecimal_63 : decode b_Sum_readDecimal 63 = .ok (.iadd, 1) := by decide +kernel
theorem d_Sum_readDecimal_64 : decode b_Sum_readDecimal 64 = .ok (.putfield 19, 3) := by decide +kernel
theorem d_Sum_readDecimal_67 : decode b_Sum_readDecimal 67 = .ok (.goto (-62), 3) := by decide +kernel
theorem d_Sum_readDecimal_70 : decode b_Sum_readDecimal 70 = .ok (.aload_n 0, 1) := by decide +kernel
theorem d_Sum_readDecimal_71 : decode b_Sum_readDecimal 71 = .ok (.getfield 19, 3) := by decide +kernel
theorem d_Sum_readDecimal_74 : decode b_Sum_readDecimal 74 = .ok (.iload_n 1, 1) := by decide +kernel
theorem d_Sum_readDecimal_75 : decode b_Sum_readDecimal 75 = .ok (.if_icmp .eq 14, 3) := by decide +kernel
theorem d_Sum_readDecimal_78 : decode b_Sum_readDecimal 78 = .ok (.aload_n 0, 1) := by decide +kernel
theorem d_Sum_readDecimal_79 : decode b_Sum_readDecimal 79 = .ok (.getfield 19, 3) := by decide +kernel
theorem d_Sum_readDecimal_82 : decode b_Sum_readDecimal 82 = .ok (.iload_n 1, 1) := by decide +kernel
theorem d_Sum_readDecimal_83 : decode b_Sum_readDecimal 83 = .ok (.isub, 1) := by decide +kernel
theorem d_Sum_readDecimal_84 : decode b_Sum_readDecimal 84 = .ok (.bipush 18, 2) := by decide +kernel
theorem d_Sum_readDecimal_86 : decode b_Sum_readDecimal 86 = .ok (.if_icmp .le 8, 3) := by decide +kernel
theorem d_Sum_readDecimal_89 : decode b_Sum_readDecimal 89 = .ok (.aload_n 0, 1) := by decide +kernel
theorem d_Sum_readDecimal_90 : decode b_Sum_readDecimal 90 = .ok (.iconst 0, 1) := by decide +kernel
theorem d_Sum_readDecimal_91 : decode b_Sum_readDecimal 91 = .ok (.putfield 30, 3) := by decide +kernel
theorem d_Sum_readDecimal_94 : decode b_Sum_readDecimal 94 = .ok (.return_, 1) := by decide +kernel
theorem d_Sum_readHexadecimal_0 : decode b_Sum_readHexadecimal 0 = .ok (.aload_n 0, 1) := by decide +kernel
theorem d_Sum_readHexadecimal_1 : decode b_Sum_readHexadecimal 1 = .ok (.dup, 1) := by decide +kernel
theorem d_Sum_readHexadecimal_2 : decode b_Sum_readHexadecimal 2 = .ok (.getfield 19, 3) := by decide +kernel
theorem d_Sum_readHexadecimal_5 : decode b_Sum_readHexadecimal 5 = .ok (.iconst 1, 1) := by decide +kernel
theorem d_Sum_readHexadecimal_6 : decode b_Sum_readHexadecimal 6 = .ok (.iadd, 1) := by decide +kernel
theorem d_Sum_readHexadecimal_7 : decode b_Sum_readHexadecimal 7 = .ok (.putfield 19, 3) := by decide +kernel
theorem d_Sum_readHexadecimal_10 : decode b_Sum_readHexadecimal 10 = .ok (.aload_n 0, 1) := by decide +kernel
theorem d_Sum_readHexadecimal_11 : decode b_Sum_readHexadecimal 11 = .ok (.getfield 19, 3) := by decide +kernel
theorem d_Sum_readHexadecimal_14 : decode b_Sum_readHexadecimal 14 = .ok (.istore_n 1, 1) := by decide +kernel
theorem d_Sum_readHexadecimal_15 : decode b_Sum_readHexadecimal 15 = .ok (.aload_n 0, 1) := by decide +kernel
theorem d_Sum_readHexadecimal_16 : decode b_Sum_readHexadecimal 16 = .ok (.getfield 19, 3) := by decide +kernel
theorem d_Sum_readHexadecimal_19 : decode b_Sum_readHexadecimal 19 = .ok (.aload_n 0, 1) := by decide +kernel
theorem d_Sum_readHexadecimal_20 : decode b_Sum_readHexadecimal 20 = .ok (.getfield 23, 3) := by decide +kernel
theorem d_Sum_readHexadecimal_23 : decode b_Sum_readHexadecimal 23 = .ok (.if_icmp .ge 56, 3) := by decide +kernel
theorem d_Sum_readHexadecimal_26 : decode b_Sum_readHexadecimal 26 = .ok (.aload_n 0, 1) := by decide +kernel
theorem d_Sum_readHexadecimal_27 : decode b_Sum_readHexadecimal 27 = .ok (.getfield 9, 3) := by decide +kernel
theorem d_Sum_readHexadecimal_30 : decode b_Sum_readHexadecimal 30 = .ok (.aload_n 0, 1) := by decide +kernel
theorem d_Sum_readHexadecimal_31 : decode b_Sum_readHexadecimal 31 = .ok (.getfield 19, 3) := by decide +kernel
theorem d_Sum_readHexadecimal_34 : decode b_Sum_readHexadecimal 34 = .ok (.caload, 1) := by decide +kernel
theorem d_Sum_readHexadecimal_35 : decode b_Sum_readHexadecimal 35 = .ok (.invokestatic 89, 3) := by decide +kernel
theorem d_Sum_readHexadecimal_38 : decode b_Sum_readHexadecimal 38 = .ok (.iconst (-1), 1) := by decide +kernel
theorem d_Sum_readHexadecimal_39 : decode b_Sum_readHexadecimal 39 = .ok (.if_icmp .eq 40, 3) := by decide +kernel
theorem d_Sum_readHexadecimal_42 : decode b_Sum_readHexadecimal 42 = .ok (.aload_n 0, 1) := by decide +kernel
theorem d_Sum_readHexadecimal_43 : decode b_Sum_readHexadecimal 43 = .ok (.aload_n 0, 1) := by decide +kernel
theorem d_Sum_readHexadecimal_44 : decode b_Sum_readHexadecimal 44 = .ok (.getfield 59, 3) := by decide +kernel
theorem d_Sum_readHexadecimal_47 : decode b_Sum_readHexadecimal 47 = .ok (.iconst 4, 1) := by decide +kernel
theorem d_Sum_readHexadecimal_48 : decode b_Sum_readHexadecimal 48 = .ok (.lshl, 1) := by decide +kernel
theorem d_Sum_readHexadecimal_49 : decode b_Sum_readHexadecimal 49 = .ok (.aload_n 0, 1) := by decide +kernel
theorem d_Sum_readHexadecimal_50 : decode b_Sum_readHexadecimal 50 = .ok (.getfield 9, 3) := by decide +kernel
theorem d_Sum_readHexadecimal_53 : decode b_Sum_readHexadecimal 53 = .ok (.aload_n 0, 1) := by decide +kernel
theorem d_Sum_readHexadecimal_54 : decode b_Sum_readHexadecimal 54 = .ok (.getfield 19, 3) := by decide +kernel
theorem d_Sum_readHexadecimal_57 : decode b_Sum_readHexadecimal 57 = .ok (.caload, 1) := by decide +kernel
theorem d_Sum_readHexadecimal_58 : decode b_Sum_readHexadecimal 58 = .ok (.invokestatic 89, 3) := by decide +kernel
theorem d_Sum_readHexadecimal_61 : decode b_Sum_readHexadecimal 61 = .ok (.i2l, 1) := by decide +kernel
theorem d_Sum_readHexadecimal_62 : decode b_Sum_readHexadecimal 62 = .ok (.lor, 1) := by decide +kernel
theorem d_Sum_readHexadecimal_63 : decode b_Sum_readHexadecimal 63 = .ok (.putfield 59, 3) := by decide +kernel
theorem d_Sum_readHexadecimal_66 : decode b_Sum_readHexadecimal 66 = .ok (.aload_n 0, 1) := by decide +kernel
theorem d_Sum_readHexadecimal_67 : decode b_Sum_readHexadecimal 67 = .ok (.dup, 1) := by decide +kernel
theorem d_Sum_readHexadecimal_68 : decode b_Sum_readHexadecimal 68 = .ok (.getfield 19, 3) := by decide +kernel
theorem d_Sum_readHexadecimal_71 : decode b_Sum_readHexadecimal 71 = .ok (.iconst 1, 1) := by decide +kernel
theorem d_Sum_readHexadecimal_72 : decode b_Sum_readHexadecimal 72 = .ok (.iadd, 1) := by decide +kernel
theorem d_Sum_readHexadecimal_73 : decode b_Sum_readHexadecimal 73 = .ok (.putfield 19, 3) := by decide +kernel
theorem d_Sum_readHexadecimal_76 : decode b_Sum_readHexadecimal 76 = .ok (.goto (-61), 3) := by decide +kernel
theorem d_Sum_readHexadecimal_79 : decode b_Sum_readHexadecimal 79 = .ok (.aload_n 0, 1) := by decide +kernel
theorem d_Sum_readHexadecimal_80 : decode b_Sum_readHexadecimal 80 = .ok (.getfield 19, 3) := by decide +kernel
theorem d_Sum_readHexadecimal_83 : decode b_Sum_readHexadecimal 83 = .ok (.iload_n 1, 1) := by decide +kernel
theorem d_Sum_readHexadecimal_84 : decode b_Sum_readHexadecimal 84 = .ok (.if_icmp .eq 14, 3) := by decide +kernel
theorem d_Sum_readHexadecimal_87 : decode b_Sum_readHexadecimal 87 = .ok (.aload_n 0, 1) := by decide +kernel
theorem d_Sum_readHexadecimal_88 : decode b_Sum_readHexadecimal 88 = .ok (.getfield 19, 3) := by decide +kernel
theorem d_Sum_readHexadecimal_91 : decode b_Sum_readHexadecimal 91 = .ok (.iload_n 1, 1) := by decide +kernel
theorem d_Sum_readHexadecimal_92 : decode b_Sum_readHexadecimal 92 = .ok (.isub, 1) := by decide +kernel
theorem d_Sum_readHexadecimal_93 : decode b_Sum_readHexadecimal 93 = .ok (.bipush 16, 2) := by decide +kernel
theorem d_Sum_readHexadecimal_95 : decode b_Sum_readHexadecimal 95 = .ok (.if_icmp .le 8, 3) := by decide +kernel
theorem d_Sum_readHexadecimal_98 : decode b_Sum_readHexadecimal 98 = .ok (.aload_n 0, 1) := by decide +kernel
theorem d_Sum_readHexadecimal_99 : decode b_Sum_readHexadecimal 99 = .ok (.iconst 0, 1) := by decide +kernel
theorem d_Sum_readHexadecimal_100 : decode b_Sum_readHexadecimal 100 = .ok (.putfield 30, 3) := by decide +kernel
theorem d_Sum_readHexadecimal_103 : decode b_Sum_readHexadecimal 103 = .ok (.return_, 1) := by decide +kernel
theorem d_Sum_readName_0 : decode b_Sum_readName 0 = .ok (.aload_n 0, 1) := by decide +kernel
theorem d_Sum_readName_1 : decode b_Sum_readName 1 = .ok (.getfield 19, 3) := by decide +kernel
theorem d_Sum_readName_4 : decode b_Sum_readName 4 = .ok (.istore_n 2, 1) := by decide +kernel
theorem d_Sum_readName_5 : decode b_Sum_readName 5 = .ok (.aload_n 0, 1) := by decide +kernel
theorem d_Sum_readName_6 : decode b_Sum_readName 6 = .ok (.aload_n 0, 1) := by decide +kernel
theorem d_Sum_readName_7 : decode b_Sum_readName 7 = .ok (.getfield 9, 3) := by decide +kernel
theorem d_Sum_readName_10 : decode b_Sum_readName 10 = .ok (.iload_n 2, 1) := by decide +kernel
theorem d_Sum_readName_11 : decode b_Sum_readName 11 = .ok (.aload_n 0, 1) := by decide +kernel
theorem d_Sum_readName_12 : decode b_Sum_readName 12 = .ok (.getfield 23, 3) := by decide +kernel
theorem d_Sum_readName_15 : decode b_Sum_readName 15 = .ok (.invokestatic 93, 3) := by decide +kernel
theorem d_Sum_readName_18 : decode b_Sum_readName 18 = .ok (.putfield 19, 3) := by decide +kernel
theorem d_Sum_readName_21 : decode b_Sum_readName 21 = .ok (.aload_n 0, 1) := by decide +kernel
theorem d_Sum_readName_22 : decode b_Sum_readName 22 = .ok (.getfield 19, 3) := by decide +kernel
theorem d_Sum_readName_25 : decode b_Sum_readName 25 = .ok (.iload_n 2, 1) := by decide +kernel
theorem d_Sum_readName_26 : decode b_Sum_readName 26 = .ok (.isub, 1) := by decide +kernel
theorem d_Sum_readName_27 : decode b_Sum_readName 27 = .ok (.bipush 12, 2) := by decide +kernel
theorem d_Sum_readName_29 : decode b_Sum_readName 29 = .ok (.if_icmp .le 8, 3) := by decide +kernel
theorem d_Sum_readName_32 : decode b_Sum_readName 32 = .ok (.aload_n 0, 1) := by decide +kernel
theorem d_Sum_readName_33 : decode b_Sum_readName 33 = .ok (.iconst 0, 1) := by decide +kernel
theorem d_Sum_readName_34 : decode b_Sum_readName 34 = .ok (.putfield 30, 3) := by decide +kernel
theorem d_Sum_readName_37 : decode b_Sum_readName 37 = .ok (.iload_n 1, 1) := by decide +kernel
theorem d_Sum_readName_38 : decode b_Sum_readName 38 = .ok (.ifCond .eq 7, 3) := by decide +kernel
theorem d_Sum_readName_41 : decode b_Sum_readName 41 = .ok (.iconst (-1), 1) := by decide +kernel
theorem d_Sum_readName_42 : decode b_Sum_readName 42 = .ok (.goto 17, 3) := by decide +kernel
theorem d_Sum_readName_45 : decode b_Sum_readName 45 = .ok (.aload_n 0, 1) := by decide +kernel
theorem d_Sum_readName_46 : decode b_Sum_readName 46 = .ok (.getfield 9, 3) := by decide +kernel
theorem d_Sum_readName_49 : decode b_Sum_readName 49 = .ok (.iload_n 2, 1) := by decide +kernel
theorem d_Sum_readName_50 : decode b_Sum_readName 50 = .ok (.aload_n 0, 1) := by decide +kernel
theorem d_Sum_readName_51 : decode b_Sum_readName 51 = .ok (.getfield 19, 3) := by decide +kernel
theorem d_Sum_readName_54 : decode b_Sum_readName 54 = .ok (.iload_n 2, 1) := by decide +kernel
theorem d_Sum_readName_55 : decode b_Sum_readName 55 = .ok (.isub, 1) := by decide +kernel
theorem d_Sum_readName_56 : decode b_Sum_readName 56 = .ok (.invokestatic 97, 3) := by decide +kernel
theorem d_Sum_readName_59 : decode b_Sum_readName 59 = .ok (.istore_n 3, 1) := by decide +kernel
theorem d_Sum_readName_60 : decode b_Sum_readName 60 = .ok (.iload_n 3, 1) := by decide +kernel
theorem d_Sum_readName_61 : decode b_Sum_readName 61 = .ok (.iconst (-1), 1) := by decide +kernel
theorem d_Sum_readName_62 : decode b_Sum_readName 62 = .ok (.if_icmp .eq 10, 3) := by decide +kernel
theorem d_Sum_readName_65 : decode b_Sum_readName 65 = .ok (.aload_n 0, 1) := by decide +kernel
theorem d_Sum_readName_66 : decode b_Sum_readName 66 = .ok (.iload_n 3, 1) := by decide +kernel
theorem d_Sum_readName_67 : decode b_Sum_readName 67 = .ok (.i2l, 1) := by decide +kernel
theorem d_Sum_readName_68 : decode b_Sum_readName 68 = .ok (.putfield 59, 3) := by decide +kernel
theorem d_Sum_readName_71 : decode b_Sum_readName 71 = .ok (.return_, 1) := by decide +kernel
theorem d_Sum_readName_72 : decode b_Sum_readName 72 = .ok (.aload_n 0, 1) := by decide +kernel
theorem d_Sum_readName_73 : decode b_Sum_readName 73 = .ok (.getfield 15, 3) := by decide +kernel
theorem d_Sum_readName_76 : decode b_Sum_readName 76 = .ok (.iload_n 2, 1) := by decide +kernel
theorem d_Sum_readName_77 : decode b_Sum_readName 77 = .ok (.aload_n 0, 1) := by decide +kernel
theorem d_Sum_readName_78 : decode b_Sum_readName 78 = .ok (.getfield 19, 3) := by decide +kernel
theorem d_Sum_readName_81 : decode b_Sum_readName 81 = .ok (.iload_n 2, 1) := by decide +kernel
theorem d_Sum_readName_82 : decode b_Sum_readName 82 = .ok (.isub, 1) := by decide +kernel
theorem d_Sum_readName_83 : decode b_Sum_readName 83 = .ok (.invokevirtual 102, 3) := by decide +kernel
theorem d_Sum_readName_86 : decode b_Sum_readName 86 = .ok (.istore 4, 2) := by decide +kernel
theorem d_Sum_readName_88 : decode b_Sum_readName 88 = .ok (.iload 4, 2) := by decide +kernel
theorem d_Sum_readName_90 : decode b_Sum_readName 90 = .ok (.iconst (-1), 1) := by decide +kernel
theorem d_Sum_readName_91 : decode b_Sum_readName 91 = .ok (.if_icmp .ne 8, 3) := by decide +kernel
theorem d_Sum_readName_94 : decode b_Sum_readName 94 = .ok (.aload_n 0, 1) := by decide +kernel
theorem d_Sum_readName_95 : decode b_Sum_readName 95 = .ok (.iconst 0, 1) := by decide +kernel
theorem d_Sum_readName_96 : decode b_Sum_readName 96 = .ok (.putfield 34, 3) := by decide +kernel
theorem d_Sum_readName_99 : decode b_Sum_readName 99 = .ok (.aload_n 0, 1) := by decide +kernel
theorem d_Sum_readName_100 : decode b_Sum_readName 100 = .ok (.aload_n 0, 1) := by decide +kernel
theorem d_Sum_readName_101 : decode b_Sum_readName 101 = .ok (.getfield 15, 3) := by decide +kernel
theorem d_Sum_readName_104 : decode b_Sum_readName 104 = .ok (.iload 4, 2) := by decide +kernel
theorem d_Sum_readName_106 : decode b_Sum_readName 106 = .ok (.invokevirtual 108, 3) := by decide +kernel
theorem d_Sum_readName_109 : decode b_Sum_readName 109 = .ok (.putfield 59, 3) := by decide +kernel
theorem d_Sum_readName_112 : decode b_Sum_readName 112 = .ok (.aload_n 0, 1) := by decide +kernel
theorem d_Sum_readName_113 : decode b_Sum_readName 113 = .ok (.aload_n 0, 1) := by decide +kernel
theorem d_Sum_readName_114 : decode b_Sum_readName 114 = .ok (.getfield 15, 3) := by decide +kernel
theorem d_Sum_readName_117 : decode b_Sum_readName 117 = .ok (.iload 4, 2) := by decide +kernel
theorem d_Sum_readName_119 : decode b_Sum_readName 119 = .ok (.invokevirtual 112, 3) := by decide +kernel
theorem d_Sum_readName_122 : decode b_Sum_readName 122 = .ok (.putfield 56, 3) := by decide +kernel
theorem d_Sum_readName_125 : decode b_Sum_readName 125 = .ok (.return_, 1) := by decide +kernel
theorem d_Sum_readTerm_0 : decode b_Sum_readTerm 0 = .ok (.aload_n 0, 1) := by decide +kernel
theorem d_Sum_readTerm_1 : decode b_Sum_readTerm 1 = .ok (.getfield 19, 3) := by decide +kernel
theorem d_Sum_readTerm_4 : decode b_Sum_readTerm 4 = .ok (.aload_n 0, 1) := by decide +kernel
theorem d_Sum_readTerm_5 : decode b_Sum_readTerm 5 = .ok (.getfield 23, 3) := by decide +kernel
theorem d_Sum_readTerm_8 : decode b_Sum_readTerm 8 = .ok (.if_icmp .ge 21, 3) := by decide +kernel
theorem d_Sum_readTerm_11 : decode b_Sum_readTerm 11 = .ok (.aload_n 0, 1) := by decide +kernel
theorem d_Sum_readTerm_12 : decode b_Sum_readTerm 12 = .ok (.getfield 9, 3) := by decide +kernel
theorem d_Sum_readTerm_15 : decode b_Sum_readTerm 15 = .ok (.aload_n 0, 1) := by decide +kernel
theorem d_Sum_readTerm_16 : decode b_Sum_readTerm 16 = .ok (.getfield 19, 3) := by decide +kernel
theorem d_Sum_readTerm_19 : decode b_Sum_readTerm 19 = .ok (.caload, 1) := by decide +kernel
theorem d_Sum_readTerm_20 : decode b_Sum_readTerm 20 = .ok (.bipush 36, 2) := by decide +kernel
theorem d_Sum_readTerm_22 : decode b_Sum_readTerm 22 = .ok (.if_icmp .ne 7, 3) := by decide +kernel
theorem d_Sum_readTerm_25 : decode b_Sum_readTerm 25 = .ok (.iconst 1, 1) := by decide +kernel
theorem d_Sum_readTerm_26 : decode b_Sum_readTerm 26 = .ok (.goto 4, 3) := by decide +kernel
theorem d_Sum_readTerm_29 : decode b_Sum_readTerm 29 = .ok (.iconst 0, 1) := by decide +kernel
theorem d_Sum_readTerm_30 : decode b_Sum_readTerm 30 = .ok (.istore_n 1, 1) := by decide +kernel
theorem d_Sum_readTerm_31 : decode b_Sum_readTerm 31 = .ok (.iload_n 1, 1) := by decide +kernel
theorem d_Sum_readTerm_32 : decode b_Sum_readTerm 32 = .ok (.ifCond .eq 13, 3) := by decide +kernel
theorem d_Sum_readTerm_35 : decode b_Sum_readTerm 35 = .ok (.aload_n 0, 1) := by decide +kernel
theorem d_Sum_readTerm_36 : decode b_Sum_readTerm 36 = .ok (.dup, 1) := by decide +kernel
theorem d_Sum_readTerm_37 : decode b_Sum_readTerm 37 = .ok (.getfield 19, 3) := by decide +kernel
theorem d_Sum_readTerm_40 : decode b_Sum_readTerm 40 = .ok (.iconst 1, 1) := by decide +kernel
theorem d_Sum_readTerm_41 : decode b_Sum_readTerm 41 = .ok (.iadd, 1) := by decide +kernel
theorem d_Sum_readTerm_42 : decode b_Sum_readTerm 42 = .ok (.putfield 19, 3) := by decide +kernel
theorem d_Sum_readTerm_45 : decode b_Sum_readTerm 45 = .ok (.aload_n 0, 1) := by decide +kernel
theorem d_Sum_readTerm_46 : decode b_Sum_readTerm 46 = .ok (.getfield 19, 3) := by decide +kernel
theorem d_Sum_readTerm_49 : decode b_Sum_readTerm 49 = .ok (.aload_n 0, 1) := by decide +kernel
theorem d_Sum_readTerm_50 : decode b_Sum_readTerm 50 = .ok (.getfield 23, 3) := by decide +kernel
theorem d_Sum_readTerm_53 : decode b_Sum_readTerm 53 = .ok (.if_icmp .ge 15, 3) := by decide +kernel
theorem d_Sum_readTerm_56 : decode b_Sum_readTerm 56 = .ok (.aload_n 0, 1) := by decide +kernel
theorem d_Sum_readTerm_57 : decode b_Sum_readTerm 57 = .ok (.getfield 9, 3) := by decide +kernel
theorem d_Sum_readTerm_60 : decode b_Sum_readTerm 60 = .ok (.aload_n 0, 1) := by decide +kernel
theorem d_Sum_readTerm_61 : decode b_Sum_readTerm 61 = .ok (.getfield 19, 3) := by decide +kernel
theorem d_Sum_readTerm_64 : decode b_Sum_readTerm 64 = .ok (.caload, 1) := by decide +kernel
theorem d_Sum_readTerm_65 : decode b_Sum_readTerm 65 = .ok (.goto 5, 3) := by decide +kernel
theorem d_Sum_readTerm_68 : decode b_Sum_readTerm 68 = .ok (.bipush 32, 2) := by decide +kernel
theorem d_Sum_readTerm_70 : decode b_Sum_readTerm 70 = .ok (.istore_n 2, 1) := by decide +kernel
theorem d_Sum_readTerm_71 : decode b_Sum_readTerm 71 = .ok (.iload_n 2, 1) := by decide +kernel
theorem d_Sum_readTerm_72 : decode b_Sum_readTerm 72 = .ok (.invokestatic 62, 3) := by decide +kernel
theorem d_Sum_readTerm_75 : decode b_Sum_readTerm 75 = .ok (.istore_n 3, 1) := by decide +kernel
theorem d_Sum_readTerm_76 : decode b_Sum_readTerm 76 = .ok (.aload_n 0, 1) := by decide +kernel
theorem d_Sum_readTerm_77 : decode b_Sum_readTerm 77 = .ok (.iconst 0, 1) := by decide +kernel
theorem d_Sum_readTerm_78 : decode b_Sum_readTerm 78 = .ok (.putfield 56, 3) := by decide +kernel
theorem d_Sum_readTerm_81 : decode b_Sum_readTerm 81 = .ok (.aload_n 0, 1) := by decide +kernel
theorem d_Sum_readTerm_82 : decode b_Sum_readTerm 82 = .ok (.lconst 0, 1) := by decide +kernel
theorem d_Sum_readTerm_83 : decode b_Sum_readTerm 83 = .ok (.putfield 59, 3) := by decide +kernel
theorem d_Sum_readTerm_86 : decode b_Sum_readTerm 86 = .ok (.iload_n 3, 1) := by decide +kernel
theorem d_Sum_readTerm_87 : decode b_Sum_readTerm 87 = .ok (.ifCond .eq 11, 3) := by decide +kernel
theorem d_Sum_readTerm_90 : decode b_Sum_readTerm 90 = .ok (.aload_n 0, 1) := by decide +kernel
theorem d_Sum_readTerm_91 : decode b_Sum_readTerm 91 = .ok (.iload_n 1, 1) := by decide +kernel
