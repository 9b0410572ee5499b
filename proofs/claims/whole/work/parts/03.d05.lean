theorem dX12_scan_193 : decode cX12_scan 193 = .ok (.dup, 1) := by decide +kernel
theorem dX12_scan_194 : decode cX12_scan 194 = .ok (.getfield 30, 3) := by decide +kernel
theorem dX12_scan_197 : decode cX12_scan 197 = .ok (.iconst 1, 1) := by decide +kernel
theorem dX12_scan_198 : decode cX12_scan 198 = .ok (.iadd, 1) := by decide +kernel
theorem dX12_scan_199 : decode cX12_scan 199 = .ok (.putfield 30, 3) := by decide +kernel
theorem dX12_scan_202 : decode cX12_scan 202 = .ok (.goto (-60), 3) := by decide +kernel
theorem dX12_scan_205 : decode cX12_scan 205 = .ok (.aload_n 0, 1) := by decide +kernel
theorem dX12_scan_206 : decode cX12_scan 206 = .ok (.aload_n 0, 1) := by decide +kernel
theorem dX12_scan_207 : decode cX12_scan 207 = .ok (.getfield 30, 3) := by decide +kernel
theorem dX12_scan_210 : decode cX12_scan 210 = .ok (.aload_n 0, 1) := by decide +kernel
theorem dX12_scan_211 : decode cX12_scan 211 = .ok (.getfield 13, 3) := by decide +kernel
theorem dX12_scan_214 : decode cX12_scan 214 = .ok (.isub, 1) := by decide +kernel
theorem dX12_scan_215 : decode cX12_scan 215 = .ok (.iconst 4, 1) := by decide +kernel
theorem dX12_scan_216 : decode cX12_scan 216 = .ok (.if_icmp .le 7, 3) := by decide +kernel
theorem dX12_scan_219 : decode cX12_scan 219 = .ok (.iconst 4, 1) := by decide +kernel
theorem dX12_scan_220 : decode cX12_scan 220 = .ok (.goto 4, 3) := by decide +kernel
theorem dX12_scan_223 : decode cX12_scan 223 = .ok (.iconst 2, 1) := by decide +kernel
theorem dX12_scan_224 : decode cX12_scan 224 = .ok (.putfield 37, 3) := by decide +kernel
theorem dX12_scan_227 : decode cX12_scan 227 = .ok (.goto 28, 3) := by decide +kernel
theorem dX12_scan_230 : decode cX12_scan 230 = .ok (.aload_n 0, 1) := by decide +kernel
theorem dX12_scan_231 : decode cX12_scan 231 = .ok (.iload_n 1, 1) := by decide +kernel
theorem dX12_scan_232 : decode cX12_scan 232 = .ok (.bipush 59, 2) := by decide +kernel
theorem dX12_scan_234 : decode cX12_scan 234 = .ok (.if_icmp .ne 7, 3) := by decide +kernel
theorem dX12_scan_237 : decode cX12_scan 237 = .ok (.iconst 3, 1) := by decide +kernel
theorem dX12_scan_238 : decode cX12_scan 238 = .ok (.goto 4, 3) := by decide +kernel
theorem dX12_scan_241 : decode cX12_scan 241 = .ok (.iconst 4, 1) := by decide +kernel
theorem dX12_scan_242 : decode cX12_scan 242 = .ok (.putfield 37, 3) := by decide +kernel
theorem dX12_scan_245 : decode cX12_scan 245 = .ok (.aload_n 0, 1) := by decide +kernel
theorem dX12_scan_246 : decode cX12_scan 246 = .ok (.dup, 1) := by decide +kernel
theorem dX12_scan_247 : decode cX12_scan 247 = .ok (.getfield 30, 3) := by decide +kernel
theorem dX12_scan_250 : decode cX12_scan 250 = .ok (.iconst 1, 1) := by decide +kernel
theorem dX12_scan_251 : decode cX12_scan 251 = .ok (.iadd, 1) := by decide +kernel
theorem dX12_scan_252 : decode cX12_scan 252 = .ok (.putfield 30, 3) := by decide +kernel
theorem dX12_scan_255 : decode cX12_scan 255 = .ok (.return_, 1) := by decide +kernel
theorem dX12_is_0 : decode cX12_is 0 = .ok (.aload_n 0, 1) := by decide +kernel
theorem dX12_is_1 : decode cX12_is 1 = .ok (.getfield 37, 3) := by decide +kernel
theorem dX12_is_4 : decode cX12_is 4 = .ok (.iconst 1, 1) := by decide +kernel
theorem dX12_is_5 : decode cX12_is 5 = .ok (.if_icmp .ne 23, 3) := by decide +kernel
theorem dX12_is_8 : decode cX12_is 8 = .ok (.aload_n 0, 1) := by decide +kernel
theorem dX12_is_9 : decode cX12_is 9 = .ok (.getfield 30, 3) := by decide +kernel
theorem dX12_is_12 : decode cX12_is 12 = .ok (.aload_n 0, 1) := by decide +kernel
theorem dX12_is_13 : decode cX12_is 13 = .ok (.getfield 13, 3) := by decide +kernel
theorem dX12_is_16 : decode cX12_is 16 = .ok (.isub, 1) := by decide +kernel
theorem dX12_is_17 : decode cX12_is 17 = .ok (.aload_n 1, 1) := by decide +kernel
theorem dX12_is_18 : decode cX12_is 18 = .ok (.invokevirtual 50, 3) := by decide +kernel
theorem dX12_is_21 : decode cX12_is 21 = .ok (.if_icmp .ne 7, 3) := by decide +kernel
theorem dX12_is_24 : decode cX12_is 24 = .ok (.iconst 1, 1) := by decide +kernel
theorem dX12_is_25 : decode cX12_is 25 = .ok (.goto 4, 3) := by decide +kernel
theorem dX12_is_28 : decode cX12_is 28 = .ok (.iconst 0, 1) := by decide +kernel
theorem dX12_is_29 : decode cX12_is 29 = .ok (.istore_n 2, 1) := by decide +kernel
theorem dX12_is_30 : decode cX12_is 30 = .ok (.iconst 0, 1) := by decide +kernel
theorem dX12_is_31 : decode cX12_is 31 = .ok (.istore_n 3, 1) := by decide +kernel
theorem dX12_is_32 : decode cX12_is 32 = .ok (.iload_n 3, 1) := by decide +kernel
theorem dX12_is_33 : decode cX12_is 33 = .ok (.aload_n 1, 1) := by decide +kernel
theorem dX12_is_34 : decode cX12_is 34 = .ok (.invokevirtual 50, 3) := by decide +kernel
theorem dX12_is_37 : decode cX12_is 37 = .ok (.if_icmp .ge 38, 3) := by decide +kernel
theorem dX12_is_40 : decode cX12_is 40 = .ok (.iload_n 2, 1) := by decide +kernel
theorem dX12_is_41 : decode cX12_is 41 = .ok (.ifCond .eq 34, 3) := by decide +kernel
theorem dX12_is_44 : decode cX12_is 44 = .ok (.aload_n 0, 1) := by decide +kernel
theorem dX12_is_45 : decode cX12_is 45 = .ok (.getfield 26, 3) := by decide +kernel
theorem dX12_is_48 : decode cX12_is 48 = .ok (.aload_n 0, 1) := by decide +kernel
theorem dX12_is_49 : decode cX12_is 49 = .ok (.getfield 13, 3) := by decide +kernel
theorem dX12_is_52 : decode cX12_is 52 = .ok (.iload_n 3, 1) := by decide +kernel
theorem dX12_is_53 : decode cX12_is 53 = .ok (.iadd, 1) := by decide +kernel
theorem dX12_is_54 : decode cX12_is 54 = .ok (.baload, 1) := by decide +kernel
theorem dX12_is_55 : decode cX12_is 55 = .ok (.aload_n 1, 1) := by decide +kernel
theorem dX12_is_56 : decode cX12_is 56 = .ok (.iload_n 3, 1) := by decide +kernel
theorem dX12_is_57 : decode cX12_is 57 = .ok (.invokevirtual 56, 3) := by decide +kernel
theorem dX12_is_60 : decode cX12_is 60 = .ok (.if_icmp .ne 7, 3) := by decide +kernel
theorem dX12_is_63 : decode cX12_is 63 = .ok (.iconst 1, 1) := by decide +kernel
theorem dX12_is_64 : decode cX12_is 64 = .ok (.goto 4, 3) := by decide +kernel
theorem dX12_is_67 : decode cX12_is 67 = .ok (.iconst 0, 1) := by decide +kernel
theorem dX12_is_68 : decode cX12_is 68 = .ok (.istore_n 2, 1) := by decide +kernel
theorem dX12_is_69 : decode cX12_is 69 = .ok (.iinc 3 1, 3) := by decide +kernel
theorem dX12_is_72 : decode cX12_is 72 = .ok (.goto (-40), 3) := by decide +kernel
theorem dX12_is_75 : decode cX12_is 75 = .ok (.iload_n 2, 1) := by decide +kernel
theorem dX12_is_76 : decode cX12_is 76 = .ok (.ireturn, 1) := by decide +kernel
theorem dX12_number_0 : decode cX12_number 0 = .ok (.aload_n 0, 1) := by decide +kernel
theorem dX12_number_1 : decode cX12_number 1 = .ok (.getfield 37, 3) := by decide +kernel
theorem dX12_number_4 : decode cX12_number 4 = .ok (.iconst 2, 1) := by decide +kernel
theorem dX12_number_5 : decode cX12_number 5 = .ok (.if_icmp .eq 9, 3) := by decide +kernel
theorem dX12_number_8 : decode cX12_number 8 = .ok (.aload_n 0, 1) := by decide +kernel
theorem dX12_number_9 : decode cX12_number 9 = .ok (.iconst 1, 1) := by decide +kernel
theorem dX12_number_10 : decode cX12_number 10 = .ok (.invokevirtual 60, 3) := by decide +kernel
theorem dX12_number_13 : decode cX12_number 13 = .ok (.athrow, 1) := by decide +kernel
theorem dX12_number_14 : decode cX12_number 14 = .ok (.aload_n 0, 1) := by decide +kernel
theorem dX12_number_15 : decode cX12_number 15 = .ok (.getfield 47, 3) := by decide +kernel
theorem dX12_number_18 : decode cX12_number 18 = .ok (.i2l, 1) := by decide +kernel
theorem dX12_number_19 : decode cX12_number 19 = .ok (.iload_n 1, 1) := by decide +kernel
theorem dX12_number_20 : decode cX12_number 20 = .ok (.i2l, 1) := by decide +kernel
theorem dX12_number_21 : decode cX12_number 21 = .ok (.iload_n 2, 1) := by decide +kernel
theorem dX12_number_22 : decode cX12_number 22 = .ok (.i2l, 1) := by decide +kernel
theorem dX12_number_23 : decode cX12_number 23 = .ok (.invokestatic 5, 3) := by decide +kernel
theorem dX12_number_26 : decode cX12_number 26 = .ok (.ifCond .ne 9, 3) := by decide +kernel
theorem dX12_number_29 : decode cX12_number 29 = .ok (.aload_n 0, 1) := by decide +kernel
theorem dX12_number_30 : decode cX12_number 30 = .ok (.iconst 2, 1) := by decide +kernel
theorem dX12_number_31 : decode cX12_number 31 = .ok (.invokevirtual 60, 3) := by decide +kernel
theorem dX12_number_34 : decode cX12_number 34 = .ok (.athrow, 1) := by decide +kernel
theorem dX12_number_35 : decode cX12_number 35 = .ok (.aload_n 0, 1) := by decide +kernel
theorem dX12_number_36 : decode cX12_number 36 = .ok (.getfield 47, 3) := by decide +kernel
theorem dX12_number_39 : decode cX12_number 39 = .ok (.istore_n 3, 1) := by decide +kernel
theorem dX12_number_40 : decode cX12_number 40 = .ok (.aload_n 0, 1) := by decide +kernel
theorem dX12_number_41 : decode cX12_number 41 = .ok (.invokevirtual 64, 3) := by decide +kernel
theorem dX12_number_44 : decode cX12_number 44 = .ok (.iload_n 3, 1) := by decide +kernel
theorem dX12_number_45 : decode cX12_number 45 = .ok (.ireturn, 1) := by decide +kernel
theorem dX12_either_0 : decode cX12_either 0 = .ok (.aload_n 0, 1) := by decide +kernel
theorem dX12_either_1 : decode cX12_either 1 = .ok (.aload_n 1, 1) := by decide +kernel
theorem dX12_either_2 : decode cX12_either 2 = .ok (.invokevirtual 68, 3) := by decide +kernel
theorem dX12_either_5 : decode cX12_either 5 = .ok (.ifCond .ne 17, 3) := by decide +kernel
theorem dX12_either_8 : decode cX12_either 8 = .ok (.aload_n 0, 1) := by decide +kernel
theorem dX12_either_9 : decode cX12_either 9 = .ok (.aload_n 2, 1) := by decide +kernel
theorem dX12_either_10 : decode cX12_either 10 = .ok (.invokevirtual 68, 3) := by decide +kernel
theorem dX12_either_13 : decode cX12_either 13 = .ok (.ifCond .ne 9, 3) := by decide +kernel
theorem dX12_either_16 : decode cX12_either 16 = .ok (.aload_n 0, 1) := by decide +kernel
theorem dX12_either_17 : decode cX12_either 17 = .ok (.iconst 1, 1) := by decide +kernel
theorem dX12_either_18 : decode cX12_either 18 = .ok (.invokevirtual 60, 3) := by decide +kernel
theorem dX12_either_21 : decode cX12_either 21 = .ok (.athrow, 1) := by decide +kernel
theorem dX12_either_22 : decode cX12_either 22 = .ok (.aload_n 0, 1) := by decide +kernel
theorem dX12_either_23 : decode cX12_either 23 = .ok (.aload_n 1, 1) := by decide +kernel
theorem dX12_either_24 : decode cX12_either 24 = .ok (.invokevirtual 68, 3) := by decide +kernel
theorem dX12_either_27 : decode cX12_either 27 = .ok (.ifCond .eq 7, 3) := by decide +kernel
theorem dX12_either_30 : decode cX12_either 30 = .ok (.iconst 0, 1) := by decide +kernel
theorem dX12_either_31 : decode cX12_either 31 = .ok (.goto 4, 3) := by decide +kernel
theorem dX12_either_34 : decode cX12_either 34 = .ok (.iconst 1, 1) := by decide +kernel
theorem dX12_either_35 : decode cX12_either 35 = .ok (.istore_n 3, 1) := by decide +kernel
theorem dX12_either_36 : decode cX12_either 36 = .ok (.aload_n 0, 1) := by decide +kernel
theorem dX12_either_37 : decode cX12_either 37 = .ok (.invokevirtual 64, 3) := by decide +kernel
theorem dX12_either_40 : decode cX12_either 40 = .ok (.iload_n 3, 1) := by decide +kernel
theorem dX12_either_41 : decode cX12_either 41 = .ok (.ireturn, 1) := by decide +kernel
theorem dX12_key_0 : decode cX12_key 0 = .ok (.aload_n 0, 1) := by decide +kernel
theorem dX12_key_1 : decode cX12_key 1 = .ok (.ldc 72, 2) := by decide +kernel
theorem dX12_key_3 : decode cX12_key 3 = .ok (.invokevirtual 68, 3) := by decide +kernel
theorem dX12_key_6 : decode cX12_key 6 = .ok (.ifCond .eq 5, 3) := by decide +kernel
theorem dX12_key_9 : decode cX12_key 9 = .ok (.iconst 0, 1) := by decide +kernel
theorem dX12_key_10 : decode cX12_key 10 = .ok (.ireturn, 1) := by decide +kernel
theorem dX12_key_11 : decode cX12_key 11 = .ok (.aload_n 0, 1) := by decide +kernel
theorem dX12_key_12 : decode cX12_key 12 = .ok (.ldc 74, 2) := by decide +kernel
theorem dX12_key_14 : decode cX12_key 14 = .ok (.invokevirtual 68, 3) := by decide +kernel
theorem dX12_key_17 : decode cX12_key 17 = .ok (.ifCond .eq 5, 3) := by decide +kernel
theorem dX12_key_20 : decode cX12_key 20 = .ok (.iconst 1, 1) := by decide +kernel
theorem dX12_key_21 : decode cX12_key 21 = .ok (.ireturn, 1) := by decide +kernel
theorem dX12_key_22 : decode cX12_key 22 = .ok (.aload_n 0, 1) := by decide +kernel
theorem dX12_key_23 : decode cX12_key 23 = .ok (.ldc 76, 2) := by decide +kernel
theorem dX12_key_25 : decode cX12_key 25 = .ok (.invokevirtual 68, 3) := by decide +kernel
theorem dX12_key_28 : decode cX12_key 28 = .ok (.ifCond .eq 5, 3) := by decide +kernel
theorem dX12_key_31 : decode cX12_key 31 = .ok (.iconst 2, 1) := by decide +kernel
theorem dX12_key_32 : decode cX12_key 32 = .ok (.ireturn, 1) := by decide +kernel
theorem dX12_key_33 : decode cX12_key 33 = .ok (.aload_n 0, 1) := by decide +kernel
theorem dX12_key_34 : decode cX12_key 34 = .ok (.ldc 78, 2) := by decide +kernel
theorem dX12_key_36 : decode cX12_key 36 = .ok (.invokevirtual 68, 3) := by decide +kernel
theorem dX12_key_39 : decode cX12_key 39 = .ok (.ifCond .eq 5, 3) := by decide +kernel
theorem dX12_key_42 : decode cX12_key 42 = .ok (.iconst 3, 1) := by decide +kernel
theorem dX12_key_43 : decode cX12_key 43 = .ok (.ireturn, 1) := by decide +kernel
theorem dX12_key_44 : decode cX12_key 44 = .ok (.aload_n 0, 1) := by decide +kernel
theorem dX12_key_45 : decode cX12_key 45 = .ok (.ldc 80, 2) := by decide +kernel
theorem dX12_key_47 : decode cX12_key 47 = .ok (.invokevirtual 68, 3) := by decide +kernel
theorem dX12_key_50 : decode cX12_key 50 = .ok (.ifCond .eq 5, 3) := by decide +kernel
theorem dX12_key_53 : decode cX12_key 53 = .ok (.iconst 4, 1) := by decide +kernel
theorem dX12_key_54 : decode cX12_key 54 = .ok (.ireturn, 1) := by decide +kernel
theorem dX12_key_55 : decode cX12_key 55 = .ok (.aload_n 0, 1) := by decide +kernel
theorem dX12_key_56 : decode cX12_key 56 = .ok (.ldc 82, 2) := by decide +kernel
theorem dX12_key_58 : decode cX12_key 58 = .ok (.invokevirtual 68, 3) := by decide +kernel
theorem dX12_key_61 : decode cX12_key 61 = .ok (.ifCond .eq 7, 3) := by decide +kernel
theorem dX12_key_64 : decode cX12_key 64 = .ok (.iconst 5, 1) := by decide +kernel
theorem dX12_key_65 : decode cX12_key 65 = .ok (.goto 4, 3) := by decide +kernel
theorem dX12_key_68 : decode cX12_key 68 = .ok (.iconst (-1), 1) := by decide +kernel
theorem dX12_key_69 : decode cX12_key 69 = .ok (.ireturn, 1) := by decide +kernel
theorem dX12_readRules_0 : decode cX12_readRules 0 = .ok (.iconst 0, 1) := by decide +kernel
theorem dX12_readRules_1 : decode cX12_readRules 1 = .ok (.istore_n 1, 1) := by decide +kernel
theorem dX12_readRules_2 : decode cX12_readRules 2 = .ok (.iload_n 1, 1) := by decide +kernel
theorem dX12_readRules_3 : decode cX12_readRules 3 = .ok (.bipush 11, 2) := by decide +kernel
theorem dX12_readRules_5 : decode cX12_readRules 5 = .ok (.if_icmp .ge 33, 3) := by decide +kernel
theorem dX12_readRules_8 : decode cX12_readRules 8 = .ok (.aload_n 0, 1) := by decide +kernel
theorem dX12_readRules_9 : decode cX12_readRules 9 = .ok (.getfield 84, 3) := by decide +kernel
theorem dX12_readRules_12 : decode cX12_readRules 12 = .ok (.iload_n 1, 1) := by decide +kernel
theorem dX12_readRules_13 : decode cX12_readRules 13 = .ok (.bipush 10, 2) := by decide +kernel
theorem dX12_readRules_15 : decode cX12_readRules 15 = .ok (.iload_n 1, 1) := by decide +kernel
theorem dX12_readRules_16 : decode cX12_readRules 16 = .ok (.isub, 1) := by decide +kernel
theorem dX12_readRules_17 : decode cX12_readRules 17 = .ok (.bipush 10, 2) := by decide +kernel
theorem dX12_readRules_19 : decode cX12_readRules 19 = .ok (.iload_n 1, 1) := by decide +kernel
theorem dX12_readRules_20 : decode cX12_readRules 20 = .ok (.isub, 1) := by decide +kernel
theorem dX12_readRules_21 : decode cX12_readRules 21 = .ok (.imul, 1) := by decide +kernel
theorem dX12_readRules_22 : decode cX12_readRules 22 = .ok (.iastore, 1) := by decide +kernel
theorem dX12_readRules_23 : decode cX12_readRules 23 = .ok (.aload_n 0, 1) := by decide +kernel
theorem dX12_readRules_24 : decode cX12_readRules 24 = .ok (.getfield 88, 3) := by decide +kernel
theorem dX12_readRules_27 : decode cX12_readRules 27 = .ok (.iload_n 1, 1) := by decide +kernel
theorem dX12_readRules_28 : decode cX12_readRules 28 = .ok (.iload_n 1, 1) := by decide +kernel
theorem dX12_readRules_29 : decode cX12_readRules 29 = .ok (.iload_n 1, 1) := by decide +kernel
theorem dX12_readRules_30 : decode cX12_readRules 30 = .ok (.imul, 1) := by decide +kernel
theorem dX12_readRules_31 : decode cX12_readRules 31 = .ok (.iastore, 1) := by decide +kernel
theorem dX12_readRules_32 : decode cX12_readRules 32 = .ok (.iinc 1 1, 3) := by decide +kernel
theorem dX12_readRules_35 : decode cX12_readRules 35 = .ok (.goto (-33), 3) := by decide +kernel
theorem dX12_readRules_38 : decode cX12_readRules 38 = .ok (.aload_n 0, 1) := by decide +kernel
theorem dX12_readRules_39 : decode cX12_readRules 39 = .ok (.iconst 0, 1) := by decide +kernel
theorem dX12_readRules_40 : decode cX12_readRules 40 = .ok (.putfield 91, 3) := by decide +kernel
theorem dX12_readRules_43 : decode cX12_readRules 43 = .ok (.aload_n 0, 1) := by decide +kernel
theorem dX12_readRules_44 : decode cX12_readRules 44 = .ok (.iconst 0, 1) := by decide +kernel
theorem dX12_readRules_45 : decode cX12_readRules 45 = .ok (.putfield 94, 3) := by decide +kernel
theorem dX12_readRules_48 : decode cX12_readRules 48 = .ok (.aload_n 0, 1) := by decide +kernel
theorem dX12_readRules_49 : decode cX12_readRules 49 = .ok (.iconst (-1), 1) := by decide +kernel
theorem dX12_readRules_50 : decode cX12_readRules 50 = .ok (.putfield 97, 3) := by decide +kernel
theorem dX12_readRules_53 : decode cX12_readRules 53 = .ok (.aload_n 0, 1) := by decide +kernel
theorem dX12_readRules_54 : decode cX12_readRules 54 = .ok (.iconst (-1), 1) := by decide +kernel
theorem dX12_readRules_55 : decode cX12_readRules 55 = .ok (.putfield 100, 3) := by decide +kernel
theorem dX12_readRules_58 : decode cX12_readRules 58 = .ok (.aload_n 0, 1) := by decide +kernel
theorem dX12_readRules_59 : decode cX12_readRules 59 = .ok (.iconst 1, 1) := by decide +kernel
theorem dX12_readRules_60 : decode cX12_readRules 60 = .ok (.putfield 103, 3) := by decide +kernel
theorem dX12_readRules_63 : decode cX12_readRules 63 = .ok (.iconst 0, 1) := by decide +kernel
theorem dX12_readRules_64 : decode cX12_readRules 64 = .ok (.istore_n 1, 1) := by decide +kernel
theorem dX12_readRules_65 : decode cX12_readRules 65 = .ok (.iload_n 1, 1) := by decide +kernel
theorem dX12_readRules_66 : decode cX12_readRules 66 = .ok (.aload_n 0, 1) := by decide +kernel
theorem dX12_readRules_67 : decode cX12_readRules 67 = .ok (.getfield 106, 3) := by decide +kernel
theorem dX12_readRules_70 : decode cX12_readRules 70 = .ok (.arraylength, 1) := by decide +kernel
theorem dX12_readRules_71 : decode cX12_readRules 71 = .ok (.if_icmp .ge 16, 3) := by decide +kernel
theorem dX12_readRules_74 : decode cX12_readRules 74 = .ok (.aload_n 0, 1) := by decide +kernel
theorem dX12_readRules_75 : decode cX12_readRules 75 = .ok (.getfield 106, 3) := by decide +kernel
theorem dX12_readRules_78 : decode cX12_readRules 78 = .ok (.iload_n 1, 1) := by decide +kernel
theorem dX12_readRules_79 : decode cX12_readRules 79 = .ok (.iconst 0, 1) := by decide +kernel
theorem dX12_readRules_80 : decode cX12_readRules 80 = .ok (.bastore, 1) := by decide +kernel
theorem dX12_readRules_81 : decode cX12_readRules 81 = .ok (.iinc 1 1, 3) := by decide +kernel
theorem dX12_readRules_84 : decode cX12_readRules 84 = .ok (.goto (-19), 3) := by decide +kernel
theorem dX12_readRules_87 : decode cX12_readRules 87 = .ok (.iconst 0, 1) := by decide +kernel
theorem dX12_readRules_88 : decode cX12_readRules 88 = .ok (.istore_n 1, 1) := by decide +kernel
theorem dX12_readRules_89 : decode cX12_readRules 89 = .ok (.aload_n 0, 1) := by decide +kernel
theorem dX12_readRules_90 : decode cX12_readRules 90 = .ok (.getfield 37, 3) := by decide +kernel
theorem dX12_readRules_93 : decode cX12_readRules 93 = .ok (.ifCond .eq 74, 3) := by decide +kernel
theorem dX12_readRules_96 : decode cX12_readRules 96 = .ok (.aload_n 0, 1) := by decide +kernel
theorem dX12_readRules_97 : decode cX12_readRules 97 = .ok (.invokevirtual 110, 3) := by decide +kernel
theorem dX12_readRules_100 : decode cX12_readRules 100 = .ok (.istore_n 2, 1) := by decide +kernel
theorem dX12_readRules_101 : decode cX12_readRules 101 = .ok (.iload_n 2, 1) := by decide +kernel
theorem dX12_readRules_102 : decode cX12_readRules 102 = .ok (.iconst (-1), 1) := by decide +kernel
theorem dX12_readRules_103 : decode cX12_readRules 103 = .ok (.if_icmp .ne 9, 3) := by decide +kernel
theorem dX12_readRules_106 : decode cX12_readRules 106 = .ok (.aload_n 0, 1) := by decide +kernel
theorem dX12_readRules_107 : decode cX12_readRules 107 = .ok (.iconst 1, 1) := by decide +kernel
theorem dX12_readRules_108 : decode cX12_readRules 108 = .ok (.invokevirtual 60, 3) := by decide +kernel
theorem dX12_readRules_111 : decode cX12_readRules 111 = .ok (.athrow, 1) := by decide +kernel
theorem dX12_readRules_112 : decode cX12_readRules 112 = .ok (.aload_n 0, 1) := by decide +kernel
theorem dX12_readRules_113 : decode cX12_readRules 113 = .ok (.getfield 106, 3) := by decide +kernel
theorem dX12_readRules_116 : decode cX12_readRules 116 = .ok (.iload_n 2, 1) := by decide +kernel
theorem dX12_readRules_117 : decode cX12_readRules 117 = .ok (.baload, 1) := by decide +kernel
theorem dX12_readRules_118 : decode cX12_readRules 118 = .ok (.ifCond .eq 9, 3) := by decide +kernel
theorem dX12_readRules_121 : decode cX12_readRules 121 = .ok (.aload_n 0, 1) := by decide +kernel
theorem dX12_readRules_122 : decode cX12_readRules 122 = .ok (.iconst 3, 1) := by decide +kernel
theorem dX12_readRules_123 : decode cX12_readRules 123 = .ok (.invokevirtual 60, 3) := by decide +kernel
theorem dX12_readRules_126 : decode cX12_readRules 126 = .ok (.athrow, 1) := by decide +kernel
theorem dX12_readRules_127 : decode cX12_readRules 127 = .ok (.aload_n 0, 1) := by decide +kernel
theorem dX12_readRules_128 : decode cX12_readRules 128 = .ok (.getfield 106, 3) := by decide +kernel
theorem dX12_readRules_131 : decode cX12_readRules 131 = .ok (.iload_n 2, 1) := by decide +kernel
theorem dX12_readRules_132 : decode cX12_readRules 132 = .ok (.iconst 1, 1) := by decide +kernel
theorem dX12_readRules_133 : decode cX12_readRules 133 = .ok (.bastore, 1) := by decide +kernel
theorem dX12_readRules_134 : decode cX12_readRules 134 = .ok (.aload_n 0, 1) := by decide +kernel
theorem dX12_readRules_135 : decode cX12_readRules 135 = .ok (.invokevirtual 64, 3) := by decide +kernel
theorem dX12_readRules_138 : decode cX12_readRules 138 = .ok (.aload_n 0, 1) := by decide +kernel
theorem dX12_readRules_139 : decode cX12_readRules 139 = .ok (.iload_n 2, 1) := by decide +kernel
theorem dX12_readRules_140 : decode cX12_readRules 140 = .ok (.invokevirtual 113, 3) := by decide +kernel
theorem dX12_readRules_143 : decode cX12_readRules 143 = .ok (.aload_n 0, 1) := by decide +kernel
theorem dX12_readRules_144 : decode cX12_readRules 144 = .ok (.getfield 37, 3) := by decide +kernel
theorem dX12_readRules_147 : decode cX12_readRules 147 = .ok (.iconst 3, 1) := by decide +kernel
theorem dX12_readRules_148 : decode cX12_readRules 148 = .ok (.if_icmp .eq 9, 3) := by decide +kernel
theorem dX12_readRules_151 : decode cX12_readRules 151 = .ok (.aload_n 0, 1) := by decide +kernel
theorem dX12_readRules_152 : decode cX12_readRules 152 = .ok (.iconst 1, 1) := by decide +kernel
theorem dX12_readRules_153 : decode cX12_readRules 153 = .ok (.invokevirtual 60, 3) := by decide +kernel
theorem dX12_readRules_156 : decode cX12_readRules 156 = .ok (.athrow, 1) := by decide +kernel
theorem dX12_readRules_157 : decode cX12_readRules 157 = .ok (.aload_n 0, 1) := by decide +kernel
theorem dX12_readRules_158 : decode cX12_readRules 158 = .ok (.invokevirtual 64, 3) := by decide +kernel
theorem dX12_readRules_161 : decode cX12_readRules 161 = .ok (.iinc 1 1, 3) := by decide +kernel
theorem dX12_readRules_164 : decode cX12_readRules 164 = .ok (.goto (-75), 3) := by decide +kernel
theorem dX12_readRules_167 : decode cX12_readRules 167 = .ok (.iload_n 1, 1) := by decide +kernel
theorem dX12_readRules_168 : decode cX12_readRules 168 = .ok (.ireturn, 1) := by decide +kernel
theorem dX12_readLine_0 : decode cX12_readLine 0 = .ok (.iload_n 1, 1) := by decide +kernel
theorem dX12_readLine_1 : decode cX12_readLine 1 = .ok (.tableswitch 152 0 4 #[35, 66, 97, 112, 127], 35) := by decide +kernel
theorem dX12_readLine_36 : decode cX12_readLine 36 = .ok (.iconst 0, 1) := by decide +kernel
theorem dX12_readLine_37 : decode cX12_readLine 37 = .ok (.istore_n 2, 1) := by decide +kernel
theorem dX12_readLine_38 : decode cX12_readLine 38 = .ok (.iload_n 2, 1) := by decide +kernel
theorem dX12_readLine_39 : decode cX12_readLine 39 = .ok (.bipush 11, 2) := by decide +kernel
theorem dX12_readLine_41 : decode cX12_readLine 41 = .ok (.if_icmp .ge 23, 3) := by decide +kernel
theorem dX12_readLine_44 : decode cX12_readLine 44 = .ok (.aload_n 0, 1) := by decide +kernel
theorem dX12_readLine_45 : decode cX12_readLine 45 = .ok (.getfield 84, 3) := by decide +kernel
theorem dX12_readLine_48 : decode cX12_readLine 48 = .ok (.iload_n 2, 1) := by decide +kernel
theorem dX12_readLine_49 : decode cX12_readLine 49 = .ok (.aload_n 0, 1) := by decide +kernel
theorem dX12_readLine_50 : decode cX12_readLine 50 = .ok (.iconst 0, 1) := by decide +kernel
theorem dX12_readLine_51 : decode cX12_readLine 51 = .ok (.sipush 1000, 3) := by decide +kernel
theorem dX12_readLine_54 : decode cX12_readLine 54 = .ok (.invokevirtual 117, 3) := by decide +kernel
theorem dX12_readLine_57 : decode cX12_readLine 57 = .ok (.iastore, 1) := by decide +kernel
theorem dX12_readLine_58 : decode cX12_readLine 58 = .ok (.iinc 2 1, 3) := by decide +kernel
theorem dX12_readLine_61 : decode cX12_readLine 61 = .ok (.goto (-23), 3) := by decide +kernel
theorem dX12_readLine_64 : decode cX12_readLine 64 = .ok (.goto 100, 3) := by decide +kernel
theorem dX12_readLine_67 : decode cX12_readLine 67 = .ok (.iconst 0, 1) := by decide +kernel
theorem dX12_readLine_68 : decode cX12_readLine 68 = .ok (.istore_n 2, 1) := by decide +kernel
theorem dX12_readLine_69 : decode cX12_readLine 69 = .ok (.iload_n 2, 1) := by decide +kernel
theorem dX12_readLine_70 : decode cX12_readLine 70 = .ok (.bipush 11, 2) := by decide +kernel
theorem dX12_readLine_72 : decode cX12_readLine 72 = .ok (.if_icmp .ge 23, 3) := by decide +kernel
theorem dX12_readLine_75 : decode cX12_readLine 75 = .ok (.aload_n 0, 1) := by decide +kernel
theorem dX12_readLine_76 : decode cX12_readLine 76 = .ok (.getfield 88, 3) := by decide +kernel
theorem dX12_readLine_79 : decode cX12_readLine 79 = .ok (.iload_n 2, 1) := by decide +kernel
theorem dX12_readLine_80 : decode cX12_readLine 80 = .ok (.aload_n 0, 1) := by decide +kernel
theorem dX12_readLine_81 : decode cX12_readLine 81 = .ok (.iconst 0, 1) := by decide +kernel
theorem dX12_readLine_82 : decode cX12_readLine 82 = .ok (.sipush 1000, 3) := by decide +kernel
theorem dX12_readLine_85 : decode cX12_readLine 85 = .ok (.invokevirtual 117, 3) := by decide +kernel
theorem dX12_readLine_88 : decode cX12_readLine 88 = .ok (.iastore, 1) := by decide +kernel
theorem dX12_readLine_89 : decode cX12_readLine 89 = .ok (.iinc 2 1, 3) := by decide +kernel
theorem dX12_readLine_92 : decode cX12_readLine 92 = .ok (.goto (-23), 3) := by decide +kernel
theorem dX12_readLine_95 : decode cX12_readLine 95 = .ok (.goto 69, 3) := by decide +kernel
theorem dX12_readLine_98 : decode cX12_readLine 98 = .ok (.aload_n 0, 1) := by decide +kernel
theorem dX12_readLine_99 : decode cX12_readLine 99 = .ok (.aload_n 0, 1) := by decide +kernel
theorem dX12_readLine_100 : decode cX12_readLine 100 = .ok (.ldc 121, 2) := by decide +kernel
theorem dX12_readLine_102 : decode cX12_readLine 102 = .ok (.ldc 123, 2) := by decide +kernel
theorem dX12_readLine_104 : decode cX12_readLine 104 = .ok (.invokevirtual 125, 3) := by decide +kernel
theorem dX12_readLine_107 : decode cX12_readLine 107 = .ok (.putfield 91, 3) := by decide +kernel
theorem dX12_readLine_110 : decode cX12_readLine 110 = .ok (.goto 54, 3) := by decide +kernel
theorem dX12_readLine_113 : decode cX12_readLine 113 = .ok (.aload_n 0, 1) := by decide +kernel
theorem dX12_readLine_114 : decode cX12_readLine 114 = .ok (.aload_n 0, 1) := by decide +kernel
theorem dX12_readLine_115 : decode cX12_readLine 115 = .ok (.ldc 129, 2) := by decide +kernel
theorem dX12_readLine_117 : decode cX12_readLine 117 = .ok (.ldc 131, 2) := by decide +kernel
theorem dX12_readLine_119 : decode cX12_readLine 119 = .ok (.invokevirtual 125, 3) := by decide +kernel
theorem dX12_readLine_122 : decode cX12_readLine 122 = .ok (.putfield 94, 3) := by decide +kernel
theorem dX12_readLine_125 : decode cX12_readLine 125 = .ok (.goto 39, 3) := by decide +kernel
theorem dX12_readLine_128 : decode cX12_readLine 128 = .ok (.aload_n 0, 1) := by decide +kernel
theorem dX12_readLine_129 : decode cX12_readLine 129 = .ok (.aload_n 0, 1) := by decide +kernel
theorem dX12_readLine_130 : decode cX12_readLine 130 = .ok (.iconst 1, 1) := by decide +kernel
theorem dX12_readLine_131 : decode cX12_readLine 131 = .ok (.bipush 30, 2) := by decide +kernel
theorem dX12_readLine_133 : decode cX12_readLine 133 = .ok (.invokevirtual 117, 3) := by decide +kernel
theorem dX12_readLine_136 : decode cX12_readLine 136 = .ok (.putfield 97, 3) := by decide +kernel
theorem dX12_readLine_139 : decode cX12_readLine 139 = .ok (.aload_n 0, 1) := by decide +kernel
theorem dX12_readLine_140 : decode cX12_readLine 140 = .ok (.aload_n 0, 1) := by decide +kernel
theorem dX12_readLine_141 : decode cX12_readLine 141 = .ok (.iconst 1, 1) := by decide +kernel
theorem dX12_readLine_142 : decode cX12_readLine 142 = .ok (.bipush 99, 2) := by decide +kernel
theorem dX12_readLine_144 : decode cX12_readLine 144 = .ok (.invokevirtual 117, 3) := by decide +kernel
theorem dX12_readLine_147 : decode cX12_readLine 147 = .ok (.putfield 100, 3) := by decide +kernel
theorem dX12_readLine_150 : decode cX12_readLine 150 = .ok (.goto 14, 3) := by decide +kernel
theorem dX12_readLine_153 : decode cX12_readLine 153 = .ok (.aload_n 0, 1) := by decide +kernel
theorem dX12_readLine_154 : decode cX12_readLine 154 = .ok (.aload_n 0, 1) := by decide +kernel
theorem dX12_readLine_155 : decode cX12_readLine 155 = .ok (.iconst 1, 1) := by decide +kernel
theorem dX12_readLine_156 : decode cX12_readLine 156 = .ok (.bipush 99, 2) := by decide +kernel
theorem dX12_readLine_158 : decode cX12_readLine 158 = .ok (.invokevirtual 117, 3) := by decide +kernel
theorem dX12_readLine_161 : decode cX12_readLine 161 = .ok (.putfield 103, 3) := by decide +kernel
theorem dX12_readLine_164 : decode cX12_readLine 164 = .ok (.return_, 1) := by decide +kernel
theorem dX12_init_0 : decode cX12_init 0 = .ok (.aload_n 0, 1) := by decide +kernel
theorem dX12_init_1 : decode cX12_init 1 = .ok (.invokespecial 133, 3) := by decide +kernel
theorem dX12_init_4 : decode cX12_init 4 = .ok (.aload_n 0, 1) := by decide +kernel
theorem dX12_init_5 : decode cX12_init 5 = .ok (.iconst (-1), 1) := by decide +kernel
theorem dX12_init_6 : decode cX12_init 6 = .ok (.putfield 138, 3) := by decide +kernel
theorem dX12_init_9 : decode cX12_init 9 = .ok (.aload_n 0, 1) := by decide +kernel
theorem dX12_init_10 : decode cX12_init 10 = .ok (.iconst (-1), 1) := by decide +kernel
theorem dX12_init_11 : decode cX12_init 11 = .ok (.putfield 141, 3) := by decide +kernel
theorem dX12_init_14 : decode cX12_init 14 = .ok (.aload_n 0, 1) := by decide +kernel
theorem dX12_init_15 : decode cX12_init 15 = .ok (.iconst 1, 1) := by decide +kernel
theorem dX12_init_16 : decode cX12_init 16 = .ok (.putfield 144, 3) := by decide +kernel
theorem dX12_init_19 : decode cX12_init 19 = .ok (.aload_n 0, 1) := by decide +kernel
theorem dX12_init_20 : decode cX12_init 20 = .ok (.bipush 11, 2) := by decide +kernel
theorem dX12_init_22 : decode cX12_init 22 = .ok (.newarray .int, 2) := by decide +kernel
theorem dX12_init_24 : decode cX12_init 24 = .ok (.dup, 1) := by decide +kernel
theorem dX12_init_25 : decode cX12_init 25 = .ok (.iconst 0, 1) := by decide +kernel
theorem dX12_init_26 : decode cX12_init 26 = .ok (.bipush 100, 2) := by decide +kernel
theorem dX12_init_28 : decode cX12_init 28 = .ok (.iastore, 1) := by decide +kernel
theorem dX12_init_29 : decode cX12_init 29 = .ok (.dup, 1) := by decide +kernel
theorem dX12_init_30 : decode cX12_init 30 = .ok (.iconst 1, 1) := by decide +kernel
theorem dX12_init_31 : decode cX12_init 31 = .ok (.bipush 81, 2) := by decide +kernel
theorem dX12_init_33 : decode cX12_init 33 = .ok (.iastore, 1) := by decide +kernel
theorem dX12_init_34 : decode cX12_init 34 = .ok (.dup, 1) := by decide +kernel
theorem dX12_init_35 : decode cX12_init 35 = .ok (.iconst 2, 1) := by decide +kernel
theorem dX12_init_36 : decode cX12_init 36 = .ok (.bipush 64, 2) := by decide +kernel
theorem dX12_init_38 : decode cX12_init 38 = .ok (.iastore, 1) := by decide +kernel
theorem dX12_init_39 : decode cX12_init 39 = .ok (.dup, 1) := by decide +kernel
theorem dX12_init_40 : decode cX12_init 40 = .ok (.iconst 3, 1) := by decide +kernel
theorem dX12_init_41 : decode cX12_init 41 = .ok (.bipush 49, 2) := by decide +kernel
theorem dX12_init_43 : decode cX12_init 43 = .ok (.iastore, 1) := by decide +kernel
theorem dX12_init_44 : decode cX12_init 44 = .ok (.dup, 1) := by decide +kernel
theorem dX12_init_45 : decode cX12_init 45 = .ok (.iconst 4, 1) := by decide +kernel
theorem dX12_init_46 : decode cX12_init 46 = .ok (.bipush 36, 2) := by decide +kernel
theorem dX12_init_48 : decode cX12_init 48 = .ok (.iastore, 1) := by decide +kernel
theorem dX12_init_49 : decode cX12_init 49 = .ok (.dup, 1) := by decide +kernel
theorem dX12_init_50 : decode cX12_init 50 = .ok (.iconst 5, 1) := by decide +kernel
theorem dX12_init_51 : decode cX12_init 51 = .ok (.bipush 25, 2) := by decide +kernel
theorem dX12_init_53 : decode cX12_init 53 = .ok (.iastore, 1) := by decide +kernel
theorem dX12_init_54 : decode cX12_init 54 = .ok (.dup, 1) := by decide +kernel
theorem dX12_init_55 : decode cX12_init 55 = .ok (.bipush 6, 2) := by decide +kernel
theorem dX12_init_57 : decode cX12_init 57 = .ok (.bipush 16, 2) := by decide +kernel
theorem dX12_init_59 : decode cX12_init 59 = .ok (.iastore, 1) := by decide +kernel
theorem dX12_init_60 : decode cX12_init 60 = .ok (.dup, 1) := by decide +kernel
theorem dX12_init_61 : decode cX12_init 61 = .ok (.bipush 7, 2) := by decide +kernel
theorem dX12_init_63 : decode cX12_init 63 = .ok (.bipush 9, 2) := by decide +kernel
theorem dX12_init_65 : decode cX12_init 65 = .ok (.iastore, 1) := by decide +kernel
theorem dX12_init_66 : decode cX12_init 66 = .ok (.dup, 1) := by decide +kernel
theorem dX12_init_67 : decode cX12_init 67 = .ok (.bipush 8, 2) := by decide +kernel
theorem dX12_init_69 : decode cX12_init 69 = .ok (.iconst 4, 1) := by decide +kernel
theorem dX12_init_70 : decode cX12_init 70 = .ok (.iastore, 1) := by decide +kernel
theorem dX12_init_71 : decode cX12_init 71 = .ok (.dup, 1) := by decide +kernel
theorem dX12_init_72 : decode cX12_init 72 = .ok (.bipush 9, 2) := by decide +kernel
theorem dX12_init_74 : decode cX12_init 74 = .ok (.iconst 1, 1) := by decide +kernel
theorem dX12_init_75 : decode cX12_init 75 = .ok (.iastore, 1) := by decide +kernel
theorem dX12_init_76 : decode cX12_init 76 = .ok (.dup, 1) := by decide +kernel
theorem dX12_init_77 : decode cX12_init 77 = .ok (.bipush 10, 2) := by decide +kernel
theorem dX12_init_79 : decode cX12_init 79 = .ok (.iconst 0, 1) := by decide +kernel
theorem dX12_init_80 : decode cX12_init 80 = .ok (.iastore, 1) := by decide +kernel
theorem dX12_init_81 : decode cX12_init 81 = .ok (.putfield 146, 3) := by decide +kernel
theorem dX12_init_84 : decode cX12_init 84 = .ok (.aload_n 0, 1) := by decide +kernel
theorem dX12_init_85 : decode cX12_init 85 = .ok (.bipush 11, 2) := by decide +kernel
theorem dX12_init_87 : decode cX12_init 87 = .ok (.newarray .int, 2) := by decide +kernel
theorem dX12_init_89 : decode cX12_init 89 = .ok (.dup, 1) := by decide +kernel
theorem dX12_init_90 : decode cX12_init 90 = .ok (.iconst 0, 1) := by decide +kernel
theorem dX12_init_91 : decode cX12_init 91 = .ok (.iconst 0, 1) := by decide +kernel
theorem dX12_init_92 : decode cX12_init 92 = .ok (.iastore, 1) := by decide +kernel
theorem dX12_init_93 : decode cX12_init 93 = .ok (.dup, 1) := by decide +kernel
theorem dX12_init_94 : decode cX12_init 94 = .ok (.iconst 1, 1) := by decide +kernel
theorem dX12_init_95 : decode cX12_init 95 = .ok (.iconst 1, 1) := by decide +kernel
theorem dX12_init_96 : decode cX12_init 96 = .ok (.iastore, 1) := by decide +kernel
theorem dX12_init_97 : decode cX12_init 97 = .ok (.dup, 1) := by decide +kernel
theorem dX12_init_98 : decode cX12_init 98 = .ok (.iconst 2, 1) := by decide +kernel
theorem dX12_init_99 : decode cX12_init 99 = .ok (.iconst 4, 1) := by decide +kernel
theorem dX12_init_100 : decode cX12_init 100 = .ok (.iastore, 1) := by decide +kernel
theorem dX12_init_101 : decode cX12_init 101 = .ok (.dup, 1) := by decide +kernel
theorem dX12_init_102 : decode cX12_init 102 = .ok (.iconst 3, 1) := by decide +kernel
theorem dX12_init_103 : decode cX12_init 103 = .ok (.bipush 9, 2) := by decide +kernel
theorem dX12_init_105 : decode cX12_init 105 = .ok (.iastore, 1) := by decide +kernel
theorem dX12_init_106 : decode cX12_init 106 = .ok (.dup, 1) := by decide +kernel
theorem dX12_init_107 : decode cX12_init 107 = .ok (.iconst 4, 1) := by decide +kernel
theorem dX12_init_108 : decode cX12_init 108 = .ok (.bipush 16, 2) := by decide +kernel
theorem dX12_init_110 : decode cX12_init 110 = .ok (.iastore, 1) := by decide +kernel
theorem dX12_init_111 : decode cX12_init 111 = .ok (.dup, 1) := by decide +kernel
theorem dX12_init_112 : decode cX12_init 112 = .ok (.iconst 5, 1) := by decide +kernel
theorem dX12_init_113 : decode cX12_init 113 = .ok (.bipush 25, 2) := by decide +kernel
theorem dX12_init_115 : decode cX12_init 115 = .ok (.iastore, 1) := by decide +kernel
theorem dX12_init_116 : decode cX12_init 116 = .ok (.dup, 1) := by decide +kernel
theorem dX12_init_117 : decode cX12_init 117 = .ok (.bipush 6, 2) := by decide +kernel
theorem dX12_init_119 : decode cX12_init 119 = .ok (.bipush 36, 2) := by decide +kernel
theorem dX12_init_121 : decode cX12_init 121 = .ok (.iastore, 1) := by decide +kernel
theorem dX12_init_122 : decode cX12_init 122 = .ok (.dup, 1) := by decide +kernel
theorem dX12_init_123 : decode cX12_init 123 = .ok (.bipush 7, 2) := by decide +kernel
theorem dX12_init_125 : decode cX12_init 125 = .ok (.bipush 49, 2) := by decide +kernel
theorem dX12_init_127 : decode cX12_init 127 = .ok (.iastore, 1) := by decide +kernel
theorem dX12_init_128 : decode cX12_init 128 = .ok (.dup, 1) := by decide +kernel
theorem dX12_init_129 : decode cX12_init 129 = .ok (.bipush 8, 2) := by decide +kernel
theorem dX12_init_131 : decode cX12_init 131 = .ok (.bipush 64, 2) := by decide +kernel
theorem dX12_init_133 : decode cX12_init 133 = .ok (.iastore, 1) := by decide +kernel
theorem dX12_init_134 : decode cX12_init 134 = .ok (.dup, 1) := by decide +kernel
theorem dX12_init_135 : decode cX12_init 135 = .ok (.bipush 9, 2) := by decide +kernel
theorem dX12_init_137 : decode cX12_init 137 = .ok (.bipush 81, 2) := by decide +kernel
theorem dX12_init_139 : decode cX12_init 139 = .ok (.iastore, 1) := by decide +kernel
theorem dX12_init_140 : decode cX12_init 140 = .ok (.dup, 1) := by decide +kernel
theorem dX12_init_141 : decode cX12_init 141 = .ok (.bipush 10, 2) := by decide +kernel
theorem dX12_init_143 : decode cX12_init 143 = .ok (.bipush 100, 2) := by decide +kernel
theorem dX12_init_145 : decode cX12_init 145 = .ok (.iastore, 1) := by decide +kernel
theorem dX12_init_146 : decode cX12_init 146 = .ok (.putfield 149, 3) := by decide +kernel
theorem dX12_init_149 : decode cX12_init 149 = .ok (.aload_n 0, 1) := by decide +kernel
theorem dX12_init_150 : decode cX12_init 150 = .ok (.bipush 11, 2) := by decide +kernel
theorem dX12_init_152 : decode cX12_init 152 = .ok (.newarray .int, 2) := by decide +kernel
theorem dX12_init_154 : decode cX12_init 154 = .ok (.putfield 84, 3) := by decide +kernel
theorem dX12_init_157 : decode cX12_init 157 = .ok (.aload_n 0, 1) := by decide +kernel
theorem dX12_init_158 : decode cX12_init 158 = .ok (.bipush 11, 2) := by decide +kernel
theorem dX12_init_160 : decode cX12_init 160 = .ok (.newarray .int, 2) := by decide +kernel
theorem dX12_init_162 : decode cX12_init 162 = .ok (.putfield 88, 3) := by decide +kernel
theorem dX12_init_165 : decode cX12_init 165 = .ok (.aload_n 0, 1) := by decide +kernel
theorem dX12_init_166 : decode cX12_init 166 = .ok (.new 152, 3) := by decide +kernel
theorem dX12_init_169 : decode cX12_init 169 = .ok (.dup, 1) := by decide +kernel
theorem dX12_init_170 : decode cX12_init 170 = .ok (.invokespecial 154, 3) := by decide +kernel
theorem dX12_init_173 : decode cX12_init 173 = .ok (.putfield 19, 3) := by decide +kernel
theorem dX12_init_176 : decode cX12_init 176 = .ok (.aload_n 0, 1) := by decide +kernel
theorem dX12_init_177 : decode cX12_init 177 = .ok (.sipush 500, 3) := by decide +kernel
theorem dX12_init_180 : decode cX12_init 180 = .ok (.newarray .byte, 2) := by decide +kernel
theorem dX12_init_182 : decode cX12_init 182 = .ok (.putfield 26, 3) := by decide +kernel
theorem dX12_init_185 : decode cX12_init 185 = .ok (.aload_n 0, 1) := by decide +kernel
theorem dX12_init_186 : decode cX12_init 186 = .ok (.iconst (-1), 1) := by decide +kernel
theorem dX12_init_187 : decode cX12_init 187 = .ok (.putfield 16, 3) := by decide +kernel
theorem dX12_init_190 : decode cX12_init 190 = .ok (.aload_n 0, 1) := by decide +kernel
theorem dX12_init_191 : decode cX12_init 191 = .ok (.bipush 6, 2) := by decide +kernel
theorem dX12_init_193 : decode cX12_init 193 = .ok (.newarray .boolean, 2) := by decide +kernel
theorem dX12_init_195 : decode cX12_init 195 = .ok (.putfield 106, 3) := by decide +kernel
theorem dX12_init_198 : decode cX12_init 198 = .ok (.aload_n 0, 1) := by decide +kernel
theorem dX12_init_199 : decode cX12_init 199 = .ok (.bipush 20, 2) := by decide +kernel
theorem dX12_init_201 : decode cX12_init 201 = .ok (.newarray .int, 2) := by decide +kernel
theorem dX12_init_203 : decode cX12_init 203 = .ok (.putfield 155, 3) := by decide +kernel
theorem dX12_init_206 : decode cX12_init 206 = .ok (.aload_n 0, 1) := by decide +kernel
theorem dX12_init_207 : decode cX12_init 207 = .ok (.bipush 20, 2) := by decide +kernel
theorem dX12_init_209 : decode cX12_init 209 = .ok (.newarray .int, 2) := by decide +kernel
theorem dX12_init_211 : decode cX12_init 211 = .ok (.putfield 158, 3) := by decide +kernel
theorem dX12_init_214 : decode cX12_init 214 = .ok (.aload_n 0, 1) := by decide +kernel
theorem dX12_init_215 : decode cX12_init 215 = .ok (.bipush 20, 2) := by decide +kernel
theorem dX12_init_217 : decode cX12_init 217 = .ok (.newarray .int, 2) := by decide +kernel
theorem dX12_init_219 : decode cX12_init 219 = .ok (.putfield 161, 3) := by decide +kernel
theorem dX12_init_222 : decode cX12_init 222 = .ok (.aload_n 0, 1) := by decide +kernel
theorem dX12_init_223 : decode cX12_init 223 = .ok (.bipush 20, 2) := by decide +kernel
theorem dX12_init_225 : decode cX12_init 225 = .ok (.newarray .int, 2) := by decide +kernel
theorem dX12_init_227 : decode cX12_init 227 = .ok (.putfield 164, 3) := by decide +kernel
theorem dX12_init_230 : decode cX12_init 230 = .ok (.aload_n 0, 1) := by decide +kernel
theorem dX12_init_231 : decode cX12_init 231 = .ok (.sipush 300, 3) := by decide +kernel
theorem dX12_init_234 : decode cX12_init 234 = .ok (.newarray .int, 2) := by decide +kernel
theorem dX12_init_236 : decode cX12_init 236 = .ok (.putfield 167, 3) := by decide +kernel
theorem dX12_init_239 : decode cX12_init 239 = .ok (.aload_n 0, 1) := by decide +kernel
theorem dX12_init_240 : decode cX12_init 240 = .ok (.sipush 300, 3) := by decide +kernel
theorem dX12_init_243 : decode cX12_init 243 = .ok (.newarray .int, 2) := by decide +kernel
theorem dX12_init_245 : decode cX12_init 245 = .ok (.putfield 170, 3) := by decide +kernel
theorem dX12_init_248 : decode cX12_init 248 = .ok (.aload_n 0, 1) := by decide +kernel
theorem dX12_init_249 : decode cX12_init 249 = .ok (.sipush 300, 3) := by decide +kernel
theorem dX12_init_252 : decode cX12_init 252 = .ok (.newarray .int, 2) := by decide +kernel
theorem dX12_init_254 : decode cX12_init 254 = .ok (.putfield 173, 3) := by decide +kernel
theorem dX12_init_257 : decode cX12_init 257 = .ok (.aload_n 0, 1) := by decide +kernel
theorem dX12_init_258 : decode cX12_init 258 = .ok (.sipush 300, 3) := by decide +kernel
theorem dX12_init_261 : decode cX12_init 261 = .ok (.newarray .int, 2) := by decide +kernel
theorem dX12_init_263 : decode cX12_init 263 = .ok (.putfield 176, 3) := by decide +kernel
theorem dX12_init_266 : decode cX12_init 266 = .ok (.aload_n 0, 1) := by decide +kernel
theorem dX12_init_267 : decode cX12_init 267 = .ok (.bipush 30, 2) := by decide +kernel
theorem dX12_init_269 : decode cX12_init 269 = .ok (.newarray .int, 2) := by decide +kernel
theorem dX12_init_271 : decode cX12_init 271 = .ok (.putfield 179, 3) := by decide +kernel
theorem dX12_init_274 : decode cX12_init 274 = .ok (.aload_n 0, 1) := by decide +kernel
theorem dX12_init_275 : decode cX12_init 275 = .ok (.bipush 30, 2) := by decide +kernel
theorem dX12_init_277 : decode cX12_init 277 = .ok (.newarray .int, 2) := by decide +kernel
theorem dX12_init_279 : decode cX12_init 279 = .ok (.putfield 182, 3) := by decide +kernel
theorem dX12_init_282 : decode cX12_init 282 = .ok (.aload_n 0, 1) := by decide +kernel
theorem dX12_init_283 : decode cX12_init 283 = .ok (.bipush 30, 2) := by decide +kernel
theorem dX12_init_285 : decode cX12_init 285 = .ok (.newarray .int, 2) := by decide +kernel
theorem dX12_init_287 : decode cX12_init 287 = .ok (.putfield 185, 3) := by decide +kernel
theorem dX12_init_290 : decode cX12_init 290 = .ok (.aload_n 0, 1) := by decide +kernel
theorem dX12_init_291 : decode cX12_init 291 = .ok (.sipush 24000, 3) := by decide +kernel
theorem dX12_init_294 : decode cX12_init 294 = .ok (.newarray .int, 2) := by decide +kernel
theorem dX12_init_296 : decode cX12_init 296 = .ok (.putfield 188, 3) := by decide +kernel
theorem dX12_init_299 : decode cX12_init 299 = .ok (.aload_n 0, 1) := by decide +kernel
theorem dX12_init_300 : decode cX12_init 300 = .ok (.sipush 400, 3) := by decide +kernel
theorem dX12_init_303 : decode cX12_init 303 = .ok (.newarray .int, 2) := by decide +kernel
theorem dX12_init_305 : decode cX12_init 305 = .ok (.putfield 191, 3) := by decide +kernel
theorem dX12_init_308 : decode cX12_init 308 = .ok (.aload_n 0, 1) := by decide +kernel
theorem dX12_init_309 : decode cX12_init 309 = .ok (.sipush 400, 3) := by decide +kernel
theorem dX12_init_312 : decode cX12_init 312 = .ok (.newarray .int, 2) := by decide +kernel
theorem dX12_init_314 : decode cX12_init 314 = .ok (.putfield 194, 3) := by decide +kernel
theorem dX12_init_317 : decode cX12_init 317 = .ok (.aload_n 0, 1) := by decide +kernel
theorem dX12_init_318 : decode cX12_init 318 = .ok (.sipush 400, 3) := by decide +kernel
theorem dX12_init_321 : decode cX12_init 321 = .ok (.newarray .int, 2) := by decide +kernel
theorem dX12_init_323 : decode cX12_init 323 = .ok (.putfield 197, 3) := by decide +kernel
theorem dX12_init_326 : decode cX12_init 326 = .ok (.aload_n 0, 1) := by decide +kernel
theorem dX12_init_327 : decode cX12_init 327 = .ok (.sipush 400, 3) := by decide +kernel
theorem dX12_init_330 : decode cX12_init 330 = .ok (.newarray .boolean, 2) := by decide +kernel
theorem dX12_init_332 : decode cX12_init 332 = .ok (.putfield 200, 3) := by decide +kernel
theorem dX12_init_335 : decode cX12_init 335 = .ok (.aload_n 0, 1) := by decide +kernel
theorem dX12_init_336 : decode cX12_init 336 = .ok (.sipush 6000, 3) := by decide +kernel
theorem dX12_init_339 : decode cX12_init 339 = .ok (.newarray .boolean, 2) := by decide +kernel
theorem dX12_init_341 : decode cX12_init 341 = .ok (.putfield 203, 3) := by decide +kernel
theorem dX12_init_344 : decode cX12_init 344 = .ok (.aload_n 0, 1) := by decide +kernel
theorem dX12_init_345 : decode cX12_init 345 = .ok (.bipush 20, 2) := by decide +kernel
theorem dX12_init_347 : decode cX12_init 347 = .ok (.newarray .int, 2) := by decide +kernel
theorem dX12_init_349 : decode cX12_init 349 = .ok (.putfield 206, 3) := by decide +kernel
theorem dX12_init_352 : decode cX12_init 352 = .ok (.aload_n 0, 1) := by decide +kernel
theorem dX12_init_353 : decode cX12_init 353 = .ok (.bipush 20, 2) := by decide +kernel
theorem dX12_init_355 : decode cX12_init 355 = .ok (.newarray .int, 2) := by decide +kernel
theorem dX12_init_357 : decode cX12_init 357 = .ok (.putfield 209, 3) := by decide +kernel
theorem dX12_init_360 : decode cX12_init 360 = .ok (.aload_n 0, 1) := by decide +kernel
theorem dX12_init_361 : decode cX12_init 361 = .ok (.bipush 11, 2) := by decide +kernel
theorem dX12_init_363 : decode cX12_init 363 = .ok (.newarray .int, 2) := by decide +kernel
theorem dX12_init_365 : decode cX12_init 365 = .ok (.putfield 212, 3) := by decide +kernel
theorem dX12_init_368 : decode cX12_init 368 = .ok (.aload_n 0, 1) := by decide +kernel
theorem dX12_init_369 : decode cX12_init 369 = .ok (.bipush 21, 2) := by decide +kernel
theorem dX12_init_371 : decode cX12_init 371 = .ok (.newarray .long, 2) := by decide +kernel
theorem dX12_init_373 : decode cX12_init 373 = .ok (.putfield 215, 3) := by decide +kernel
theorem dX12_init_376 : decode cX12_init 376 = .ok (.aload_n 0, 1) := by decide +kernel
theorem dX12_init_377 : decode cX12_init 377 = .ok (.bipush 20, 2) := by decide +kernel
theorem dX12_init_379 : decode cX12_init 379 = .ok (.newarray .int, 2) := by decide +kernel
theorem dX12_init_381 : decode cX12_init 381 = .ok (.dup, 1) := by decide +kernel
theorem dX12_init_382 : decode cX12_init 382 = .ok (.iconst 0, 1) := by decide +kernel
theorem dX12_init_383 : decode cX12_init 383 = .ok (.iconst (-1), 1) := by decide +kernel
theorem dX12_init_384 : decode cX12_init 384 = .ok (.iastore, 1) := by decide +kernel
theorem dX12_init_385 : decode cX12_init 385 = .ok (.dup, 1) := by decide +kernel
theorem dX12_init_386 : decode cX12_init 386 = .ok (.iconst 1, 1) := by decide +kernel
theorem dX12_init_387 : decode cX12_init 387 = .ok (.iconst (-1), 1) := by decide +kernel
theorem dX12_init_388 : decode cX12_init 388 = .ok (.iastore, 1) := by decide +kernel
theorem dX12_init_389 : decode cX12_init 389 = .ok (.dup, 1) := by decide +kernel
theorem dX12_init_390 : decode cX12_init 390 = .ok (.iconst 2, 1) := by decide +kernel
theorem dX12_init_391 : decode cX12_init 391 = .ok (.iconst (-1), 1) := by decide +kernel
theorem dX12_init_392 : decode cX12_init 392 = .ok (.iastore, 1) := by decide +kernel
theorem dX12_init_393 : decode cX12_init 393 = .ok (.dup, 1) := by decide +kernel
theorem dX12_init_394 : decode cX12_init 394 = .ok (.iconst 3, 1) := by decide +kernel
theorem dX12_init_395 : decode cX12_init 395 = .ok (.iconst (-1), 1) := by decide +kernel
theorem dX12_init_396 : decode cX12_init 396 = .ok (.iastore, 1) := by decide +kernel
theorem dX12_init_397 : decode cX12_init 397 = .ok (.dup, 1) := by decide +kernel
theorem dX12_init_398 : decode cX12_init 398 = .ok (.iconst 4, 1) := by decide +kernel
theorem dX12_init_399 : decode cX12_init 399 = .ok (.iconst (-1), 1) := by decide +kernel
theorem dX12_init_400 : decode cX12_init 400 = .ok (.iastore, 1) := by decide +kernel
theorem dX12_init_401 : decode cX12_init 401 = .ok (.dup, 1) := by decide +kernel
theorem dX12_init_402 : decode cX12_init 402 = .ok (.iconst 5, 1) := by decide +kernel
theorem dX12_init_403 : decode cX12_init 403 = .ok (.iconst (-1), 1) := by decide +kernel
theorem dX12_init_404 : decode cX12_init 404 = .ok (.iastore, 1) := by decide +kernel
theorem dX12_init_405 : decode cX12_init 405 = .ok (.dup, 1) := by decide +kernel
theorem dX12_init_406 : decode cX12_init 406 = .ok (.bipush 6, 2) := by decide +kernel
theorem dX12_init_408 : decode cX12_init 408 = .ok (.iconst (-1), 1) := by decide +kernel
theorem dX12_init_409 : decode cX12_init 409 = .ok (.iastore, 1) := by decide +kernel
theorem dX12_init_410 : decode cX12_init 410 = .ok (.dup, 1) := by decide +kernel
theorem dX12_init_411 : decode cX12_init 411 = .ok (.bipush 7, 2) := by decide +kernel
theorem dX12_init_413 : decode cX12_init 413 = .ok (.iconst (-1), 1) := by decide +kernel
theorem dX12_init_414 : decode cX12_init 414 = .ok (.iastore, 1) := by decide +kernel
theorem dX12_init_415 : decode cX12_init 415 = .ok (.dup, 1) := by decide +kernel
theorem dX12_init_416 : decode cX12_init 416 = .ok (.bipush 8, 2) := by decide +kernel
theorem dX12_init_418 : decode cX12_init 418 = .ok (.iconst (-1), 1) := by decide +kernel
theorem dX12_init_419 : decode cX12_init 419 = .ok (.iastore, 1) := by decide +kernel
theorem dX12_init_420 : decode cX12_init 420 = .ok (.dup, 1) := by decide +kernel
theorem dX12_init_421 : decode cX12_init 421 = .ok (.bipush 9, 2) := by decide +kernel
theorem dX12_init_423 : decode cX12_init 423 = .ok (.iconst (-1), 1) := by decide +kernel
theorem dX12_init_424 : decode cX12_init 424 = .ok (.iastore, 1) := by decide +kernel
theorem dX12_init_425 : decode cX12_init 425 = .ok (.dup, 1) := by decide +kernel
theorem dX12_init_426 : decode cX12_init 426 = .ok (.bipush 10, 2) := by decide +kernel
theorem dX12_init_428 : decode cX12_init 428 = .ok (.iconst (-1), 1) := by decide +kernel
theorem dX12_init_429 : decode cX12_init 429 = .ok (.iastore, 1) := by decide +kernel
theorem dX12_init_430 : decode cX12_init 430 = .ok (.dup, 1) := by decide +kernel
theorem dX12_init_431 : decode cX12_init 431 = .ok (.bipush 11, 2) := by decide +kernel
theorem dX12_init_433 : decode cX12_init 433 = .ok (.iconst (-1), 1) := by decide +kernel
theorem dX12_init_434 : decode cX12_init 434 = .ok (.iastore, 1) := by decide +kernel
theorem dX12_init_435 : decode cX12_init 435 = .ok (.dup, 1) := by decide +kernel
theorem dX12_init_436 : decode cX12_init 436 = .ok (.bipush 12, 2) := by decide +kernel
theorem dX12_init_438 : decode cX12_init 438 = .ok (.iconst (-1), 1) := by decide +kernel
theorem dX12_init_439 : decode cX12_init 439 = .ok (.iastore, 1) := by decide +kernel
theorem dX12_init_440 : decode cX12_init 440 = .ok (.dup, 1) := by decide +kernel
theorem dX12_init_441 : decode cX12_init 441 = .ok (.bipush 13, 2) := by decide +kernel
theorem dX12_init_443 : decode cX12_init 443 = .ok (.iconst (-1), 1) := by decide +kernel
theorem dX12_init_444 : decode cX12_init 444 = .ok (.iastore, 1) := by decide +kernel
theorem dX12_init_445 : decode cX12_init 445 = .ok (.dup, 1) := by decide +kernel
theorem dX12_init_446 : decode cX12_init 446 = .ok (.bipush 14, 2) := by decide +kernel
theorem dX12_init_448 : decode cX12_init 448 = .ok (.iconst (-1), 1) := by decide +kernel
theorem dX12_init_449 : decode cX12_init 449 = .ok (.iastore, 1) := by decide +kernel
theorem dX12_init_450 : decode cX12_init 450 = .ok (.dup, 1) := by decide +kernel
theorem dX12_init_451 : decode cX12_init 451 = .ok (.bipush 15, 2) := by decide +kernel
theorem dX12_init_453 : decode cX12_init 453 = .ok (.iconst (-1), 1) := by decide +kernel
theorem dX12_init_454 : decode cX12_init 454 = .ok (.iastore, 1) := by decide +kernel
theorem dX12_init_455 : decode cX12_init 455 = .ok (.dup, 1) := by decide +kernel
theorem dX12_init_456 : decode cX12_init 456 = .ok (.bipush 16, 2) := by decide +kernel
theorem dX12_init_458 : decode cX12_init 458 = .ok (.iconst (-1), 1) := by decide +kernel
theorem dX12_init_459 : decode cX12_init 459 = .ok (.iastore, 1) := by decide +kernel
theorem dX12_init_460 : decode cX12_init 460 = .ok (.dup, 1) := by decide +kernel
theorem dX12_init_461 : decode cX12_init 461 = .ok (.bipush 17, 2) := by decide +kernel
theorem dX12_init_463 : decode cX12_init 463 = .ok (.iconst (-1), 1) := by decide +kernel
theorem dX12_init_464 : decode cX12_init 464 = .ok (.iastore, 1) := by decide +kernel
theorem dX12_init_465 : decode cX12_init 465 = .ok (.dup, 1) := by decide +kernel
theorem dX12_init_466 : decode cX12_init 466 = .ok (.bipush 18, 2) := by decide +kernel
theorem dX12_init_468 : decode cX12_init 468 = .ok (.iconst (-1), 1) := by decide +kernel
theorem dX12_init_469 : decode cX12_init 469 = .ok (.iastore, 1) := by decide +kernel
theorem dX12_init_470 : decode cX12_init 470 = .ok (.dup, 1) := by decide +kernel
theorem dX12_init_471 : decode cX12_init 471 = .ok (.bipush 19, 2) := by decide +kernel
theorem dX12_init_473 : decode cX12_init 473 = .ok (.iconst (-1), 1) := by decide +kernel
theorem dX12_init_474 : decode cX12_init 474 = .ok (.iastore, 1) := by decide +kernel
theorem dX12_init_475 : decode cX12_init 475 = .ok (.putfield 219, 3) := by decide +kernel
theorem dX12_init_478 : decode cX12_init 478 = .ok (.aload_n 0, 1) := by decide +kernel
theorem dX12_init_479 : decode cX12_init 479 = .ok (.bipush 20, 2) := by decide +kernel
theorem dX12_init_481 : decode cX12_init 481 = .ok (.newarray .int, 2) := by decide +kernel
theorem dX12_init_483 : decode cX12_init 483 = .ok (.putfield 222, 3) := by decide +kernel
theorem dX12_init_486 : decode cX12_init 486 = .ok (.aload_n 0, 1) := by decide +kernel
theorem dX12_init_487 : decode cX12_init 487 = .ok (.bipush 20, 2) := by decide +kernel
theorem dX12_init_489 : decode cX12_init 489 = .ok (.newarray .int, 2) := by decide +kernel
theorem dX12_init_491 : decode cX12_init 491 = .ok (.putfield 225, 3) := by decide +kernel
theorem dX12_init_494 : decode cX12_init 494 = .ok (.aload_n 0, 1) := by decide +kernel
theorem dX12_init_495 : decode cX12_init 495 = .ok (.bipush 20, 2) := by decide +kernel
theorem dX12_init_497 : decode cX12_init 497 = .ok (.newarray .int, 2) := by decide +kernel
theorem dX12_init_499 : decode cX12_init 499 = .ok (.putfield 228, 3) := by decide +kernel
theorem dX12_init_502 : decode cX12_init 502 = .ok (.return_, 1) := by decide +kernel
theorem dX12_feed_0 : decode cX12_feed 0 = .ok (.aload_n 0, 1) := by decide +kernel
theorem dX12_feed_1 : decode cX12_feed 1 = .ok (.getfield 231, 3) := by decide +kernel
theorem dX12_feed_4 : decode cX12_feed 4 = .ok (.bipush 20, 2) := by decide +kernel
theorem dX12_feed_6 : decode cX12_feed 6 = .ok (.iadd, 1) := by decide +kernel
theorem dX12_feed_7 : decode cX12_feed 7 = .ok (.sipush 500, 3) := by decide +kernel
theorem dX12_feed_10 : decode cX12_feed 10 = .ok (.if_icmp .le 6, 3) := by decide +kernel
theorem dX12_feed_13 : decode cX12_feed 13 = .ok (.bipush (-3), 2) := by decide +kernel
theorem dX12_feed_15 : decode cX12_feed 15 = .ok (.ireturn, 1) := by decide +kernel
theorem dX12_feed_16 : decode cX12_feed 16 = .ok (.aload_n 0, 1) := by decide +kernel
theorem dX12_feed_17 : decode cX12_feed 17 = .ok (.iload_n 1, 1) := by decide +kernel
theorem dX12_feed_18 : decode cX12_feed 18 = .ok (.invokevirtual 234, 3) := by decide +kernel
theorem dX12_feed_21 : decode cX12_feed 21 = .ok (.aload_n 0, 1) := by decide +kernel
theorem dX12_feed_22 : decode cX12_feed 22 = .ok (.iload_n 2, 1) := by decide +kernel
theorem dX12_feed_23 : decode cX12_feed 23 = .ok (.invokevirtual 234, 3) := by decide +kernel
theorem dX12_feed_26 : decode cX12_feed 26 = .ok (.aload_n 0, 1) := by decide +kernel
theorem dX12_feed_27 : decode cX12_feed 27 = .ok (.iload_n 3, 1) := by decide +kernel
theorem dX12_feed_28 : decode cX12_feed 28 = .ok (.invokevirtual 234, 3) := by decide +kernel
theorem dX12_feed_31 : decode cX12_feed 31 = .ok (.aload_n 0, 1) := by decide +kernel
theorem dX12_feed_32 : decode cX12_feed 32 = .ok (.iload 4, 2) := by decide +kernel
theorem dX12_feed_34 : decode cX12_feed 34 = .ok (.invokevirtual 234, 3) := by decide +kernel
theorem dX12_feed_37 : decode cX12_feed 37 = .ok (.aload_n 0, 1) := by decide +kernel
theorem dX12_feed_38 : decode cX12_feed 38 = .ok (.iload 5, 2) := by decide +kernel
theorem dX12_feed_40 : decode cX12_feed 40 = .ok (.invokevirtual 234, 3) := by decide +kernel
theorem dX12_feed_43 : decode cX12_feed 43 = .ok (.aload_n 0, 1) := by decide +kernel
theorem dX12_feed_44 : decode cX12_feed 44 = .ok (.getfield 231, 3) := by decide +kernel
theorem dX12_feed_47 : decode cX12_feed 47 = .ok (.ireturn, 1) := by decide +kernel
theorem dX12_lay_0 : decode cX12_lay 0 = .ok (.bipush 24, 2) := by decide +kernel
theorem dX12_lay_2 : decode cX12_lay 2 = .ok (.istore_n 2, 1) := by decide +kernel
theorem dX12_lay_3 : decode cX12_lay 3 = .ok (.iload_n 2, 1) := by decide +kernel
theorem dX12_lay_4 : decode cX12_lay 4 = .ok (.ifCond .lt 32, 3) := by decide +kernel
theorem dX12_lay_7 : decode cX12_lay 7 = .ok (.aload_n 0, 1) := by decide +kernel
theorem dX12_lay_8 : decode cX12_lay 8 = .ok (.getfield 26, 3) := by decide +kernel
theorem dX12_lay_11 : decode cX12_lay 11 = .ok (.aload_n 0, 1) := by decide +kernel
theorem dX12_lay_12 : decode cX12_lay 12 = .ok (.getfield 231, 3) := by decide +kernel
theorem dX12_lay_15 : decode cX12_lay 15 = .ok (.iload_n 1, 1) := by decide +kernel
theorem dX12_lay_16 : decode cX12_lay 16 = .ok (.iload_n 2, 1) := by decide +kernel
theorem dX12_lay_17 : decode cX12_lay 17 = .ok (.ishr, 1) := by decide +kernel
theorem dX12_lay_18 : decode cX12_lay 18 = .ok (.i2b, 1) := by decide +kernel
theorem dX12_lay_19 : decode cX12_lay 19 = .ok (.bastore, 1) := by decide +kernel
theorem dX12_lay_20 : decode cX12_lay 20 = .ok (.aload_n 0, 1) := by decide +kernel
theorem dX12_lay_21 : decode cX12_lay 21 = .ok (.dup, 1) := by decide +kernel
theorem dX12_lay_22 : decode cX12_lay 22 = .ok (.getfield 231, 3) := by decide +kernel
theorem dX12_lay_25 : decode cX12_lay 25 = .ok (.iconst 1, 1) := by decide +kernel
theorem dX12_lay_26 : decode cX12_lay 26 = .ok (.iadd, 1) := by decide +kernel
theorem dX12_lay_27 : decode cX12_lay 27 = .ok (.putfield 231, 3) := by decide +kernel
theorem dX12_lay_30 : decode cX12_lay 30 = .ok (.iinc 2 (-8), 3) := by decide +kernel
theorem dX12_lay_33 : decode cX12_lay 33 = .ok (.goto (-30), 3) := by decide +kernel
theorem dX12_lay_36 : decode cX12_lay 36 = .ok (.return_, 1) := by decide +kernel
theorem dX12_end_0 : decode cX12_end 0 = .ok (.iload_n 1, 1) := by decide +kernel
theorem dX12_end_1 : decode cX12_end 1 = .ok (.i2l, 1) := by decide +kernel
theorem dX12_end_2 : decode cX12_end 2 = .ok (.lconst 0, 1) := by decide +kernel
