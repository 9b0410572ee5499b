theorem dX0_init_0 : decode cX0_init 0 = .ok (.aload_n 0, 1) := by decide +kernel
theorem dX0_init_1 : decode cX0_init 1 = .ok (.invokespecial 3, 3) := by decide +kernel
theorem dX0_init_4 : decode cX0_init 4 = .ok (.aload_n 0, 1) := by decide +kernel
theorem dX0_init_5 : decode cX0_init 5 = .ok (.bipush 20, 2) := by decide +kernel
theorem dX0_init_7 : decode cX0_init 7 = .ok (.anewarray 9, 3) := by decide +kernel
theorem dX0_init_10 : decode cX0_init 10 = .ok (.putfield 11, 3) := by decide +kernel
theorem dX0_init_13 : decode cX0_init 13 = .ok (.aload_n 0, 1) := by decide +kernel
theorem dX0_init_14 : decode cX0_init 14 = .ok (.sipush 400, 3) := by decide +kernel
theorem dX0_init_17 : decode cX0_init 17 = .ok (.anewarray 17, 3) := by decide +kernel
theorem dX0_init_20 : decode cX0_init 20 = .ok (.putfield 19, 3) := by decide +kernel
theorem dX0_init_23 : decode cX0_init 23 = .ok (.aload_n 0, 1) := by decide +kernel
theorem dX0_init_24 : decode cX0_init 24 = .ok (.sipush 300, 3) := by decide +kernel
theorem dX0_init_27 : decode cX0_init 27 = .ok (.anewarray 17, 3) := by decide +kernel
theorem dX0_init_30 : decode cX0_init 30 = .ok (.putfield 23, 3) := by decide +kernel
theorem dX0_init_33 : decode cX0_init 33 = .ok (.iconst 0, 1) := by decide +kernel
theorem dX0_init_34 : decode cX0_init 34 = .ok (.istore_n 1, 1) := by decide +kernel
theorem dX0_init_35 : decode cX0_init 35 = .ok (.iload_n 1, 1) := by decide +kernel
theorem dX0_init_36 : decode cX0_init 36 = .ok (.bipush 20, 2) := by decide +kernel
theorem dX0_init_38 : decode cX0_init 38 = .ok (.if_icmp .ge 22, 3) := by decide +kernel
theorem dX0_init_41 : decode cX0_init 41 = .ok (.aload_n 0, 1) := by decide +kernel
theorem dX0_init_42 : decode cX0_init 42 = .ok (.getfield 11, 3) := by decide +kernel
theorem dX0_init_45 : decode cX0_init 45 = .ok (.iload_n 1, 1) := by decide +kernel
theorem dX0_init_46 : decode cX0_init 46 = .ok (.new 9, 3) := by decide +kernel
theorem dX0_init_49 : decode cX0_init 49 = .ok (.dup, 1) := by decide +kernel
theorem dX0_init_50 : decode cX0_init 50 = .ok (.invokespecial 26, 3) := by decide +kernel
theorem dX0_init_53 : decode cX0_init 53 = .ok (.aastore, 1) := by decide +kernel
theorem dX0_init_54 : decode cX0_init 54 = .ok (.iinc 1 1, 3) := by decide +kernel
theorem dX0_init_57 : decode cX0_init 57 = .ok (.goto (-22), 3) := by decide +kernel
theorem dX0_init_60 : decode cX0_init 60 = .ok (.return_, 1) := by decide +kernel
theorem dX0_hasQuestion_0 : decode cX0_hasQuestion 0 = .ok (.iload_n 1, 1) := by decide +kernel
theorem dX0_hasQuestion_1 : decode cX0_hasQuestion 1 = .ok (.ifCond .lt 15, 3) := by decide +kernel
theorem dX0_hasQuestion_4 : decode cX0_hasQuestion 4 = .ok (.iload_n 1, 1) := by decide +kernel
theorem dX0_hasQuestion_5 : decode cX0_hasQuestion 5 = .ok (.aload_n 0, 1) := by decide +kernel
theorem dX0_hasQuestion_6 : decode cX0_hasQuestion 6 = .ok (.getfield 27, 3) := by decide +kernel
theorem dX0_hasQuestion_9 : decode cX0_hasQuestion 9 = .ok (.if_icmp .ge 7, 3) := by decide +kernel
theorem dX0_hasQuestion_12 : decode cX0_hasQuestion 12 = .ok (.iconst 1, 1) := by decide +kernel
theorem dX0_hasQuestion_13 : decode cX0_hasQuestion 13 = .ok (.goto 4, 3) := by decide +kernel
theorem dX0_hasQuestion_16 : decode cX0_hasQuestion 16 = .ok (.iconst 0, 1) := by decide +kernel
theorem dX0_hasQuestion_17 : decode cX0_hasQuestion 17 = .ok (.ireturn, 1) := by decide +kernel
theorem dX0_addQuestion_0 : decode cX0_addQuestion 0 = .ok (.aload_n 0, 1) := by decide +kernel
theorem dX0_addQuestion_1 : decode cX0_addQuestion 1 = .ok (.getfield 27, 3) := by decide +kernel
theorem dX0_addQuestion_4 : decode cX0_addQuestion 4 = .ok (.istore_n 3, 1) := by decide +kernel
theorem dX0_addQuestion_5 : decode cX0_addQuestion 5 = .ok (.aload_n 0, 1) := by decide +kernel
theorem dX0_addQuestion_6 : decode cX0_addQuestion 6 = .ok (.getfield 11, 3) := by decide +kernel
theorem dX0_addQuestion_9 : decode cX0_addQuestion 9 = .ok (.iload_n 3, 1) := by decide +kernel
theorem dX0_addQuestion_10 : decode cX0_addQuestion 10 = .ok (.aaload, 1) := by decide +kernel
theorem dX0_addQuestion_11 : decode cX0_addQuestion 11 = .ok (.iload_n 1, 1) := by decide +kernel
theorem dX0_addQuestion_12 : decode cX0_addQuestion 12 = .ok (.putfield 31, 3) := by decide +kernel
theorem dX0_addQuestion_15 : decode cX0_addQuestion 15 = .ok (.aload_n 0, 1) := by decide +kernel
theorem dX0_addQuestion_16 : decode cX0_addQuestion 16 = .ok (.getfield 11, 3) := by decide +kernel
theorem dX0_addQuestion_19 : decode cX0_addQuestion 19 = .ok (.iload_n 3, 1) := by decide +kernel
theorem dX0_addQuestion_20 : decode cX0_addQuestion 20 = .ok (.aaload, 1) := by decide +kernel
theorem dX0_addQuestion_21 : decode cX0_addQuestion 21 = .ok (.iload_n 2, 1) := by decide +kernel
theorem dX0_addQuestion_22 : decode cX0_addQuestion 22 = .ok (.putfield 34, 3) := by decide +kernel
theorem dX0_addQuestion_25 : decode cX0_addQuestion 25 = .ok (.aload_n 0, 1) := by decide +kernel
theorem dX0_addQuestion_26 : decode cX0_addQuestion 26 = .ok (.dup, 1) := by decide +kernel
theorem dX0_addQuestion_27 : decode cX0_addQuestion 27 = .ok (.getfield 27, 3) := by decide +kernel
theorem dX0_addQuestion_30 : decode cX0_addQuestion 30 = .ok (.iconst 1, 1) := by decide +kernel
theorem dX0_addQuestion_31 : decode cX0_addQuestion 31 = .ok (.iadd, 1) := by decide +kernel
theorem dX0_addQuestion_32 : decode cX0_addQuestion 32 = .ok (.putfield 27, 3) := by decide +kernel
theorem dX0_addQuestion_35 : decode cX0_addQuestion 35 = .ok (.aload_n 0, 1) := by decide +kernel
theorem dX0_addQuestion_36 : decode cX0_addQuestion 36 = .ok (.dup, 1) := by decide +kernel
theorem dX0_addQuestion_37 : decode cX0_addQuestion 37 = .ok (.getfield 37, 3) := by decide +kernel
theorem dX0_addQuestion_40 : decode cX0_addQuestion 40 = .ok (.iconst 1, 1) := by decide +kernel
theorem dX0_addQuestion_41 : decode cX0_addQuestion 41 = .ok (.iadd, 1) := by decide +kernel
theorem dX0_addQuestion_42 : decode cX0_addQuestion 42 = .ok (.putfield 37, 3) := by decide +kernel
theorem dX0_addQuestion_45 : decode cX0_addQuestion 45 = .ok (.iload_n 3, 1) := by decide +kernel
theorem dX0_addQuestion_46 : decode cX0_addQuestion 46 = .ok (.ireturn, 1) := by decide +kernel
theorem dX0_addGuess_0 : decode cX0_addGuess 0 = .ok (.aload_n 0, 1) := by decide +kernel
theorem dX0_addGuess_1 : decode cX0_addGuess 1 = .ok (.getfield 40, 3) := by decide +kernel
theorem dX0_addGuess_4 : decode cX0_addGuess 4 = .ok (.istore 5, 2) := by decide +kernel
theorem dX0_addGuess_6 : decode cX0_addGuess 6 = .ok (.new 17, 3) := by decide +kernel
theorem dX0_addGuess_9 : decode cX0_addGuess 9 = .ok (.dup, 1) := by decide +kernel
theorem dX0_addGuess_10 : decode cX0_addGuess 10 = .ok (.iload_n 1, 1) := by decide +kernel
theorem dX0_addGuess_11 : decode cX0_addGuess 11 = .ok (.iload_n 2, 1) := by decide +kernel
theorem dX0_addGuess_12 : decode cX0_addGuess 12 = .ok (.iload_n 3, 1) := by decide +kernel
theorem dX0_addGuess_13 : decode cX0_addGuess 13 = .ok (.iload 4, 2) := by decide +kernel
theorem dX0_addGuess_15 : decode cX0_addGuess 15 = .ok (.aload_n 0, 1) := by decide +kernel
theorem dX0_addGuess_16 : decode cX0_addGuess 16 = .ok (.getfield 19, 3) := by decide +kernel
theorem dX0_addGuess_19 : decode cX0_addGuess 19 = .ok (.iload_n 1, 1) := by decide +kernel
theorem dX0_addGuess_20 : decode cX0_addGuess 20 = .ok (.iload_n 2, 1) := by decide +kernel
theorem dX0_addGuess_21 : decode cX0_addGuess 21 = .ok (.invokestatic 43, 3) := by decide +kernel
theorem dX0_addGuess_24 : decode cX0_addGuess 24 = .ok (.aaload, 1) := by decide +kernel
theorem dX0_addGuess_25 : decode cX0_addGuess 25 = .ok (.invokespecial 47, 3) := by decide +kernel
theorem dX0_addGuess_28 : decode cX0_addGuess 28 = .ok (.astore 6, 2) := by decide +kernel
theorem dX0_addGuess_30 : decode cX0_addGuess 30 = .ok (.aload_n 0, 1) := by decide +kernel
theorem dX0_addGuess_31 : decode cX0_addGuess 31 = .ok (.getfield 19, 3) := by decide +kernel
theorem dX0_addGuess_34 : decode cX0_addGuess 34 = .ok (.iload_n 1, 1) := by decide +kernel
theorem dX0_addGuess_35 : decode cX0_addGuess 35 = .ok (.iload_n 2, 1) := by decide +kernel
theorem dX0_addGuess_36 : decode cX0_addGuess 36 = .ok (.invokestatic 43, 3) := by decide +kernel
theorem dX0_addGuess_39 : decode cX0_addGuess 39 = .ok (.aload 6, 2) := by decide +kernel
theorem dX0_addGuess_41 : decode cX0_addGuess 41 = .ok (.aastore, 1) := by decide +kernel
theorem dX0_addGuess_42 : decode cX0_addGuess 42 = .ok (.iload 5, 2) := by decide +kernel
theorem dX0_addGuess_44 : decode cX0_addGuess 44 = .ok (.istore 7, 2) := by decide +kernel
theorem dX0_addGuess_46 : decode cX0_addGuess 46 = .ok (.iload 7, 2) := by decide +kernel
theorem dX0_addGuess_48 : decode cX0_addGuess 48 = .ok (.ifCond .le 41, 3) := by decide +kernel
theorem dX0_addGuess_51 : decode cX0_addGuess 51 = .ok (.aload_n 0, 1) := by decide +kernel
theorem dX0_addGuess_52 : decode cX0_addGuess 52 = .ok (.getfield 23, 3) := by decide +kernel
theorem dX0_addGuess_55 : decode cX0_addGuess 55 = .ok (.iload 7, 2) := by decide +kernel
theorem dX0_addGuess_57 : decode cX0_addGuess 57 = .ok (.iconst 1, 1) := by decide +kernel
theorem dX0_addGuess_58 : decode cX0_addGuess 58 = .ok (.isub, 1) := by decide +kernel
theorem dX0_addGuess_59 : decode cX0_addGuess 59 = .ok (.aaload, 1) := by decide +kernel
theorem dX0_addGuess_60 : decode cX0_addGuess 60 = .ok (.iload_n 3, 1) := by decide +kernel
theorem dX0_addGuess_61 : decode cX0_addGuess 61 = .ok (.invokestatic 50, 3) := by decide +kernel
theorem dX0_addGuess_64 : decode cX0_addGuess 64 = .ok (.ifCond .eq 25, 3) := by decide +kernel
theorem dX0_addGuess_67 : decode cX0_addGuess 67 = .ok (.aload_n 0, 1) := by decide +kernel
theorem dX0_addGuess_68 : decode cX0_addGuess 68 = .ok (.getfield 23, 3) := by decide +kernel
theorem dX0_addGuess_71 : decode cX0_addGuess 71 = .ok (.iload 7, 2) := by decide +kernel
theorem dX0_addGuess_73 : decode cX0_addGuess 73 = .ok (.aload_n 0, 1) := by decide +kernel
theorem dX0_addGuess_74 : decode cX0_addGuess 74 = .ok (.getfield 23, 3) := by decide +kernel
theorem dX0_addGuess_77 : decode cX0_addGuess 77 = .ok (.iload 7, 2) := by decide +kernel
theorem dX0_addGuess_79 : decode cX0_addGuess 79 = .ok (.iconst 1, 1) := by decide +kernel
theorem dX0_addGuess_80 : decode cX0_addGuess 80 = .ok (.isub, 1) := by decide +kernel
theorem dX0_addGuess_81 : decode cX0_addGuess 81 = .ok (.aaload, 1) := by decide +kernel
theorem dX0_addGuess_82 : decode cX0_addGuess 82 = .ok (.aastore, 1) := by decide +kernel
theorem dX0_addGuess_83 : decode cX0_addGuess 83 = .ok (.iinc 7 (-1), 3) := by decide +kernel
theorem dX0_addGuess_86 : decode cX0_addGuess 86 = .ok (.goto (-40), 3) := by decide +kernel
theorem dX0_addGuess_89 : decode cX0_addGuess 89 = .ok (.aload_n 0, 1) := by decide +kernel
theorem dX0_addGuess_90 : decode cX0_addGuess 90 = .ok (.getfield 23, 3) := by decide +kernel
theorem dX0_addGuess_93 : decode cX0_addGuess 93 = .ok (.iload 7, 2) := by decide +kernel
theorem dX0_addGuess_95 : decode cX0_addGuess 95 = .ok (.aload 6, 2) := by decide +kernel
theorem dX0_addGuess_97 : decode cX0_addGuess 97 = .ok (.aastore, 1) := by decide +kernel
theorem dX0_addGuess_98 : decode cX0_addGuess 98 = .ok (.aload_n 0, 1) := by decide +kernel
theorem dX0_addGuess_99 : decode cX0_addGuess 99 = .ok (.getfield 11, 3) := by decide +kernel
theorem dX0_addGuess_102 : decode cX0_addGuess 102 = .ok (.iload_n 2, 1) := by decide +kernel
theorem dX0_addGuess_103 : decode cX0_addGuess 103 = .ok (.aaload, 1) := by decide +kernel
theorem dX0_addGuess_104 : decode cX0_addGuess 104 = .ok (.dup, 1) := by decide +kernel
theorem dX0_addGuess_105 : decode cX0_addGuess 105 = .ok (.getfield 54, 3) := by decide +kernel
theorem dX0_addGuess_108 : decode cX0_addGuess 108 = .ok (.iconst 1, 1) := by decide +kernel
theorem dX0_addGuess_109 : decode cX0_addGuess 109 = .ok (.iadd, 1) := by decide +kernel
theorem dX0_addGuess_110 : decode cX0_addGuess 110 = .ok (.putfield 54, 3) := by decide +kernel
theorem dX0_addGuess_113 : decode cX0_addGuess 113 = .ok (.aload_n 0, 1) := by decide +kernel
theorem dX0_addGuess_114 : decode cX0_addGuess 114 = .ok (.dup, 1) := by decide +kernel
theorem dX0_addGuess_115 : decode cX0_addGuess 115 = .ok (.getfield 40, 3) := by decide +kernel
theorem dX0_addGuess_118 : decode cX0_addGuess 118 = .ok (.iconst 1, 1) := by decide +kernel
theorem dX0_addGuess_119 : decode cX0_addGuess 119 = .ok (.iadd, 1) := by decide +kernel
theorem dX0_addGuess_120 : decode cX0_addGuess 120 = .ok (.putfield 40, 3) := by decide +kernel
theorem dX0_addGuess_123 : decode cX0_addGuess 123 = .ok (.aload_n 0, 1) := by decide +kernel
theorem dX0_addGuess_124 : decode cX0_addGuess 124 = .ok (.dup, 1) := by decide +kernel
theorem dX0_addGuess_125 : decode cX0_addGuess 125 = .ok (.getfield 37, 3) := by decide +kernel
theorem dX0_addGuess_128 : decode cX0_addGuess 128 = .ok (.iconst 1, 1) := by decide +kernel
theorem dX0_addGuess_129 : decode cX0_addGuess 129 = .ok (.iadd, 1) := by decide +kernel
theorem dX0_addGuess_130 : decode cX0_addGuess 130 = .ok (.putfield 37, 3) := by decide +kernel
theorem dX0_addGuess_133 : decode cX0_addGuess 133 = .ok (.iload 5, 2) := by decide +kernel
theorem dX0_addGuess_135 : decode cX0_addGuess 135 = .ok (.ireturn, 1) := by decide +kernel
theorem dX0_hasLaterGuess_0 : decode cX0_hasLaterGuess 0 = .ok (.aload_n 0, 1) := by decide +kernel
theorem dX0_hasLaterGuess_1 : decode cX0_hasLaterGuess 1 = .ok (.getfield 19, 3) := by decide +kernel
theorem dX0_hasLaterGuess_4 : decode cX0_hasLaterGuess 4 = .ok (.iload_n 1, 1) := by decide +kernel
theorem dX0_hasLaterGuess_5 : decode cX0_hasLaterGuess 5 = .ok (.iload_n 2, 1) := by decide +kernel
theorem dX0_hasLaterGuess_6 : decode cX0_hasLaterGuess 6 = .ok (.invokestatic 43, 3) := by decide +kernel
theorem dX0_hasLaterGuess_9 : decode cX0_hasLaterGuess 9 = .ok (.aaload, 1) := by decide +kernel
theorem dX0_hasLaterGuess_10 : decode cX0_hasLaterGuess 10 = .ok (.iload_n 3, 1) := by decide +kernel
theorem dX0_hasLaterGuess_11 : decode cX0_hasLaterGuess 11 = .ok (.invokestatic 50, 3) := by decide +kernel
theorem dX0_hasLaterGuess_14 : decode cX0_hasLaterGuess 14 = .ok (.ireturn, 1) := by decide +kernel
theorem dX0_isBehind_0 : decode cX0_isBehind 0 = .ok (.aload_n 0, 1) := by decide +kernel
theorem dX0_isBehind_1 : decode cX0_isBehind 1 = .ok (.ifnull 15, 3) := by decide +kernel
theorem dX0_isBehind_4 : decode cX0_isBehind 4 = .ok (.aload_n 0, 1) := by decide +kernel
theorem dX0_isBehind_5 : decode cX0_isBehind 5 = .ok (.getfield 57, 3) := by decide +kernel
theorem dX0_isBehind_8 : decode cX0_isBehind 8 = .ok (.iload_n 1, 1) := by decide +kernel
theorem dX0_isBehind_9 : decode cX0_isBehind 9 = .ok (.if_icmp .le 7, 3) := by decide +kernel
theorem dX0_isBehind_12 : decode cX0_isBehind 12 = .ok (.iconst 1, 1) := by decide +kernel
theorem dX0_isBehind_13 : decode cX0_isBehind 13 = .ok (.goto 4, 3) := by decide +kernel
theorem dX0_isBehind_16 : decode cX0_isBehind 16 = .ok (.iconst 0, 1) := by decide +kernel
theorem dX0_isBehind_17 : decode cX0_isBehind 17 = .ok (.ireturn, 1) := by decide +kernel
theorem dX0_latestUpTo_0 : decode cX0_latestUpTo 0 = .ok (.aload_n 0, 1) := by decide +kernel
theorem dX0_latestUpTo_1 : decode cX0_latestUpTo 1 = .ok (.getfield 19, 3) := by decide +kernel
theorem dX0_latestUpTo_4 : decode cX0_latestUpTo 4 = .ok (.iload_n 1, 1) := by decide +kernel
theorem dX0_latestUpTo_5 : decode cX0_latestUpTo 5 = .ok (.aaload, 1) := by decide +kernel
theorem dX0_latestUpTo_6 : decode cX0_latestUpTo 6 = .ok (.astore_n 3, 1) := by decide +kernel
theorem dX0_latestUpTo_7 : decode cX0_latestUpTo 7 = .ok (.aload_n 3, 1) := by decide +kernel
theorem dX0_latestUpTo_8 : decode cX0_latestUpTo 8 = .ok (.ifnull 19, 3) := by decide +kernel
theorem dX0_latestUpTo_11 : decode cX0_latestUpTo 11 = .ok (.aload_n 3, 1) := by decide +kernel
theorem dX0_latestUpTo_12 : decode cX0_latestUpTo 12 = .ok (.getfield 57, 3) := by decide +kernel
theorem dX0_latestUpTo_15 : decode cX0_latestUpTo 15 = .ok (.iload_n 2, 1) := by decide +kernel
theorem dX0_latestUpTo_16 : decode cX0_latestUpTo 16 = .ok (.if_icmp .le 11, 3) := by decide +kernel
theorem dX0_latestUpTo_19 : decode cX0_latestUpTo 19 = .ok (.aload_n 3, 1) := by decide +kernel
theorem dX0_latestUpTo_20 : decode cX0_latestUpTo 20 = .ok (.getfield 60, 3) := by decide +kernel
theorem dX0_latestUpTo_23 : decode cX0_latestUpTo 23 = .ok (.astore_n 3, 1) := by decide +kernel
theorem dX0_latestUpTo_24 : decode cX0_latestUpTo 24 = .ok (.goto (-17), 3) := by decide +kernel
theorem dX0_latestUpTo_27 : decode cX0_latestUpTo 27 = .ok (.aload_n 3, 1) := by decide +kernel
theorem dX0_latestUpTo_28 : decode cX0_latestUpTo 28 = .ok (.areturn, 1) := by decide +kernel
theorem dX0_heldTenth_0 : decode cX0_heldTenth 0 = .ok (.aload_n 0, 1) := by decide +kernel
theorem dX0_heldTenth_1 : decode cX0_heldTenth 1 = .ok (.iload_n 1, 1) := by decide +kernel
theorem dX0_heldTenth_2 : decode cX0_heldTenth 2 = .ok (.iload_n 2, 1) := by decide +kernel
theorem dX0_heldTenth_3 : decode cX0_heldTenth 3 = .ok (.invokestatic 43, 3) := by decide +kernel
theorem dX0_heldTenth_6 : decode cX0_heldTenth 6 = .ok (.iload_n 3, 1) := by decide +kernel
theorem dX0_heldTenth_7 : decode cX0_heldTenth 7 = .ok (.invokevirtual 64, 3) := by decide +kernel
theorem dX0_heldTenth_10 : decode cX0_heldTenth 10 = .ok (.astore 4, 2) := by decide +kernel
theorem dX0_heldTenth_12 : decode cX0_heldTenth 12 = .ok (.aload 4, 2) := by decide +kernel
theorem dX0_heldTenth_14 : decode cX0_heldTenth 14 = .ok (.ifnonnull 7, 3) := by decide +kernel
theorem dX0_heldTenth_17 : decode cX0_heldTenth 17 = .ok (.iconst (-1), 1) := by decide +kernel
theorem dX0_heldTenth_18 : decode cX0_heldTenth 18 = .ok (.goto 8, 3) := by decide +kernel
theorem dX0_heldTenth_21 : decode cX0_heldTenth 21 = .ok (.aload 4, 2) := by decide +kernel
theorem dX0_heldTenth_23 : decode cX0_heldTenth 23 = .ok (.getfield 68, 3) := by decide +kernel
theorem dX0_heldTenth_26 : decode cX0_heldTenth 26 = .ok (.ireturn, 1) := by decide +kernel
theorem dX1_init_0 : decode cX1_init 0 = .ok (.aload_n 0, 1) := by decide +kernel
theorem dX1_init_1 : decode cX1_init 1 = .ok (.invokespecial 3, 3) := by decide +kernel
theorem dX1_init_4 : decode cX1_init 4 = .ok (.aload_n 0, 1) := by decide +kernel
theorem dX1_init_5 : decode cX1_init 5 = .ok (.sipush 400, 3) := by decide +kernel
theorem dX1_init_8 : decode cX1_init 8 = .ok (.newarray .int, 2) := by decide +kernel
theorem dX1_init_10 : decode cX1_init 10 = .ok (.putfield 9, 3) := by decide +kernel
theorem dX1_init_13 : decode cX1_init 13 = .ok (.aload_n 0, 1) := by decide +kernel
theorem dX1_init_14 : decode cX1_init 14 = .ok (.sipush 400, 3) := by decide +kernel
theorem dX1_init_17 : decode cX1_init 17 = .ok (.newarray .int, 2) := by decide +kernel
theorem dX1_init_19 : decode cX1_init 19 = .ok (.putfield 15, 3) := by decide +kernel
theorem dX1_init_22 : decode cX1_init 22 = .ok (.aload_n 0, 1) := by decide +kernel
theorem dX1_init_23 : decode cX1_init 23 = .ok (.bipush 20, 2) := by decide +kernel
theorem dX1_init_25 : decode cX1_init 25 = .ok (.newarray .int, 2) := by decide +kernel
theorem dX1_init_27 : decode cX1_init 27 = .ok (.putfield 18, 3) := by decide +kernel
theorem dX1_init_30 : decode cX1_init 30 = .ok (.aload_n 0, 1) := by decide +kernel
theorem dX1_init_31 : decode cX1_init 31 = .ok (.bipush 20, 2) := by decide +kernel
theorem dX1_init_33 : decode cX1_init 33 = .ok (.newarray .int, 2) := by decide +kernel
theorem dX1_init_35 : decode cX1_init 35 = .ok (.putfield 21, 3) := by decide +kernel
theorem dX1_init_38 : decode cX1_init 38 = .ok (.aload_n 0, 1) := by decide +kernel
theorem dX1_init_39 : decode cX1_init 39 = .ok (.iconst (-1), 1) := by decide +kernel
theorem dX1_init_40 : decode cX1_init 40 = .ok (.putfield 24, 3) := by decide +kernel
theorem dX1_init_43 : decode cX1_init 43 = .ok (.aload_n 0, 1) := by decide +kernel
theorem dX1_init_44 : decode cX1_init 44 = .ok (.aload_n 1, 1) := by decide +kernel
theorem dX1_init_45 : decode cX1_init 45 = .ok (.putfield 28, 3) := by decide +kernel
theorem dX1_init_48 : decode cX1_init 48 = .ok (.aload_n 0, 1) := by decide +kernel
theorem dX1_init_49 : decode cX1_init 49 = .ok (.aload_n 2, 1) := by decide +kernel
theorem dX1_init_50 : decode cX1_init 50 = .ok (.putfield 32, 3) := by decide +kernel
theorem dX1_init_53 : decode cX1_init 53 = .ok (.return_, 1) := by decide +kernel
theorem dX1_refresh_0 : decode cX1_refresh 0 = .ok (.aload_n 0, 1) := by decide +kernel
theorem dX1_refresh_1 : decode cX1_refresh 1 = .ok (.getfield 24, 3) := by decide +kernel
theorem dX1_refresh_4 : decode cX1_refresh 4 = .ok (.aload_n 0, 1) := by decide +kernel
theorem dX1_refresh_5 : decode cX1_refresh 5 = .ok (.getfield 28, 3) := by decide +kernel
theorem dX1_refresh_8 : decode cX1_refresh 8 = .ok (.getfield 36, 3) := by decide +kernel
theorem dX1_refresh_11 : decode cX1_refresh 11 = .ok (.if_icmp .ne 4, 3) := by decide +kernel
theorem dX1_refresh_14 : decode cX1_refresh 14 = .ok (.return_, 1) := by decide +kernel
theorem dX1_refresh_15 : decode cX1_refresh 15 = .ok (.aload_n 0, 1) := by decide +kernel
theorem dX1_refresh_16 : decode cX1_refresh 16 = .ok (.aload_n 0, 1) := by decide +kernel
theorem dX1_refresh_17 : decode cX1_refresh 17 = .ok (.getfield 28, 3) := by decide +kernel
theorem dX1_refresh_20 : decode cX1_refresh 20 = .ok (.getfield 36, 3) := by decide +kernel
theorem dX1_refresh_23 : decode cX1_refresh 23 = .ok (.putfield 24, 3) := by decide +kernel
theorem dX1_refresh_26 : decode cX1_refresh 26 = .ok (.iconst 0, 1) := by decide +kernel
theorem dX1_refresh_27 : decode cX1_refresh 27 = .ok (.istore_n 1, 1) := by decide +kernel
theorem dX1_refresh_28 : decode cX1_refresh 28 = .ok (.iload_n 1, 1) := by decide +kernel
theorem dX1_refresh_29 : decode cX1_refresh 29 = .ok (.bipush 20, 2) := by decide +kernel
theorem dX1_refresh_31 : decode cX1_refresh 31 = .ok (.if_icmp .ge 70, 3) := by decide +kernel
theorem dX1_refresh_34 : decode cX1_refresh 34 = .ok (.aload_n 0, 1) := by decide +kernel
theorem dX1_refresh_35 : decode cX1_refresh 35 = .ok (.getfield 18, 3) := by decide +kernel
theorem dX1_refresh_38 : decode cX1_refresh 38 = .ok (.iload_n 1, 1) := by decide +kernel
theorem dX1_refresh_39 : decode cX1_refresh 39 = .ok (.iconst 0, 1) := by decide +kernel
theorem dX1_refresh_40 : decode cX1_refresh 40 = .ok (.iastore, 1) := by decide +kernel
theorem dX1_refresh_41 : decode cX1_refresh 41 = .ok (.aload_n 0, 1) := by decide +kernel
theorem dX1_refresh_42 : decode cX1_refresh 42 = .ok (.getfield 21, 3) := by decide +kernel
theorem dX1_refresh_45 : decode cX1_refresh 45 = .ok (.iload_n 1, 1) := by decide +kernel
theorem dX1_refresh_46 : decode cX1_refresh 46 = .ok (.iconst 0, 1) := by decide +kernel
theorem dX1_refresh_47 : decode cX1_refresh 47 = .ok (.iastore, 1) := by decide +kernel
theorem dX1_refresh_48 : decode cX1_refresh 48 = .ok (.iconst 0, 1) := by decide +kernel
theorem dX1_refresh_49 : decode cX1_refresh 49 = .ok (.istore_n 2, 1) := by decide +kernel
theorem dX1_refresh_50 : decode cX1_refresh 50 = .ok (.iload_n 2, 1) := by decide +kernel
theorem dX1_refresh_51 : decode cX1_refresh 51 = .ok (.aload_n 0, 1) := by decide +kernel
theorem dX1_refresh_52 : decode cX1_refresh 52 = .ok (.getfield 28, 3) := by decide +kernel
theorem dX1_refresh_55 : decode cX1_refresh 55 = .ok (.getfield 41, 3) := by decide +kernel
theorem dX1_refresh_58 : decode cX1_refresh 58 = .ok (.if_icmp .ge 37, 3) := by decide +kernel
theorem dX1_refresh_61 : decode cX1_refresh 61 = .ok (.aload_n 0, 1) := by decide +kernel
theorem dX1_refresh_62 : decode cX1_refresh 62 = .ok (.iload_n 1, 1) := by decide +kernel
theorem dX1_refresh_63 : decode cX1_refresh 63 = .ok (.iload_n 2, 1) := by decide +kernel
theorem dX1_refresh_64 : decode cX1_refresh 64 = .ok (.invokestatic 44, 3) := by decide +kernel
theorem dX1_refresh_67 : decode cX1_refresh 67 = .ok (.aload_n 0, 1) := by decide +kernel
theorem dX1_refresh_68 : decode cX1_refresh 68 = .ok (.getfield 28, 3) := by decide +kernel
theorem dX1_refresh_71 : decode cX1_refresh 71 = .ok (.getfield 48, 3) := by decide +kernel
theorem dX1_refresh_74 : decode cX1_refresh 74 = .ok (.iload_n 2, 1) := by decide +kernel
theorem dX1_refresh_75 : decode cX1_refresh 75 = .ok (.aaload, 1) := by decide +kernel
theorem dX1_refresh_76 : decode cX1_refresh 76 = .ok (.invokevirtual 52, 3) := by decide +kernel
theorem dX1_refresh_79 : decode cX1_refresh 79 = .ok (.aload_n 0, 1) := by decide +kernel
theorem dX1_refresh_80 : decode cX1_refresh 80 = .ok (.iload_n 1, 1) := by decide +kernel
theorem dX1_refresh_81 : decode cX1_refresh 81 = .ok (.iload_n 1, 1) := by decide +kernel
theorem dX1_refresh_82 : decode cX1_refresh 82 = .ok (.iload_n 2, 1) := by decide +kernel
theorem dX1_refresh_83 : decode cX1_refresh 83 = .ok (.invokestatic 44, 3) := by decide +kernel
theorem dX1_refresh_86 : decode cX1_refresh 86 = .ok (.invokevirtual 56, 3) := by decide +kernel
theorem dX1_refresh_89 : decode cX1_refresh 89 = .ok (.iinc 2 1, 3) := by decide +kernel
theorem dX1_refresh_92 : decode cX1_refresh 92 = .ok (.goto (-42), 3) := by decide +kernel
theorem dX1_refresh_95 : decode cX1_refresh 95 = .ok (.iinc 1 1, 3) := by decide +kernel
theorem dX1_refresh_98 : decode cX1_refresh 98 = .ok (.goto (-70), 3) := by decide +kernel
theorem dX1_refresh_101 : decode cX1_refresh 101 = .ok (.return_, 1) := by decide +kernel
theorem dX1_fillRows_0 : decode cX1_fillRows 0 = .ok (.aload_n 0, 1) := by decide +kernel
theorem dX1_fillRows_1 : decode cX1_fillRows 1 = .ok (.getfield 9, 3) := by decide +kernel
theorem dX1_fillRows_4 : decode cX1_fillRows 4 = .ok (.iload_n 1, 1) := by decide +kernel
theorem dX1_fillRows_5 : decode cX1_fillRows 5 = .ok (.iconst 0, 1) := by decide +kernel
theorem dX1_fillRows_6 : decode cX1_fillRows 6 = .ok (.iastore, 1) := by decide +kernel
theorem dX1_fillRows_7 : decode cX1_fillRows 7 = .ok (.aload_n 0, 1) := by decide +kernel
theorem dX1_fillRows_8 : decode cX1_fillRows 8 = .ok (.getfield 15, 3) := by decide +kernel
theorem dX1_fillRows_11 : decode cX1_fillRows 11 = .ok (.iload_n 1, 1) := by decide +kernel
theorem dX1_fillRows_12 : decode cX1_fillRows 12 = .ok (.iconst 0, 1) := by decide +kernel
theorem dX1_fillRows_13 : decode cX1_fillRows 13 = .ok (.iastore, 1) := by decide +kernel
theorem dX1_fillRows_14 : decode cX1_fillRows 14 = .ok (.aload_n 0, 1) := by decide +kernel
theorem dX1_fillRows_15 : decode cX1_fillRows 15 = .ok (.getfield 28, 3) := by decide +kernel
theorem dX1_fillRows_18 : decode cX1_fillRows 18 = .ok (.getfield 60, 3) := by decide +kernel
theorem dX1_fillRows_21 : decode cX1_fillRows 21 = .ok (.iload_n 1, 1) := by decide +kernel
theorem dX1_fillRows_22 : decode cX1_fillRows 22 = .ok (.aaload, 1) := by decide +kernel
theorem dX1_fillRows_23 : decode cX1_fillRows 23 = .ok (.astore_n 3, 1) := by decide +kernel
theorem dX1_fillRows_24 : decode cX1_fillRows 24 = .ok (.aload_n 3, 1) := by decide +kernel
theorem dX1_fillRows_25 : decode cX1_fillRows 25 = .ok (.ifnull 10, 3) := by decide +kernel
theorem dX1_fillRows_28 : decode cX1_fillRows 28 = .ok (.aload_n 2, 1) := by decide +kernel
theorem dX1_fillRows_29 : decode cX1_fillRows 29 = .ok (.invokevirtual 64, 3) := by decide +kernel
theorem dX1_fillRows_32 : decode cX1_fillRows 32 = .ok (.ifCond .ne 4, 3) := by decide +kernel
theorem dX1_fillRows_35 : decode cX1_fillRows 35 = .ok (.return_, 1) := by decide +kernel
theorem dX1_fillRows_36 : decode cX1_fillRows 36 = .ok (.aload_n 2, 1) := by decide +kernel
theorem dX1_fillRows_37 : decode cX1_fillRows 37 = .ok (.invokevirtual 70, 3) := by decide +kernel
theorem dX1_fillRows_40 : decode cX1_fillRows 40 = .ok (.istore 4, 2) := by decide +kernel
theorem dX1_fillRows_42 : decode cX1_fillRows 42 = .ok (.aload_n 3, 1) := by decide +kernel
theorem dX1_fillRows_43 : decode cX1_fillRows 43 = .ok (.ifnull 53, 3) := by decide +kernel
theorem dX1_fillRows_46 : decode cX1_fillRows 46 = .ok (.aload_n 3, 1) := by decide +kernel
theorem dX1_fillRows_47 : decode cX1_fillRows 47 = .ok (.getfield 74, 3) := by decide +kernel
theorem dX1_fillRows_50 : decode cX1_fillRows 50 = .ok (.iload 4, 2) := by decide +kernel
theorem dX1_fillRows_52 : decode cX1_fillRows 52 = .ok (.if_icmp .ge 36, 3) := by decide +kernel
theorem dX1_fillRows_55 : decode cX1_fillRows 55 = .ok (.aload_n 0, 1) := by decide +kernel
theorem dX1_fillRows_56 : decode cX1_fillRows 56 = .ok (.iload_n 1, 1) := by decide +kernel
theorem dX1_fillRows_57 : decode cX1_fillRows 57 = .ok (.iload 4, 2) := by decide +kernel
theorem dX1_fillRows_59 : decode cX1_fillRows 59 = .ok (.aload_n 3, 1) := by decide +kernel
theorem dX1_fillRows_60 : decode cX1_fillRows 60 = .ok (.getfield 74, 3) := by decide +kernel
theorem dX1_fillRows_63 : decode cX1_fillRows 63 = .ok (.isub, 1) := by decide +kernel
theorem dX1_fillRows_64 : decode cX1_fillRows 64 = .ok (.aload_n 0, 1) := by decide +kernel
theorem dX1_fillRows_65 : decode cX1_fillRows 65 = .ok (.getfield 32, 3) := by decide +kernel
theorem dX1_fillRows_68 : decode cX1_fillRows 68 = .ok (.aload_n 2, 1) := by decide +kernel
theorem dX1_fillRows_69 : decode cX1_fillRows 69 = .ok (.getfield 79, 3) := by decide +kernel
theorem dX1_fillRows_72 : decode cX1_fillRows 72 = .ok (.aload_n 3, 1) := by decide +kernel
theorem dX1_fillRows_73 : decode cX1_fillRows 73 = .ok (.getfield 82, 3) := by decide +kernel
theorem dX1_fillRows_76 : decode cX1_fillRows 76 = .ok (.invokevirtual 85, 3) := by decide +kernel
theorem dX1_fillRows_79 : decode cX1_fillRows 79 = .ok (.invokevirtual 90, 3) := by decide +kernel
theorem dX1_fillRows_82 : decode cX1_fillRows 82 = .ok (.aload_n 3, 1) := by decide +kernel
theorem dX1_fillRows_83 : decode cX1_fillRows 83 = .ok (.getfield 74, 3) := by decide +kernel
theorem dX1_fillRows_86 : decode cX1_fillRows 86 = .ok (.istore 4, 2) := by decide +kernel
theorem dX1_fillRows_88 : decode cX1_fillRows 88 = .ok (.aload_n 3, 1) := by decide +kernel
theorem dX1_fillRows_89 : decode cX1_fillRows 89 = .ok (.getfield 94, 3) := by decide +kernel
theorem dX1_fillRows_92 : decode cX1_fillRows 92 = .ok (.astore_n 3, 1) := by decide +kernel
theorem dX1_fillRows_93 : decode cX1_fillRows 93 = .ok (.goto (-51), 3) := by decide +kernel
theorem dX1_fillRows_96 : decode cX1_fillRows 96 = .ok (.aload_n 0, 1) := by decide +kernel
theorem dX1_fillRows_97 : decode cX1_fillRows 97 = .ok (.getfield 32, 3) := by decide +kernel
theorem dX1_fillRows_100 : decode cX1_fillRows 100 = .ok (.invokevirtual 98, 3) := by decide +kernel
theorem dX1_fillRows_103 : decode cX1_fillRows 103 = .ok (.ifCond .eq 27, 3) := by decide +kernel
theorem dX1_fillRows_106 : decode cX1_fillRows 106 = .ok (.aload_n 0, 1) := by decide +kernel
theorem dX1_fillRows_107 : decode cX1_fillRows 107 = .ok (.iload_n 1, 1) := by decide +kernel
theorem dX1_fillRows_108 : decode cX1_fillRows 108 = .ok (.iload 4, 2) := by decide +kernel
theorem dX1_fillRows_110 : decode cX1_fillRows 110 = .ok (.aload_n 2, 1) := by decide +kernel
theorem dX1_fillRows_111 : decode cX1_fillRows 111 = .ok (.getfield 101, 3) := by decide +kernel
theorem dX1_fillRows_114 : decode cX1_fillRows 114 = .ok (.isub, 1) := by decide +kernel
theorem dX1_fillRows_115 : decode cX1_fillRows 115 = .ok (.aload_n 0, 1) := by decide +kernel
theorem dX1_fillRows_116 : decode cX1_fillRows 116 = .ok (.getfield 32, 3) := by decide +kernel
theorem dX1_fillRows_119 : decode cX1_fillRows 119 = .ok (.aload_n 2, 1) := by decide +kernel
theorem dX1_fillRows_120 : decode cX1_fillRows 120 = .ok (.getfield 79, 3) := by decide +kernel
theorem dX1_fillRows_123 : decode cX1_fillRows 123 = .ok (.iconst 5, 1) := by decide +kernel
theorem dX1_fillRows_124 : decode cX1_fillRows 124 = .ok (.invokevirtual 85, 3) := by decide +kernel
theorem dX1_fillRows_127 : decode cX1_fillRows 127 = .ok (.invokevirtual 90, 3) := by decide +kernel
theorem dX1_fillRows_130 : decode cX1_fillRows 130 = .ok (.return_, 1) := by decide +kernel
theorem dX1_addRows_0 : decode cX1_addRows 0 = .ok (.aload_n 0, 1) := by decide +kernel
theorem dX1_addRows_1 : decode cX1_addRows 1 = .ok (.getfield 9, 3) := by decide +kernel
theorem dX1_addRows_4 : decode cX1_addRows 4 = .ok (.iload_n 1, 1) := by decide +kernel
theorem dX1_addRows_5 : decode cX1_addRows 5 = .ok (.dup2, 1) := by decide +kernel
theorem dX1_addRows_6 : decode cX1_addRows 6 = .ok (.iaload, 1) := by decide +kernel
theorem dX1_addRows_7 : decode cX1_addRows 7 = .ok (.iload_n 2, 1) := by decide +kernel
theorem dX1_addRows_8 : decode cX1_addRows 8 = .ok (.iadd, 1) := by decide +kernel
theorem dX1_addRows_9 : decode cX1_addRows 9 = .ok (.iastore, 1) := by decide +kernel
theorem dX1_addRows_10 : decode cX1_addRows 10 = .ok (.aload_n 0, 1) := by decide +kernel
theorem dX1_addRows_11 : decode cX1_addRows 11 = .ok (.getfield 15, 3) := by decide +kernel
theorem dX1_addRows_14 : decode cX1_addRows 14 = .ok (.iload_n 1, 1) := by decide +kernel
theorem dX1_addRows_15 : decode cX1_addRows 15 = .ok (.dup2, 1) := by decide +kernel
theorem dX1_addRows_16 : decode cX1_addRows 16 = .ok (.iaload, 1) := by decide +kernel
theorem dX1_addRows_17 : decode cX1_addRows 17 = .ok (.iload_n 2, 1) := by decide +kernel
theorem dX1_addRows_18 : decode cX1_addRows 18 = .ok (.iload_n 3, 1) := by decide +kernel
theorem dX1_addRows_19 : decode cX1_addRows 19 = .ok (.imul, 1) := by decide +kernel
theorem dX1_addRows_20 : decode cX1_addRows 20 = .ok (.iadd, 1) := by decide +kernel
theorem dX1_addRows_21 : decode cX1_addRows 21 = .ok (.iastore, 1) := by decide +kernel
theorem dX1_addRows_22 : decode cX1_addRows 22 = .ok (.return_, 1) := by decide +kernel
theorem dX1_addToTotal_0 : decode cX1_addToTotal 0 = .ok (.aload_n 0, 1) := by decide +kernel
theorem dX1_addToTotal_1 : decode cX1_addToTotal 1 = .ok (.iload_n 2, 1) := by decide +kernel
theorem dX1_addToTotal_2 : decode cX1_addToTotal 2 = .ok (.invokevirtual 104, 3) := by decide +kernel
theorem dX1_addToTotal_5 : decode cX1_addToTotal 5 = .ok (.ifCond .eq 33, 3) := by decide +kernel
theorem dX1_addToTotal_8 : decode cX1_addToTotal 8 = .ok (.aload_n 0, 1) := by decide +kernel
theorem dX1_addToTotal_9 : decode cX1_addToTotal 9 = .ok (.getfield 18, 3) := by decide +kernel
theorem dX1_addToTotal_12 : decode cX1_addToTotal 12 = .ok (.iload_n 1, 1) := by decide +kernel
theorem dX1_addToTotal_13 : decode cX1_addToTotal 13 = .ok (.dup2, 1) := by decide +kernel
theorem dX1_addToTotal_14 : decode cX1_addToTotal 14 = .ok (.iaload, 1) := by decide +kernel
theorem dX1_addToTotal_15 : decode cX1_addToTotal 15 = .ok (.aload_n 0, 1) := by decide +kernel
theorem dX1_addToTotal_16 : decode cX1_addToTotal 16 = .ok (.getfield 9, 3) := by decide +kernel
theorem dX1_addToTotal_19 : decode cX1_addToTotal 19 = .ok (.iload_n 2, 1) := by decide +kernel
theorem dX1_addToTotal_20 : decode cX1_addToTotal 20 = .ok (.iaload, 1) := by decide +kernel
theorem dX1_addToTotal_21 : decode cX1_addToTotal 21 = .ok (.iadd, 1) := by decide +kernel
theorem dX1_addToTotal_22 : decode cX1_addToTotal 22 = .ok (.iastore, 1) := by decide +kernel
theorem dX1_addToTotal_23 : decode cX1_addToTotal 23 = .ok (.aload_n 0, 1) := by decide +kernel
theorem dX1_addToTotal_24 : decode cX1_addToTotal 24 = .ok (.getfield 21, 3) := by decide +kernel
theorem dX1_addToTotal_27 : decode cX1_addToTotal 27 = .ok (.iload_n 1, 1) := by decide +kernel
theorem dX1_addToTotal_28 : decode cX1_addToTotal 28 = .ok (.dup2, 1) := by decide +kernel
theorem dX1_addToTotal_29 : decode cX1_addToTotal 29 = .ok (.iaload, 1) := by decide +kernel
theorem dX1_addToTotal_30 : decode cX1_addToTotal 30 = .ok (.aload_n 0, 1) := by decide +kernel
theorem dX1_addToTotal_31 : decode cX1_addToTotal 31 = .ok (.getfield 15, 3) := by decide +kernel
theorem dX1_addToTotal_34 : decode cX1_addToTotal 34 = .ok (.iload_n 2, 1) := by decide +kernel
theorem dX1_addToTotal_35 : decode cX1_addToTotal 35 = .ok (.iaload, 1) := by decide +kernel
theorem dX1_addToTotal_36 : decode cX1_addToTotal 36 = .ok (.iadd, 1) := by decide +kernel
theorem dX1_addToTotal_37 : decode cX1_addToTotal 37 = .ok (.iastore, 1) := by decide +kernel
theorem dX1_addToTotal_38 : decode cX1_addToTotal 38 = .ok (.return_, 1) := by decide +kernel
theorem dX1_doesCount_0 : decode cX1_doesCount 0 = .ok (.aload_n 0, 1) := by decide +kernel
theorem dX1_doesCount_1 : decode cX1_doesCount 1 = .ok (.getfield 9, 3) := by decide +kernel
theorem dX1_doesCount_4 : decode cX1_doesCount 4 = .ok (.iload_n 1, 1) := by decide +kernel
theorem dX1_doesCount_5 : decode cX1_doesCount 5 = .ok (.iaload, 1) := by decide +kernel
theorem dX1_doesCount_6 : decode cX1_doesCount 6 = .ok (.aload_n 0, 1) := by decide +kernel
theorem dX1_doesCount_7 : decode cX1_doesCount 7 = .ok (.getfield 32, 3) := by decide +kernel
theorem dX1_doesCount_10 : decode cX1_doesCount 10 = .ok (.getfield 108, 3) := by decide +kernel
theorem dX1_doesCount_13 : decode cX1_doesCount 13 = .ok (.if_icmp .lt 7, 3) := by decide +kernel
theorem dX1_doesCount_16 : decode cX1_doesCount 16 = .ok (.iconst 1, 1) := by decide +kernel
theorem dX1_doesCount_17 : decode cX1_doesCount 17 = .ok (.goto 4, 3) := by decide +kernel
theorem dX1_doesCount_20 : decode cX1_doesCount 20 = .ok (.iconst 0, 1) := by decide +kernel
theorem dX1_doesCount_21 : decode cX1_doesCount 21 = .ok (.ireturn, 1) := by decide +kernel
theorem dX1_costOnDay_0 : decode cX1_costOnDay 0 = .ok (.aload_n 0, 1) := by decide +kernel
theorem dX1_costOnDay_1 : decode cX1_costOnDay 1 = .ok (.getfield 28, 3) := by decide +kernel
theorem dX1_costOnDay_4 : decode cX1_costOnDay 4 = .ok (.iload_n 1, 1) := by decide +kernel
theorem dX1_costOnDay_5 : decode cX1_costOnDay 5 = .ok (.iload_n 2, 1) := by decide +kernel
theorem dX1_costOnDay_6 : decode cX1_costOnDay 6 = .ok (.iload_n 3, 1) := by decide +kernel
theorem dX1_costOnDay_7 : decode cX1_costOnDay 7 = .ok (.invokevirtual 111, 3) := by decide +kernel
theorem dX1_costOnDay_10 : decode cX1_costOnDay 10 = .ok (.istore 4, 2) := by decide +kernel
theorem dX1_costOnDay_12 : decode cX1_costOnDay 12 = .ok (.iload 4, 2) := by decide +kernel
theorem dX1_costOnDay_14 : decode cX1_costOnDay 14 = .ok (.iconst (-1), 1) := by decide +kernel
theorem dX1_costOnDay_15 : decode cX1_costOnDay 15 = .ok (.if_icmp .ne 16, 3) := by decide +kernel
theorem dX1_costOnDay_18 : decode cX1_costOnDay 18 = .ok (.aload_n 0, 1) := by decide +kernel
theorem dX1_costOnDay_19 : decode cX1_costOnDay 19 = .ok (.getfield 32, 3) := by decide +kernel
theorem dX1_costOnDay_22 : decode cX1_costOnDay 22 = .ok (.invokevirtual 98, 3) := by decide +kernel
theorem dX1_costOnDay_25 : decode cX1_costOnDay 25 = .ok (.ifCond .eq 6, 3) := by decide +kernel
theorem dX1_costOnDay_28 : decode cX1_costOnDay 28 = .ok (.iconst 5, 1) := by decide +kernel
theorem dX1_costOnDay_29 : decode cX1_costOnDay 29 = .ok (.istore 4, 2) := by decide +kernel
theorem dX1_costOnDay_31 : decode cX1_costOnDay 31 = .ok (.iload 4, 2) := by decide +kernel
theorem dX1_costOnDay_33 : decode cX1_costOnDay 33 = .ok (.iconst (-1), 1) := by decide +kernel
theorem dX1_costOnDay_34 : decode cX1_costOnDay 34 = .ok (.if_icmp .ne 7, 3) := by decide +kernel
theorem dX1_costOnDay_37 : decode cX1_costOnDay 37 = .ok (.iconst (-1), 1) := by decide +kernel
theorem dX1_costOnDay_38 : decode cX1_costOnDay 38 = .ok (.goto 24, 3) := by decide +kernel
theorem dX1_costOnDay_41 : decode cX1_costOnDay 41 = .ok (.aload_n 0, 1) := by decide +kernel
theorem dX1_costOnDay_42 : decode cX1_costOnDay 42 = .ok (.getfield 32, 3) := by decide +kernel
theorem dX1_costOnDay_45 : decode cX1_costOnDay 45 = .ok (.aload_n 0, 1) := by decide +kernel
theorem dX1_costOnDay_46 : decode cX1_costOnDay 46 = .ok (.getfield 28, 3) := by decide +kernel
theorem dX1_costOnDay_49 : decode cX1_costOnDay 49 = .ok (.getfield 48, 3) := by decide +kernel
theorem dX1_costOnDay_52 : decode cX1_costOnDay 52 = .ok (.iload_n 2, 1) := by decide +kernel
theorem dX1_costOnDay_53 : decode cX1_costOnDay 53 = .ok (.aaload, 1) := by decide +kernel
theorem dX1_costOnDay_54 : decode cX1_costOnDay 54 = .ok (.getfield 79, 3) := by decide +kernel
theorem dX1_costOnDay_57 : decode cX1_costOnDay 57 = .ok (.iload 4, 2) := by decide +kernel
theorem dX1_costOnDay_59 : decode cX1_costOnDay 59 = .ok (.invokevirtual 85, 3) := by decide +kernel
theorem dX1_costOnDay_62 : decode cX1_costOnDay 62 = .ok (.ireturn, 1) := by decide +kernel
theorem dX1_hasMean_0 : decode cX1_hasMean 0 = .ok (.aload_n 0, 1) := by decide +kernel
theorem dX1_hasMean_1 : decode cX1_hasMean 1 = .ok (.getfield 18, 3) := by decide +kernel
theorem dX1_hasMean_4 : decode cX1_hasMean 4 = .ok (.iload_n 1, 1) := by decide +kernel
theorem dX1_hasMean_5 : decode cX1_hasMean 5 = .ok (.iaload, 1) := by decide +kernel
theorem dX1_hasMean_6 : decode cX1_hasMean 6 = .ok (.ifCond .le 7, 3) := by decide +kernel
theorem dX1_hasMean_9 : decode cX1_hasMean 9 = .ok (.iconst 1, 1) := by decide +kernel
theorem dX1_hasMean_10 : decode cX1_hasMean 10 = .ok (.goto 4, 3) := by decide +kernel
theorem dX1_hasMean_13 : decode cX1_hasMean 13 = .ok (.iconst 0, 1) := by decide +kernel
theorem dX1_hasMean_14 : decode cX1_hasMean 14 = .ok (.ireturn, 1) := by decide +kernel
theorem dX1_meanAbove_0 : decode cX1_meanAbove 0 = .ok (.aload_n 0, 1) := by decide +kernel
theorem dX1_meanAbove_1 : decode cX1_meanAbove 1 = .ok (.getfield 21, 3) := by decide +kernel
theorem dX1_meanAbove_4 : decode cX1_meanAbove 4 = .ok (.iload_n 1, 1) := by decide +kernel
theorem dX1_meanAbove_5 : decode cX1_meanAbove 5 = .ok (.iaload, 1) := by decide +kernel
theorem dX1_meanAbove_6 : decode cX1_meanAbove 6 = .ok (.aload_n 0, 1) := by decide +kernel
theorem dX1_meanAbove_7 : decode cX1_meanAbove 7 = .ok (.getfield 21, 3) := by decide +kernel
theorem dX1_meanAbove_10 : decode cX1_meanAbove 10 = .ok (.iload_n 1, 1) := by decide +kernel
theorem dX1_meanAbove_11 : decode cX1_meanAbove 11 = .ok (.iaload, 1) := by decide +kernel
theorem dX1_meanAbove_12 : decode cX1_meanAbove 12 = .ok (.aload_n 0, 1) := by decide +kernel
theorem dX1_meanAbove_13 : decode cX1_meanAbove 13 = .ok (.getfield 18, 3) := by decide +kernel
theorem dX1_meanAbove_16 : decode cX1_meanAbove 16 = .ok (.iload_n 1, 1) := by decide +kernel
theorem dX1_meanAbove_17 : decode cX1_meanAbove 17 = .ok (.iaload, 1) := by decide +kernel
theorem dX1_meanAbove_18 : decode cX1_meanAbove 18 = .ok (.invokestatic 115, 3) := by decide +kernel
theorem dX1_meanAbove_21 : decode cX1_meanAbove 21 = .ok (.idiv, 1) := by decide +kernel
theorem dX1_meanAbove_22 : decode cX1_meanAbove 22 = .ok (.ireturn, 1) := by decide +kernel
theorem dX1_meanBelow_0 : decode cX1_meanBelow 0 = .ok (.aload_n 0, 1) := by decide +kernel
theorem dX1_meanBelow_1 : decode cX1_meanBelow 1 = .ok (.getfield 18, 3) := by decide +kernel
theorem dX1_meanBelow_4 : decode cX1_meanBelow 4 = .ok (.iload_n 1, 1) := by decide +kernel
theorem dX1_meanBelow_5 : decode cX1_meanBelow 5 = .ok (.iaload, 1) := by decide +kernel
theorem dX1_meanBelow_6 : decode cX1_meanBelow 6 = .ok (.aload_n 0, 1) := by decide +kernel
theorem dX1_meanBelow_7 : decode cX1_meanBelow 7 = .ok (.getfield 21, 3) := by decide +kernel
theorem dX1_meanBelow_10 : decode cX1_meanBelow 10 = .ok (.iload_n 1, 1) := by decide +kernel
theorem dX1_meanBelow_11 : decode cX1_meanBelow 11 = .ok (.iaload, 1) := by decide +kernel
theorem dX1_meanBelow_12 : decode cX1_meanBelow 12 = .ok (.aload_n 0, 1) := by decide +kernel
theorem dX1_meanBelow_13 : decode cX1_meanBelow 13 = .ok (.getfield 18, 3) := by decide +kernel
theorem dX1_meanBelow_16 : decode cX1_meanBelow 16 = .ok (.iload_n 1, 1) := by decide +kernel
theorem dX1_meanBelow_17 : decode cX1_meanBelow 17 = .ok (.iaload, 1) := by decide +kernel
theorem dX1_meanBelow_18 : decode cX1_meanBelow 18 = .ok (.invokestatic 115, 3) := by decide +kernel
theorem dX1_meanBelow_21 : decode cX1_meanBelow 21 = .ok (.idiv, 1) := by decide +kernel
theorem dX1_meanBelow_22 : decode cX1_meanBelow 22 = .ok (.ireturn, 1) := by decide +kernel
theorem dX1_greatestDivisor_0 : decode cX1_greatestDivisor 0 = .ok (.iload_n 0, 1) := by decide +kernel
theorem dX1_greatestDivisor_1 : decode cX1_greatestDivisor 1 = .ok (.istore_n 2, 1) := by decide +kernel
theorem dX1_greatestDivisor_2 : decode cX1_greatestDivisor 2 = .ok (.iload_n 1, 1) := by decide +kernel
theorem dX1_greatestDivisor_3 : decode cX1_greatestDivisor 3 = .ok (.istore_n 3, 1) := by decide +kernel
theorem dX1_greatestDivisor_4 : decode cX1_greatestDivisor 4 = .ok (.iconst 0, 1) := by decide +kernel
theorem dX1_greatestDivisor_5 : decode cX1_greatestDivisor 5 = .ok (.istore 4, 2) := by decide +kernel
theorem dX1_greatestDivisor_7 : decode cX1_greatestDivisor 7 = .ok (.iload 4, 2) := by decide +kernel
theorem dX1_greatestDivisor_9 : decode cX1_greatestDivisor 9 = .ok (.bipush 100, 2) := by decide +kernel
theorem dX1_greatestDivisor_11 : decode cX1_greatestDivisor 11 = .ok (.if_icmp .ge 23, 3) := by decide +kernel
theorem dX1_greatestDivisor_14 : decode cX1_greatestDivisor 14 = .ok (.iload_n 3, 1) := by decide +kernel
theorem dX1_greatestDivisor_15 : decode cX1_greatestDivisor 15 = .ok (.ifCond .le 19, 3) := by decide +kernel
theorem dX1_greatestDivisor_18 : decode cX1_greatestDivisor 18 = .ok (.iload_n 2, 1) := by decide +kernel
theorem dX1_greatestDivisor_19 : decode cX1_greatestDivisor 19 = .ok (.iload_n 3, 1) := by decide +kernel
theorem dX1_greatestDivisor_20 : decode cX1_greatestDivisor 20 = .ok (.irem, 1) := by decide +kernel
theorem dX1_greatestDivisor_21 : decode cX1_greatestDivisor 21 = .ok (.istore 5, 2) := by decide +kernel
theorem dX1_greatestDivisor_23 : decode cX1_greatestDivisor 23 = .ok (.iload_n 3, 1) := by decide +kernel
theorem dX1_greatestDivisor_24 : decode cX1_greatestDivisor 24 = .ok (.istore_n 2, 1) := by decide +kernel
theorem dX1_greatestDivisor_25 : decode cX1_greatestDivisor 25 = .ok (.iload 5, 2) := by decide +kernel
theorem dX1_greatestDivisor_27 : decode cX1_greatestDivisor 27 = .ok (.istore_n 3, 1) := by decide +kernel
theorem dX1_greatestDivisor_28 : decode cX1_greatestDivisor 28 = .ok (.iinc 4 1, 3) := by decide +kernel
theorem dX1_greatestDivisor_31 : decode cX1_greatestDivisor 31 = .ok (.goto (-24), 3) := by decide +kernel
theorem dX1_greatestDivisor_34 : decode cX1_greatestDivisor 34 = .ok (.iload_n 2, 1) := by decide +kernel
theorem dX1_greatestDivisor_35 : decode cX1_greatestDivisor 35 = .ok (.iconst 1, 1) := by decide +kernel
theorem dX1_greatestDivisor_36 : decode cX1_greatestDivisor 36 = .ok (.invokestatic 118, 3) := by decide +kernel
theorem dX1_greatestDivisor_39 : decode cX1_greatestDivisor 39 = .ok (.ireturn, 1) := by decide +kernel
theorem dX1_guessersWithMean_0 : decode cX1_guessersWithMean 0 = .ok (.iconst 0, 1) := by decide +kernel
theorem dX1_guessersWithMean_1 : decode cX1_guessersWithMean 1 = .ok (.istore_n 1, 1) := by decide +kernel
theorem dX1_guessersWithMean_2 : decode cX1_guessersWithMean 2 = .ok (.iconst 0, 1) := by decide +kernel
theorem dX1_guessersWithMean_3 : decode cX1_guessersWithMean 3 = .ok (.istore_n 2, 1) := by decide +kernel
theorem dX1_guessersWithMean_4 : decode cX1_guessersWithMean 4 = .ok (.iload_n 2, 1) := by decide +kernel
theorem dX1_guessersWithMean_5 : decode cX1_guessersWithMean 5 = .ok (.bipush 20, 2) := by decide +kernel
theorem dX1_guessersWithMean_7 : decode cX1_guessersWithMean 7 = .ok (.if_icmp .ge 20, 3) := by decide +kernel
theorem dX1_guessersWithMean_10 : decode cX1_guessersWithMean 10 = .ok (.aload_n 0, 1) := by decide +kernel
theorem dX1_guessersWithMean_11 : decode cX1_guessersWithMean 11 = .ok (.iload_n 2, 1) := by decide +kernel
theorem dX1_guessersWithMean_12 : decode cX1_guessersWithMean 12 = .ok (.invokevirtual 123, 3) := by decide +kernel
theorem dX1_guessersWithMean_15 : decode cX1_guessersWithMean 15 = .ok (.ifCond .eq 6, 3) := by decide +kernel
theorem dX1_guessersWithMean_18 : decode cX1_guessersWithMean 18 = .ok (.iinc 1 1, 3) := by decide +kernel
theorem dX1_guessersWithMean_21 : decode cX1_guessersWithMean 21 = .ok (.iinc 2 1, 3) := by decide +kernel
theorem dX1_guessersWithMean_24 : decode cX1_guessersWithMean 24 = .ok (.goto (-20), 3) := by decide +kernel
theorem dX1_guessersWithMean_27 : decode cX1_guessersWithMean 27 = .ok (.iload_n 1, 1) := by decide +kernel
theorem dX1_guessersWithMean_28 : decode cX1_guessersWithMean 28 = .ok (.ireturn, 1) := by decide +kernel
theorem dX1_guesserAtRank_0 : decode cX1_guesserAtRank 0 = .ok (.iconst 0, 1) := by decide +kernel
theorem dX1_guesserAtRank_1 : decode cX1_guesserAtRank 1 = .ok (.istore_n 2, 1) := by decide +kernel
theorem dX1_guesserAtRank_2 : decode cX1_guesserAtRank 2 = .ok (.iload_n 2, 1) := by decide +kernel
theorem dX1_guesserAtRank_3 : decode cX1_guesserAtRank 3 = .ok (.bipush 20, 2) := by decide +kernel
theorem dX1_guesserAtRank_5 : decode cX1_guesserAtRank 5 = .ok (.if_icmp .ge 28, 3) := by decide +kernel
theorem dX1_guesserAtRank_8 : decode cX1_guesserAtRank 8 = .ok (.aload_n 0, 1) := by decide +kernel
theorem dX1_guesserAtRank_9 : decode cX1_guesserAtRank 9 = .ok (.iload_n 2, 1) := by decide +kernel
theorem dX1_guesserAtRank_10 : decode cX1_guesserAtRank 10 = .ok (.invokevirtual 123, 3) := by decide +kernel
theorem dX1_guesserAtRank_13 : decode cX1_guesserAtRank 13 = .ok (.ifCond .eq 14, 3) := by decide +kernel
theorem dX1_guesserAtRank_16 : decode cX1_guesserAtRank 16 = .ok (.aload_n 0, 1) := by decide +kernel
theorem dX1_guesserAtRank_17 : decode cX1_guesserAtRank 17 = .ok (.iload_n 2, 1) := by decide +kernel
theorem dX1_guesserAtRank_18 : decode cX1_guesserAtRank 18 = .ok (.invokevirtual 126, 3) := by decide +kernel
theorem dX1_guesserAtRank_21 : decode cX1_guesserAtRank 21 = .ok (.iload_n 1, 1) := by decide +kernel
theorem dX1_guesserAtRank_22 : decode cX1_guesserAtRank 22 = .ok (.if_icmp .ne 5, 3) := by decide +kernel
theorem dX1_guesserAtRank_25 : decode cX1_guesserAtRank 25 = .ok (.iload_n 2, 1) := by decide +kernel
theorem dX1_guesserAtRank_26 : decode cX1_guesserAtRank 26 = .ok (.ireturn, 1) := by decide +kernel
theorem dX1_guesserAtRank_27 : decode cX1_guesserAtRank 27 = .ok (.iinc 2 1, 3) := by decide +kernel
theorem dX1_guesserAtRank_30 : decode cX1_guesserAtRank 30 = .ok (.goto (-28), 3) := by decide +kernel
theorem dX1_guesserAtRank_33 : decode cX1_guesserAtRank 33 = .ok (.iconst (-1), 1) := by decide +kernel
theorem dX1_guesserAtRank_34 : decode cX1_guesserAtRank 34 = .ok (.ireturn, 1) := by decide +kernel
theorem dX1_rankOf_0 : decode cX1_rankOf 0 = .ok (.iconst 0, 1) := by decide +kernel
theorem dX1_rankOf_1 : decode cX1_rankOf 1 = .ok (.istore_n 2, 1) := by decide +kernel
theorem dX1_rankOf_2 : decode cX1_rankOf 2 = .ok (.iconst 0, 1) := by decide +kernel
theorem dX1_rankOf_3 : decode cX1_rankOf 3 = .ok (.istore_n 3, 1) := by decide +kernel
theorem dX1_rankOf_4 : decode cX1_rankOf 4 = .ok (.iload_n 3, 1) := by decide +kernel
theorem dX1_rankOf_5 : decode cX1_rankOf 5 = .ok (.bipush 20, 2) := by decide +kernel
theorem dX1_rankOf_7 : decode cX1_rankOf 7 = .ok (.if_icmp .ge 29, 3) := by decide +kernel
theorem dX1_rankOf_10 : decode cX1_rankOf 10 = .ok (.aload_n 0, 1) := by decide +kernel
theorem dX1_rankOf_11 : decode cX1_rankOf 11 = .ok (.iload_n 3, 1) := by decide +kernel
theorem dX1_rankOf_12 : decode cX1_rankOf 12 = .ok (.invokevirtual 123, 3) := by decide +kernel
theorem dX1_rankOf_15 : decode cX1_rankOf 15 = .ok (.ifCond .eq 15, 3) := by decide +kernel
theorem dX1_rankOf_18 : decode cX1_rankOf 18 = .ok (.aload_n 0, 1) := by decide +kernel
theorem dX1_rankOf_19 : decode cX1_rankOf 19 = .ok (.iload_n 3, 1) := by decide +kernel
theorem dX1_rankOf_20 : decode cX1_rankOf 20 = .ok (.iload_n 1, 1) := by decide +kernel
theorem dX1_rankOf_21 : decode cX1_rankOf 21 = .ok (.invokevirtual 130, 3) := by decide +kernel
theorem dX1_rankOf_24 : decode cX1_rankOf 24 = .ok (.ifCond .eq 6, 3) := by decide +kernel
theorem dX1_rankOf_27 : decode cX1_rankOf 27 = .ok (.iinc 2 1, 3) := by decide +kernel
theorem dX1_rankOf_30 : decode cX1_rankOf 30 = .ok (.iinc 3 1, 3) := by decide +kernel
theorem dX1_rankOf_33 : decode cX1_rankOf 33 = .ok (.goto (-29), 3) := by decide +kernel
theorem dX1_rankOf_36 : decode cX1_rankOf 36 = .ok (.iload_n 2, 1) := by decide +kernel
theorem dX1_rankOf_37 : decode cX1_rankOf 37 = .ok (.ireturn, 1) := by decide +kernel
theorem dX1_isAhead_0 : decode cX1_isAhead 0 = .ok (.aload_n 0, 1) := by decide +kernel
theorem dX1_isAhead_1 : decode cX1_isAhead 1 = .ok (.getfield 21, 3) := by decide +kernel
theorem dX1_isAhead_4 : decode cX1_isAhead 4 = .ok (.iload_n 1, 1) := by decide +kernel
theorem dX1_isAhead_5 : decode cX1_isAhead 5 = .ok (.iaload, 1) := by decide +kernel
theorem dX1_isAhead_6 : decode cX1_isAhead 6 = .ok (.i2l, 1) := by decide +kernel
theorem dX1_isAhead_7 : decode cX1_isAhead 7 = .ok (.aload_n 0, 1) := by decide +kernel
theorem dX1_isAhead_8 : decode cX1_isAhead 8 = .ok (.getfield 18, 3) := by decide +kernel
theorem dX1_isAhead_11 : decode cX1_isAhead 11 = .ok (.iload_n 2, 1) := by decide +kernel
theorem dX1_isAhead_12 : decode cX1_isAhead 12 = .ok (.iaload, 1) := by decide +kernel
theorem dX1_isAhead_13 : decode cX1_isAhead 13 = .ok (.i2l, 1) := by decide +kernel
theorem dX1_isAhead_14 : decode cX1_isAhead 14 = .ok (.lmul, 1) := by decide +kernel
theorem dX1_isAhead_15 : decode cX1_isAhead 15 = .ok (.lstore_n 3, 1) := by decide +kernel
theorem dX1_isAhead_16 : decode cX1_isAhead 16 = .ok (.aload_n 0, 1) := by decide +kernel
theorem dX1_isAhead_17 : decode cX1_isAhead 17 = .ok (.getfield 21, 3) := by decide +kernel
theorem dX1_isAhead_20 : decode cX1_isAhead 20 = .ok (.iload_n 2, 1) := by decide +kernel
theorem dX1_isAhead_21 : decode cX1_isAhead 21 = .ok (.iaload, 1) := by decide +kernel
theorem dX1_isAhead_22 : decode cX1_isAhead 22 = .ok (.i2l, 1) := by decide +kernel
theorem dX1_isAhead_23 : decode cX1_isAhead 23 = .ok (.aload_n 0, 1) := by decide +kernel
theorem dX1_isAhead_24 : decode cX1_isAhead 24 = .ok (.getfield 18, 3) := by decide +kernel
theorem dX1_isAhead_27 : decode cX1_isAhead 27 = .ok (.iload_n 1, 1) := by decide +kernel
theorem dX1_isAhead_28 : decode cX1_isAhead 28 = .ok (.iaload, 1) := by decide +kernel
theorem dX1_isAhead_29 : decode cX1_isAhead 29 = .ok (.i2l, 1) := by decide +kernel
theorem dX1_isAhead_30 : decode cX1_isAhead 30 = .ok (.lmul, 1) := by decide +kernel
theorem dX1_isAhead_31 : decode cX1_isAhead 31 = .ok (.lstore 5, 2) := by decide +kernel
theorem dX1_isAhead_33 : decode cX1_isAhead 33 = .ok (.lload_n 3, 1) := by decide +kernel
theorem dX1_isAhead_34 : decode cX1_isAhead 34 = .ok (.lload 5, 2) := by decide +kernel
theorem dX1_isAhead_36 : decode cX1_isAhead 36 = .ok (.lcmp, 1) := by decide +kernel
theorem dX1_isAhead_37 : decode cX1_isAhead 37 = .ok (.ifCond .lt 15, 3) := by decide +kernel
theorem dX1_isAhead_40 : decode cX1_isAhead 40 = .ok (.lload_n 3, 1) := by decide +kernel
theorem dX1_isAhead_41 : decode cX1_isAhead 41 = .ok (.lload 5, 2) := by decide +kernel
theorem dX1_isAhead_43 : decode cX1_isAhead 43 = .ok (.lcmp, 1) := by decide +kernel
theorem dX1_isAhead_44 : decode cX1_isAhead 44 = .ok (.ifCond .ne 12, 3) := by decide +kernel
theorem dX1_isAhead_47 : decode cX1_isAhead 47 = .ok (.iload_n 1, 1) := by decide +kernel
theorem dX1_isAhead_48 : decode cX1_isAhead 48 = .ok (.iload_n 2, 1) := by decide +kernel
theorem dX1_isAhead_49 : decode cX1_isAhead 49 = .ok (.if_icmp .ge 7, 3) := by decide +kernel
theorem dX1_isAhead_52 : decode cX1_isAhead 52 = .ok (.iconst 1, 1) := by decide +kernel
theorem dX1_isAhead_53 : decode cX1_isAhead 53 = .ok (.goto 4, 3) := by decide +kernel
theorem dX1_isAhead_56 : decode cX1_isAhead 56 = .ok (.iconst 0, 1) := by decide +kernel
theorem dX1_isAhead_57 : decode cX1_isAhead 57 = .ok (.ireturn, 1) := by decide +kernel
theorem dX1_bestTenthToSay_0 : decode cX1_bestTenthToSay 0 = .ok (.iconst 0, 1) := by decide +kernel
theorem dX1_bestTenthToSay_1 : decode cX1_bestTenthToSay 1 = .ok (.istore_n 2, 1) := by decide +kernel
theorem dX1_bestTenthToSay_2 : decode cX1_bestTenthToSay 2 = .ok (.iconst 1, 1) := by decide +kernel
theorem dX1_bestTenthToSay_3 : decode cX1_bestTenthToSay 3 = .ok (.istore_n 3, 1) := by decide +kernel
theorem dX1_bestTenthToSay_4 : decode cX1_bestTenthToSay 4 = .ok (.iload_n 3, 1) := by decide +kernel
theorem dX1_bestTenthToSay_5 : decode cX1_bestTenthToSay 5 = .ok (.bipush 11, 2) := by decide +kernel
theorem dX1_bestTenthToSay_7 : decode cX1_bestTenthToSay 7 = .ok (.if_icmp .ge 26, 3) := by decide +kernel
theorem dX1_bestTenthToSay_10 : decode cX1_bestTenthToSay 10 = .ok (.aload_n 0, 1) := by decide +kernel
theorem dX1_bestTenthToSay_11 : decode cX1_bestTenthToSay 11 = .ok (.iload_n 1, 1) := by decide +kernel
theorem dX1_bestTenthToSay_12 : decode cX1_bestTenthToSay 12 = .ok (.iload_n 3, 1) := by decide +kernel
theorem dX1_bestTenthToSay_13 : decode cX1_bestTenthToSay 13 = .ok (.invokevirtual 134, 3) := by decide +kernel
theorem dX1_bestTenthToSay_16 : decode cX1_bestTenthToSay 16 = .ok (.aload_n 0, 1) := by decide +kernel
theorem dX1_bestTenthToSay_17 : decode cX1_bestTenthToSay 17 = .ok (.iload_n 1, 1) := by decide +kernel
theorem dX1_bestTenthToSay_18 : decode cX1_bestTenthToSay 18 = .ok (.iload_n 2, 1) := by decide +kernel
theorem dX1_bestTenthToSay_19 : decode cX1_bestTenthToSay 19 = .ok (.invokevirtual 134, 3) := by decide +kernel
theorem dX1_bestTenthToSay_22 : decode cX1_bestTenthToSay 22 = .ok (.if_icmp .ge 5, 3) := by decide +kernel
theorem dX1_bestTenthToSay_25 : decode cX1_bestTenthToSay 25 = .ok (.iload_n 3, 1) := by decide +kernel
theorem dX1_bestTenthToSay_26 : decode cX1_bestTenthToSay 26 = .ok (.istore_n 2, 1) := by decide +kernel
theorem dX1_bestTenthToSay_27 : decode cX1_bestTenthToSay 27 = .ok (.iinc 3 1, 3) := by decide +kernel
theorem dX1_bestTenthToSay_30 : decode cX1_bestTenthToSay 30 = .ok (.goto (-26), 3) := by decide +kernel
theorem dX1_bestTenthToSay_33 : decode cX1_bestTenthToSay 33 = .ok (.iload_n 2, 1) := by decide +kernel
theorem dX1_bestTenthToSay_34 : decode cX1_bestTenthToSay 34 = .ok (.ireturn, 1) := by decide +kernel
theorem dX1_leastDishonestBelief_0 : decode cX1_leastDishonestBelief 0 = .ok (.iconst 0, 1) := by decide +kernel
theorem dX1_leastDishonestBelief_1 : decode cX1_leastDishonestBelief 1 = .ok (.istore_n 1, 1) := by decide +kernel
theorem dX1_leastDishonestBelief_2 : decode cX1_leastDishonestBelief 2 = .ok (.iload_n 1, 1) := by decide +kernel
theorem dX1_leastDishonestBelief_3 : decode cX1_leastDishonestBelief 3 = .ok (.bipush 11, 2) := by decide +kernel
theorem dX1_leastDishonestBelief_5 : decode cX1_leastDishonestBelief 5 = .ok (.if_icmp .ge 19, 3) := by decide +kernel
theorem dX1_leastDishonestBelief_8 : decode cX1_leastDishonestBelief 8 = .ok (.aload_n 0, 1) := by decide +kernel
theorem dX1_leastDishonestBelief_9 : decode cX1_leastDishonestBelief 9 = .ok (.iload_n 1, 1) := by decide +kernel
theorem dX1_leastDishonestBelief_10 : decode cX1_leastDishonestBelief 10 = .ok (.invokevirtual 137, 3) := by decide +kernel
theorem dX1_leastDishonestBelief_13 : decode cX1_leastDishonestBelief 13 = .ok (.ifCond .ne 5, 3) := by decide +kernel
theorem dX1_leastDishonestBelief_16 : decode cX1_leastDishonestBelief 16 = .ok (.iload_n 1, 1) := by decide +kernel
theorem dX1_leastDishonestBelief_17 : decode cX1_leastDishonestBelief 17 = .ok (.ireturn, 1) := by decide +kernel
theorem dX1_leastDishonestBelief_18 : decode cX1_leastDishonestBelief 18 = .ok (.iinc 1 1, 3) := by decide +kernel
theorem dX1_leastDishonestBelief_21 : decode cX1_leastDishonestBelief 21 = .ok (.goto (-19), 3) := by decide +kernel
theorem dX1_leastDishonestBelief_24 : decode cX1_leastDishonestBelief 24 = .ok (.iconst (-1), 1) := by decide +kernel
theorem dX1_leastDishonestBelief_25 : decode cX1_leastDishonestBelief 25 = .ok (.ireturn, 1) := by decide +kernel
theorem dX1_paysAlone_0 : decode cX1_paysAlone 0 = .ok (.aload_n 0, 1) := by decide +kernel
theorem dX1_paysAlone_1 : decode cX1_paysAlone 1 = .ok (.iload_n 1, 1) := by decide +kernel
theorem dX1_paysAlone_2 : decode cX1_paysAlone 2 = .ok (.iload_n 1, 1) := by decide +kernel
theorem dX1_paysAlone_3 : decode cX1_paysAlone 3 = .ok (.invokevirtual 134, 3) := by decide +kernel
theorem dX1_paysAlone_6 : decode cX1_paysAlone 6 = .ok (.istore_n 2, 1) := by decide +kernel
theorem dX1_paysAlone_7 : decode cX1_paysAlone 7 = .ok (.iconst 0, 1) := by decide +kernel
theorem dX1_paysAlone_8 : decode cX1_paysAlone 8 = .ok (.istore_n 3, 1) := by decide +kernel
theorem dX1_paysAlone_9 : decode cX1_paysAlone 9 = .ok (.iload_n 3, 1) := by decide +kernel
theorem dX1_paysAlone_10 : decode cX1_paysAlone 10 = .ok (.bipush 11, 2) := by decide +kernel
theorem dX1_paysAlone_12 : decode cX1_paysAlone 12 = .ok (.if_icmp .ge 26, 3) := by decide +kernel
theorem dX1_paysAlone_15 : decode cX1_paysAlone 15 = .ok (.iload_n 3, 1) := by decide +kernel
theorem dX1_paysAlone_16 : decode cX1_paysAlone 16 = .ok (.iload_n 1, 1) := by decide +kernel
theorem dX1_paysAlone_17 : decode cX1_paysAlone 17 = .ok (.if_icmp .eq 15, 3) := by decide +kernel
theorem dX1_paysAlone_20 : decode cX1_paysAlone 20 = .ok (.aload_n 0, 1) := by decide +kernel
theorem dX1_paysAlone_21 : decode cX1_paysAlone 21 = .ok (.iload_n 1, 1) := by decide +kernel
theorem dX1_paysAlone_22 : decode cX1_paysAlone 22 = .ok (.iload_n 3, 1) := by decide +kernel
theorem dX1_paysAlone_23 : decode cX1_paysAlone 23 = .ok (.invokevirtual 134, 3) := by decide +kernel
theorem dX1_paysAlone_26 : decode cX1_paysAlone 26 = .ok (.iload_n 2, 1) := by decide +kernel
theorem dX1_paysAlone_27 : decode cX1_paysAlone 27 = .ok (.if_icmp .gt 5, 3) := by decide +kernel
theorem dX1_paysAlone_30 : decode cX1_paysAlone 30 = .ok (.iconst 0, 1) := by decide +kernel
theorem dX1_paysAlone_31 : decode cX1_paysAlone 31 = .ok (.ireturn, 1) := by decide +kernel
theorem dX1_paysAlone_32 : decode cX1_paysAlone 32 = .ok (.iinc 3 1, 3) := by decide +kernel
theorem dX1_paysAlone_35 : decode cX1_paysAlone 35 = .ok (.goto (-26), 3) := by decide +kernel
theorem dX1_paysAlone_38 : decode cX1_paysAlone 38 = .ok (.iconst 1, 1) := by decide +kernel
theorem dX1_paysAlone_39 : decode cX1_paysAlone 39 = .ok (.ireturn, 1) := by decide +kernel
theorem dX1_expectedCost_0 : decode cX1_expectedCost 0 = .ok (.iload_n 1, 1) := by decide +kernel
theorem dX1_expectedCost_1 : decode cX1_expectedCost 1 = .ok (.aload_n 0, 1) := by decide +kernel
theorem dX1_expectedCost_2 : decode cX1_expectedCost 2 = .ok (.getfield 32, 3) := by decide +kernel
theorem dX1_expectedCost_5 : decode cX1_expectedCost 5 = .ok (.getfield 140, 3) := by decide +kernel
theorem dX1_expectedCost_8 : decode cX1_expectedCost 8 = .ok (.iload_n 2, 1) := by decide +kernel
theorem dX1_expectedCost_9 : decode cX1_expectedCost 9 = .ok (.iaload, 1) := by decide +kernel
theorem dX1_expectedCost_10 : decode cX1_expectedCost 10 = .ok (.imul, 1) := by decide +kernel
theorem dX1_expectedCost_11 : decode cX1_expectedCost 11 = .ok (.bipush 10, 2) := by decide +kernel
theorem dX1_expectedCost_13 : decode cX1_expectedCost 13 = .ok (.iload_n 1, 1) := by decide +kernel
theorem dX1_expectedCost_14 : decode cX1_expectedCost 14 = .ok (.isub, 1) := by decide +kernel
theorem dX1_expectedCost_15 : decode cX1_expectedCost 15 = .ok (.aload_n 0, 1) := by decide +kernel
theorem dX1_expectedCost_16 : decode cX1_expectedCost 16 = .ok (.getfield 32, 3) := by decide +kernel
theorem dX1_expectedCost_19 : decode cX1_expectedCost 19 = .ok (.getfield 143, 3) := by decide +kernel
theorem dX1_expectedCost_22 : decode cX1_expectedCost 22 = .ok (.iload_n 2, 1) := by decide +kernel
theorem dX1_expectedCost_23 : decode cX1_expectedCost 23 = .ok (.iaload, 1) := by decide +kernel
theorem dX1_expectedCost_24 : decode cX1_expectedCost 24 = .ok (.imul, 1) := by decide +kernel
theorem dX1_expectedCost_25 : decode cX1_expectedCost 25 = .ok (.iadd, 1) := by decide +kernel
theorem dX1_expectedCost_26 : decode cX1_expectedCost 26 = .ok (.ireturn, 1) := by decide +kernel
theorem dX2_init_0 : decode cX2_init 0 = .ok (.aload_n 0, 1) := by decide +kernel
theorem dX2_init_1 : decode cX2_init 1 = .ok (.invokespecial 3, 3) := by decide +kernel
theorem dX2_init_4 : decode cX2_init 4 = .ok (.aload_n 0, 1) := by decide +kernel
theorem dX2_init_5 : decode cX2_init 5 = .ok (.sipush 400, 3) := by decide +kernel
theorem dX2_init_8 : decode cX2_init 8 = .ok (.newarray .int, 2) := by decide +kernel
theorem dX2_init_10 : decode cX2_init 10 = .ok (.putfield 9, 3) := by decide +kernel
theorem dX2_init_13 : decode cX2_init 13 = .ok (.aload_n 0, 1) := by decide +kernel
theorem dX2_init_14 : decode cX2_init 14 = .ok (.sipush 400, 3) := by decide +kernel
theorem dX2_init_17 : decode cX2_init 17 = .ok (.newarray .int, 2) := by decide +kernel
theorem dX2_init_19 : decode cX2_init 19 = .ok (.putfield 15, 3) := by decide +kernel
theorem dX2_init_22 : decode cX2_init 22 = .ok (.aload_n 0, 1) := by decide +kernel
theorem dX2_init_23 : decode cX2_init 23 = .ok (.sipush 1200, 3) := by decide +kernel
theorem dX2_init_26 : decode cX2_init 26 = .ok (.newarray .int, 2) := by decide +kernel
theorem dX2_init_28 : decode cX2_init 28 = .ok (.putfield 18, 3) := by decide +kernel
theorem dX2_init_31 : decode cX2_init 31 = .ok (.aload_n 0, 1) := by decide +kernel
theorem dX2_init_32 : decode cX2_init 32 = .ok (.bipush 20, 2) := by decide +kernel
theorem dX2_init_34 : decode cX2_init 34 = .ok (.newarray .int, 2) := by decide +kernel
theorem dX2_init_36 : decode cX2_init 36 = .ok (.putfield 21, 3) := by decide +kernel
theorem dX2_init_39 : decode cX2_init 39 = .ok (.aload_n 0, 1) := by decide +kernel
theorem dX2_init_40 : decode cX2_init 40 = .ok (.bipush 11, 2) := by decide +kernel
theorem dX2_init_42 : decode cX2_init 42 = .ok (.newarray .int, 2) := by decide +kernel
theorem dX2_init_44 : decode cX2_init 44 = .ok (.putfield 24, 3) := by decide +kernel
