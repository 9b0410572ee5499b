theorem dX4_choose_70 : decode cX4_choose 70 = .ok (.getfield 18, 3) := by decide +kernel
theorem dX4_choose_73 : decode cX4_choose 73 = .ok (.aload_n 0, 1) := by decide +kernel
theorem dX4_choose_74 : decode cX4_choose 74 = .ok (.getfield 41, 3) := by decide +kernel
theorem dX4_choose_77 : decode cX4_choose 77 = .ok (.iaload, 1) := by decide +kernel
theorem dX4_choose_78 : decode cX4_choose 78 = .ok (.iconst (-1), 1) := by decide +kernel
theorem dX4_choose_79 : decode cX4_choose 79 = .ok (.if_icmp .ne 5, 3) := by decide +kernel
theorem dX4_choose_82 : decode cX4_choose 82 = .ok (.iconst 0, 1) := by decide +kernel
theorem dX4_choose_83 : decode cX4_choose 83 = .ok (.ireturn, 1) := by decide +kernel
theorem dX4_choose_84 : decode cX4_choose 84 = .ok (.aload_n 0, 1) := by decide +kernel
theorem dX4_choose_85 : decode cX4_choose 85 = .ok (.dup, 1) := by decide +kernel
theorem dX4_choose_86 : decode cX4_choose 86 = .ok (.getfield 41, 3) := by decide +kernel
theorem dX4_choose_89 : decode cX4_choose 89 = .ok (.iconst 1, 1) := by decide +kernel
theorem dX4_choose_90 : decode cX4_choose 90 = .ok (.iadd, 1) := by decide +kernel
theorem dX4_choose_91 : decode cX4_choose 91 = .ok (.putfield 41, 3) := by decide +kernel
theorem dX4_choose_94 : decode cX4_choose 94 = .ok (.iinc 4 1, 3) := by decide +kernel
theorem dX4_choose_97 : decode cX4_choose 97 = .ok (.goto (-89), 3) := by decide +kernel
theorem dX4_choose_100 : decode cX4_choose 100 = .ok (.iconst 1, 1) := by decide +kernel
theorem dX4_choose_101 : decode cX4_choose 101 = .ok (.ireturn, 1) := by decide +kernel
theorem dX4_leastChange_0 : decode cX4_leastChange 0 = .ok (.aload_n 0, 1) := by decide +kernel
theorem dX4_leastChange_1 : decode cX4_leastChange 1 = .ok (.iconst 1, 1) := by decide +kernel
theorem dX4_leastChange_2 : decode cX4_leastChange 2 = .ok (.putfield 54, 3) := by decide +kernel
theorem dX4_leastChange_5 : decode cX4_leastChange 5 = .ok (.iconst 0, 1) := by decide +kernel
theorem dX4_leastChange_6 : decode cX4_leastChange 6 = .ok (.istore_n 1, 1) := by decide +kernel
theorem dX4_leastChange_7 : decode cX4_leastChange 7 = .ok (.iload_n 1, 1) := by decide +kernel
theorem dX4_leastChange_8 : decode cX4_leastChange 8 = .ok (.aload_n 0, 1) := by decide +kernel
theorem dX4_leastChange_9 : decode cX4_leastChange 9 = .ok (.getfield 41, 3) := by decide +kernel
theorem dX4_leastChange_12 : decode cX4_leastChange 12 = .ok (.if_icmp .ge 29, 3) := by decide +kernel
theorem dX4_leastChange_15 : decode cX4_leastChange 15 = .ok (.aload_n 0, 1) := by decide +kernel
theorem dX4_leastChange_16 : decode cX4_leastChange 16 = .ok (.dup, 1) := by decide +kernel
theorem dX4_leastChange_17 : decode cX4_leastChange 17 = .ok (.getfield 54, 3) := by decide +kernel
theorem dX4_leastChange_20 : decode cX4_leastChange 20 = .ok (.aload_n 0, 1) := by decide +kernel
theorem dX4_leastChange_21 : decode cX4_leastChange 21 = .ok (.getfield 18, 3) := by decide +kernel
theorem dX4_leastChange_24 : decode cX4_leastChange 24 = .ok (.iload_n 1, 1) := by decide +kernel
theorem dX4_leastChange_25 : decode cX4_leastChange 25 = .ok (.iaload, 1) := by decide +kernel
theorem dX4_leastChange_26 : decode cX4_leastChange 26 = .ok (.iconst 5, 1) := by decide +kernel
theorem dX4_leastChange_27 : decode cX4_leastChange 27 = .ok (.isub, 1) := by decide +kernel
theorem dX4_leastChange_28 : decode cX4_leastChange 28 = .ok (.invokestatic 57, 3) := by decide +kernel
theorem dX4_leastChange_31 : decode cX4_leastChange 31 = .ok (.iadd, 1) := by decide +kernel
theorem dX4_leastChange_32 : decode cX4_leastChange 32 = .ok (.putfield 54, 3) := by decide +kernel
theorem dX4_leastChange_35 : decode cX4_leastChange 35 = .ok (.iinc 1 1, 3) := by decide +kernel
theorem dX4_leastChange_38 : decode cX4_leastChange 38 = .ok (.goto (-31), 3) := by decide +kernel
theorem dX4_leastChange_41 : decode cX4_leastChange 41 = .ok (.aload_n 0, 1) := by decide +kernel
theorem dX4_leastChange_42 : decode cX4_leastChange 42 = .ok (.iconst 0, 1) := by decide +kernel
theorem dX4_leastChange_43 : decode cX4_leastChange 43 = .ok (.iconst 0, 1) := by decide +kernel
theorem dX4_leastChange_44 : decode cX4_leastChange 44 = .ok (.invokevirtual 63, 3) := by decide +kernel
theorem dX4_leastChange_47 : decode cX4_leastChange 47 = .ok (.aload_n 0, 1) := by decide +kernel
theorem dX4_leastChange_48 : decode cX4_leastChange 48 = .ok (.getfield 9, 3) := by decide +kernel
theorem dX4_leastChange_51 : decode cX4_leastChange 51 = .ok (.iconst (-1), 1) := by decide +kernel
theorem dX4_leastChange_52 : decode cX4_leastChange 52 = .ok (.invokestatic 35, 3) := by decide +kernel
theorem dX4_leastChange_55 : decode cX4_leastChange 55 = .ok (.iconst 0, 1) := by decide +kernel
theorem dX4_leastChange_56 : decode cX4_leastChange 56 = .ok (.istore_n 1, 1) := by decide +kernel
theorem dX4_leastChange_57 : decode cX4_leastChange 57 = .ok (.iload_n 1, 1) := by decide +kernel
theorem dX4_leastChange_58 : decode cX4_leastChange 58 = .ok (.aload_n 0, 1) := by decide +kernel
theorem dX4_leastChange_59 : decode cX4_leastChange 59 = .ok (.getfield 41, 3) := by decide +kernel
theorem dX4_leastChange_62 : decode cX4_leastChange 62 = .ok (.if_icmp .ge 26, 3) := by decide +kernel
theorem dX4_leastChange_65 : decode cX4_leastChange 65 = .ok (.aload_n 0, 1) := by decide +kernel
theorem dX4_leastChange_66 : decode cX4_leastChange 66 = .ok (.getfield 9, 3) := by decide +kernel
theorem dX4_leastChange_69 : decode cX4_leastChange 69 = .ok (.aload_n 0, 1) := by decide +kernel
theorem dX4_leastChange_70 : decode cX4_leastChange 70 = .ok (.getfield 15, 3) := by decide +kernel
theorem dX4_leastChange_73 : decode cX4_leastChange 73 = .ok (.iload_n 1, 1) := by decide +kernel
theorem dX4_leastChange_74 : decode cX4_leastChange 74 = .ok (.iaload, 1) := by decide +kernel
theorem dX4_leastChange_75 : decode cX4_leastChange 75 = .ok (.aload_n 0, 1) := by decide +kernel
theorem dX4_leastChange_76 : decode cX4_leastChange 76 = .ok (.getfield 24, 3) := by decide +kernel
theorem dX4_leastChange_79 : decode cX4_leastChange 79 = .ok (.iload_n 1, 1) := by decide +kernel
theorem dX4_leastChange_80 : decode cX4_leastChange 80 = .ok (.iaload, 1) := by decide +kernel
theorem dX4_leastChange_81 : decode cX4_leastChange 81 = .ok (.iastore, 1) := by decide +kernel
theorem dX4_leastChange_82 : decode cX4_leastChange 82 = .ok (.iinc 1 1, 3) := by decide +kernel
theorem dX4_leastChange_85 : decode cX4_leastChange 85 = .ok (.goto (-28), 3) := by decide +kernel
theorem dX4_leastChange_88 : decode cX4_leastChange 88 = .ok (.aload_n 0, 1) := by decide +kernel
theorem dX4_leastChange_89 : decode cX4_leastChange 89 = .ok (.getfield 54, 3) := by decide +kernel
theorem dX4_leastChange_92 : decode cX4_leastChange 92 = .ok (.ireturn, 1) := by decide +kernel
theorem dX4_tryTenths_0 : decode cX4_tryTenths 0 = .ok (.iload_n 2, 1) := by decide +kernel
theorem dX4_tryTenths_1 : decode cX4_tryTenths 1 = .ok (.aload_n 0, 1) := by decide +kernel
theorem dX4_tryTenths_2 : decode cX4_tryTenths 2 = .ok (.getfield 54, 3) := by decide +kernel
theorem dX4_tryTenths_5 : decode cX4_tryTenths 5 = .ok (.if_icmp .lt 4, 3) := by decide +kernel
theorem dX4_tryTenths_8 : decode cX4_tryTenths 8 = .ok (.return_, 1) := by decide +kernel
theorem dX4_tryTenths_9 : decode cX4_tryTenths 9 = .ok (.iload_n 1, 1) := by decide +kernel
theorem dX4_tryTenths_10 : decode cX4_tryTenths 10 = .ok (.aload_n 0, 1) := by decide +kernel
theorem dX4_tryTenths_11 : decode cX4_tryTenths 11 = .ok (.getfield 41, 3) := by decide +kernel
theorem dX4_tryTenths_14 : decode cX4_tryTenths 14 = .ok (.if_icmp .lt 23, 3) := by decide +kernel
theorem dX4_tryTenths_17 : decode cX4_tryTenths 17 = .ok (.aload_n 0, 1) := by decide +kernel
theorem dX4_tryTenths_18 : decode cX4_tryTenths 18 = .ok (.iload_n 2, 1) := by decide +kernel
theorem dX4_tryTenths_19 : decode cX4_tryTenths 19 = .ok (.putfield 54, 3) := by decide +kernel
theorem dX4_tryTenths_22 : decode cX4_tryTenths 22 = .ok (.aload_n 0, 1) := by decide +kernel
theorem dX4_tryTenths_23 : decode cX4_tryTenths 23 = .ok (.getfield 21, 3) := by decide +kernel
theorem dX4_tryTenths_26 : decode cX4_tryTenths 26 = .ok (.iconst 0, 1) := by decide +kernel
theorem dX4_tryTenths_27 : decode cX4_tryTenths 27 = .ok (.aload_n 0, 1) := by decide +kernel
theorem dX4_tryTenths_28 : decode cX4_tryTenths 28 = .ok (.getfield 24, 3) := by decide +kernel
theorem dX4_tryTenths_31 : decode cX4_tryTenths 31 = .ok (.iconst 0, 1) := by decide +kernel
theorem dX4_tryTenths_32 : decode cX4_tryTenths 32 = .ok (.iconst 4, 1) := by decide +kernel
theorem dX4_tryTenths_33 : decode cX4_tryTenths 33 = .ok (.invokestatic 67, 3) := by decide +kernel
theorem dX4_tryTenths_36 : decode cX4_tryTenths 36 = .ok (.return_, 1) := by decide +kernel
theorem dX4_tryTenths_37 : decode cX4_tryTenths 37 = .ok (.aload_n 0, 1) := by decide +kernel
theorem dX4_tryTenths_38 : decode cX4_tryTenths 38 = .ok (.iload_n 1, 1) := by decide +kernel
theorem dX4_tryTenths_39 : decode cX4_tryTenths 39 = .ok (.invokevirtual 73, 3) := by decide +kernel
theorem dX4_tryTenths_42 : decode cX4_tryTenths 42 = .ok (.istore_n 3, 1) := by decide +kernel
theorem dX4_tryTenths_43 : decode cX4_tryTenths 43 = .ok (.aload_n 0, 1) := by decide +kernel
theorem dX4_tryTenths_44 : decode cX4_tryTenths 44 = .ok (.iload_n 1, 1) := by decide +kernel
theorem dX4_tryTenths_45 : decode cX4_tryTenths 45 = .ok (.invokevirtual 76, 3) := by decide +kernel
theorem dX4_tryTenths_48 : decode cX4_tryTenths 48 = .ok (.istore 4, 2) := by decide +kernel
theorem dX4_tryTenths_50 : decode cX4_tryTenths 50 = .ok (.iload 4, 2) := by decide +kernel
theorem dX4_tryTenths_52 : decode cX4_tryTenths 52 = .ok (.iload_n 3, 1) := by decide +kernel
theorem dX4_tryTenths_53 : decode cX4_tryTenths 53 = .ok (.if_icmp .gt 38, 3) := by decide +kernel
theorem dX4_tryTenths_56 : decode cX4_tryTenths 56 = .ok (.aload_n 0, 1) := by decide +kernel
theorem dX4_tryTenths_57 : decode cX4_tryTenths 57 = .ok (.getfield 21, 3) := by decide +kernel
theorem dX4_tryTenths_60 : decode cX4_tryTenths 60 = .ok (.iload_n 1, 1) := by decide +kernel
theorem dX4_tryTenths_61 : decode cX4_tryTenths 61 = .ok (.iload 4, 2) := by decide +kernel
theorem dX4_tryTenths_63 : decode cX4_tryTenths 63 = .ok (.iastore, 1) := by decide +kernel
theorem dX4_tryTenths_64 : decode cX4_tryTenths 64 = .ok (.aload_n 0, 1) := by decide +kernel
theorem dX4_tryTenths_65 : decode cX4_tryTenths 65 = .ok (.iload_n 1, 1) := by decide +kernel
theorem dX4_tryTenths_66 : decode cX4_tryTenths 66 = .ok (.iconst 1, 1) := by decide +kernel
theorem dX4_tryTenths_67 : decode cX4_tryTenths 67 = .ok (.iadd, 1) := by decide +kernel
theorem dX4_tryTenths_68 : decode cX4_tryTenths 68 = .ok (.iload_n 2, 1) := by decide +kernel
theorem dX4_tryTenths_69 : decode cX4_tryTenths 69 = .ok (.iload 4, 2) := by decide +kernel
theorem dX4_tryTenths_71 : decode cX4_tryTenths 71 = .ok (.aload_n 0, 1) := by decide +kernel
theorem dX4_tryTenths_72 : decode cX4_tryTenths 72 = .ok (.getfield 18, 3) := by decide +kernel
theorem dX4_tryTenths_75 : decode cX4_tryTenths 75 = .ok (.iload_n 1, 1) := by decide +kernel
theorem dX4_tryTenths_76 : decode cX4_tryTenths 76 = .ok (.iaload, 1) := by decide +kernel
theorem dX4_tryTenths_77 : decode cX4_tryTenths 77 = .ok (.isub, 1) := by decide +kernel
theorem dX4_tryTenths_78 : decode cX4_tryTenths 78 = .ok (.invokestatic 57, 3) := by decide +kernel
theorem dX4_tryTenths_81 : decode cX4_tryTenths 81 = .ok (.iadd, 1) := by decide +kernel
theorem dX4_tryTenths_82 : decode cX4_tryTenths 82 = .ok (.invokevirtual 63, 3) := by decide +kernel
theorem dX4_tryTenths_85 : decode cX4_tryTenths 85 = .ok (.iinc 4 1, 3) := by decide +kernel
theorem dX4_tryTenths_88 : decode cX4_tryTenths 88 = .ok (.goto (-38), 3) := by decide +kernel
theorem dX4_tryTenths_91 : decode cX4_tryTenths 91 = .ok (.return_, 1) := by decide +kernel
theorem dX4_lowestFor_0 : decode cX4_lowestFor 0 = .ok (.iconst 0, 1) := by decide +kernel
theorem dX4_lowestFor_1 : decode cX4_lowestFor 1 = .ok (.istore_n 2, 1) := by decide +kernel
theorem dX4_lowestFor_2 : decode cX4_lowestFor 2 = .ok (.iconst 0, 1) := by decide +kernel
theorem dX4_lowestFor_3 : decode cX4_lowestFor 3 = .ok (.istore_n 3, 1) := by decide +kernel
theorem dX4_lowestFor_4 : decode cX4_lowestFor 4 = .ok (.iload_n 3, 1) := by decide +kernel
theorem dX4_lowestFor_5 : decode cX4_lowestFor 5 = .ok (.aload_n 0, 1) := by decide +kernel
theorem dX4_lowestFor_6 : decode cX4_lowestFor 6 = .ok (.getfield 31, 3) := by decide +kernel
theorem dX4_lowestFor_9 : decode cX4_lowestFor 9 = .ok (.getfield 79, 3) := by decide +kernel
theorem dX4_lowestFor_12 : decode cX4_lowestFor 12 = .ok (.if_icmp .ge 41, 3) := by decide +kernel
theorem dX4_lowestFor_15 : decode cX4_lowestFor 15 = .ok (.aload_n 0, 1) := by decide +kernel
theorem dX4_lowestFor_16 : decode cX4_lowestFor 16 = .ok (.iload_n 1, 1) := by decide +kernel
theorem dX4_lowestFor_17 : decode cX4_lowestFor 17 = .ok (.iload_n 3, 1) := by decide +kernel
theorem dX4_lowestFor_18 : decode cX4_lowestFor 18 = .ok (.invokevirtual 82, 3) := by decide +kernel
theorem dX4_lowestFor_21 : decode cX4_lowestFor 21 = .ok (.istore 4, 2) := by decide +kernel
theorem dX4_lowestFor_23 : decode cX4_lowestFor 23 = .ok (.iload 4, 2) := by decide +kernel
theorem dX4_lowestFor_25 : decode cX4_lowestFor 25 = .ok (.iconst (-1), 1) := by decide +kernel
theorem dX4_lowestFor_26 : decode cX4_lowestFor 26 = .ok (.if_icmp .eq 21, 3) := by decide +kernel
theorem dX4_lowestFor_29 : decode cX4_lowestFor 29 = .ok (.iload_n 2, 1) := by decide +kernel
theorem dX4_lowestFor_30 : decode cX4_lowestFor 30 = .ok (.aload_n 0, 1) := by decide +kernel
theorem dX4_lowestFor_31 : decode cX4_lowestFor 31 = .ok (.iload_n 3, 1) := by decide +kernel
theorem dX4_lowestFor_32 : decode cX4_lowestFor 32 = .ok (.iload_n 1, 1) := by decide +kernel
theorem dX4_lowestFor_33 : decode cX4_lowestFor 33 = .ok (.aload_n 0, 1) := by decide +kernel
theorem dX4_lowestFor_34 : decode cX4_lowestFor 34 = .ok (.getfield 21, 3) := by decide +kernel
theorem dX4_lowestFor_37 : decode cX4_lowestFor 37 = .ok (.iload 4, 2) := by decide +kernel
theorem dX4_lowestFor_39 : decode cX4_lowestFor 39 = .ok (.iaload, 1) := by decide +kernel
theorem dX4_lowestFor_40 : decode cX4_lowestFor 40 = .ok (.invokevirtual 86, 3) := by decide +kernel
theorem dX4_lowestFor_43 : decode cX4_lowestFor 43 = .ok (.invokestatic 89, 3) := by decide +kernel
theorem dX4_lowestFor_46 : decode cX4_lowestFor 46 = .ok (.istore_n 2, 1) := by decide +kernel
theorem dX4_lowestFor_47 : decode cX4_lowestFor 47 = .ok (.iinc 3 1, 3) := by decide +kernel
theorem dX4_lowestFor_50 : decode cX4_lowestFor 50 = .ok (.goto (-46), 3) := by decide +kernel
theorem dX4_lowestFor_53 : decode cX4_lowestFor 53 = .ok (.iload_n 2, 1) := by decide +kernel
theorem dX4_lowestFor_54 : decode cX4_lowestFor 54 = .ok (.ireturn, 1) := by decide +kernel
theorem dX4_lowestByTie_0 : decode cX4_lowestByTie 0 = .ok (.aload_n 0, 1) := by decide +kernel
theorem dX4_lowestByTie_1 : decode cX4_lowestByTie 1 = .ok (.getfield 31, 3) := by decide +kernel
theorem dX4_lowestByTie_4 : decode cX4_lowestByTie 4 = .ok (.getfield 92, 3) := by decide +kernel
theorem dX4_lowestByTie_7 : decode cX4_lowestByTie 7 = .ok (.iload_n 1, 1) := by decide +kernel
theorem dX4_lowestByTie_8 : decode cX4_lowestByTie 8 = .ok (.iaload, 1) := by decide +kernel
theorem dX4_lowestByTie_9 : decode cX4_lowestByTie 9 = .ok (.iconst 2, 1) := by decide +kernel
theorem dX4_lowestByTie_10 : decode cX4_lowestByTie 10 = .ok (.if_icmp .ne 8, 3) := by decide +kernel
theorem dX4_lowestByTie_13 : decode cX4_lowestByTie 13 = .ok (.bipush 10, 2) := by decide +kernel
theorem dX4_lowestByTie_15 : decode cX4_lowestByTie 15 = .ok (.iload_n 3, 1) := by decide +kernel
theorem dX4_lowestByTie_16 : decode cX4_lowestByTie 16 = .ok (.isub, 1) := by decide +kernel
theorem dX4_lowestByTie_17 : decode cX4_lowestByTie 17 = .ok (.ireturn, 1) := by decide +kernel
theorem dX4_lowestByTie_18 : decode cX4_lowestByTie 18 = .ok (.aload_n 0, 1) := by decide +kernel
theorem dX4_lowestByTie_19 : decode cX4_lowestByTie 19 = .ok (.getfield 31, 3) := by decide +kernel
theorem dX4_lowestByTie_22 : decode cX4_lowestByTie 22 = .ok (.getfield 92, 3) := by decide +kernel
theorem dX4_lowestByTie_25 : decode cX4_lowestByTie 25 = .ok (.iload_n 1, 1) := by decide +kernel
theorem dX4_lowestByTie_26 : decode cX4_lowestByTie 26 = .ok (.iaload, 1) := by decide +kernel
theorem dX4_lowestByTie_27 : decode cX4_lowestByTie 27 = .ok (.ifCond .ne 25, 3) := by decide +kernel
theorem dX4_lowestByTie_30 : decode cX4_lowestByTie 30 = .ok (.aload_n 0, 1) := by decide +kernel
theorem dX4_lowestByTie_31 : decode cX4_lowestByTie 31 = .ok (.getfield 31, 3) := by decide +kernel
theorem dX4_lowestByTie_34 : decode cX4_lowestByTie 34 = .ok (.getfield 95, 3) := by decide +kernel
theorem dX4_lowestByTie_37 : decode cX4_lowestByTie 37 = .ok (.iload_n 1, 1) := by decide +kernel
theorem dX4_lowestByTie_38 : decode cX4_lowestByTie 38 = .ok (.iaload, 1) := by decide +kernel
theorem dX4_lowestByTie_39 : decode cX4_lowestByTie 39 = .ok (.aload_n 0, 1) := by decide +kernel
theorem dX4_lowestByTie_40 : decode cX4_lowestByTie 40 = .ok (.getfield 15, 3) := by decide +kernel
theorem dX4_lowestByTie_43 : decode cX4_lowestByTie 43 = .ok (.iload_n 2, 1) := by decide +kernel
theorem dX4_lowestByTie_44 : decode cX4_lowestByTie 44 = .ok (.iaload, 1) := by decide +kernel
theorem dX4_lowestByTie_45 : decode cX4_lowestByTie 45 = .ok (.if_icmp .ne 7, 3) := by decide +kernel
theorem dX4_lowestByTie_48 : decode cX4_lowestByTie 48 = .ok (.iconst 1, 1) := by decide +kernel
theorem dX4_lowestByTie_49 : decode cX4_lowestByTie 49 = .ok (.goto 4, 3) := by decide +kernel
theorem dX4_lowestByTie_52 : decode cX4_lowestByTie 52 = .ok (.iconst 0, 1) := by decide +kernel
theorem dX4_lowestByTie_53 : decode cX4_lowestByTie 53 = .ok (.istore 4, 2) := by decide +kernel
theorem dX4_lowestByTie_55 : decode cX4_lowestByTie 55 = .ok (.iload 4, 2) := by decide +kernel
theorem dX4_lowestByTie_57 : decode cX4_lowestByTie 57 = .ok (.ifCond .eq 7, 3) := by decide +kernel
theorem dX4_lowestByTie_60 : decode cX4_lowestByTie 60 = .ok (.iload_n 3, 1) := by decide +kernel
theorem dX4_lowestByTie_61 : decode cX4_lowestByTie 61 = .ok (.goto 4, 3) := by decide +kernel
theorem dX4_lowestByTie_64 : decode cX4_lowestByTie 64 = .ok (.iconst 0, 1) := by decide +kernel
theorem dX4_lowestByTie_65 : decode cX4_lowestByTie 65 = .ok (.ireturn, 1) := by decide +kernel
theorem dX4_highestFor_0 : decode cX4_highestFor 0 = .ok (.bipush 10, 2) := by decide +kernel
theorem dX4_highestFor_2 : decode cX4_highestFor 2 = .ok (.istore_n 2, 1) := by decide +kernel
theorem dX4_highestFor_3 : decode cX4_highestFor 3 = .ok (.iconst 0, 1) := by decide +kernel
theorem dX4_highestFor_4 : decode cX4_highestFor 4 = .ok (.istore_n 3, 1) := by decide +kernel
theorem dX4_highestFor_5 : decode cX4_highestFor 5 = .ok (.iload_n 3, 1) := by decide +kernel
theorem dX4_highestFor_6 : decode cX4_highestFor 6 = .ok (.aload_n 0, 1) := by decide +kernel
theorem dX4_highestFor_7 : decode cX4_highestFor 7 = .ok (.getfield 31, 3) := by decide +kernel
theorem dX4_highestFor_10 : decode cX4_highestFor 10 = .ok (.getfield 79, 3) := by decide +kernel
theorem dX4_highestFor_13 : decode cX4_highestFor 13 = .ok (.if_icmp .ge 41, 3) := by decide +kernel
theorem dX4_highestFor_16 : decode cX4_highestFor 16 = .ok (.aload_n 0, 1) := by decide +kernel
theorem dX4_highestFor_17 : decode cX4_highestFor 17 = .ok (.iload_n 1, 1) := by decide +kernel
theorem dX4_highestFor_18 : decode cX4_highestFor 18 = .ok (.iload_n 3, 1) := by decide +kernel
theorem dX4_highestFor_19 : decode cX4_highestFor 19 = .ok (.invokevirtual 82, 3) := by decide +kernel
theorem dX4_highestFor_22 : decode cX4_highestFor 22 = .ok (.istore 4, 2) := by decide +kernel
theorem dX4_highestFor_24 : decode cX4_highestFor 24 = .ok (.iload 4, 2) := by decide +kernel
theorem dX4_highestFor_26 : decode cX4_highestFor 26 = .ok (.iconst (-1), 1) := by decide +kernel
theorem dX4_highestFor_27 : decode cX4_highestFor 27 = .ok (.if_icmp .eq 21, 3) := by decide +kernel
theorem dX4_highestFor_30 : decode cX4_highestFor 30 = .ok (.iload_n 2, 1) := by decide +kernel
theorem dX4_highestFor_31 : decode cX4_highestFor 31 = .ok (.aload_n 0, 1) := by decide +kernel
theorem dX4_highestFor_32 : decode cX4_highestFor 32 = .ok (.iload_n 3, 1) := by decide +kernel
theorem dX4_highestFor_33 : decode cX4_highestFor 33 = .ok (.iload_n 1, 1) := by decide +kernel
theorem dX4_highestFor_34 : decode cX4_highestFor 34 = .ok (.aload_n 0, 1) := by decide +kernel
theorem dX4_highestFor_35 : decode cX4_highestFor 35 = .ok (.getfield 21, 3) := by decide +kernel
theorem dX4_highestFor_38 : decode cX4_highestFor 38 = .ok (.iload 4, 2) := by decide +kernel
theorem dX4_highestFor_40 : decode cX4_highestFor 40 = .ok (.iaload, 1) := by decide +kernel
theorem dX4_highestFor_41 : decode cX4_highestFor 41 = .ok (.invokevirtual 98, 3) := by decide +kernel
theorem dX4_highestFor_44 : decode cX4_highestFor 44 = .ok (.invokestatic 101, 3) := by decide +kernel
theorem dX4_highestFor_47 : decode cX4_highestFor 47 = .ok (.istore_n 2, 1) := by decide +kernel
theorem dX4_highestFor_48 : decode cX4_highestFor 48 = .ok (.iinc 3 1, 3) := by decide +kernel
theorem dX4_highestFor_51 : decode cX4_highestFor 51 = .ok (.goto (-46), 3) := by decide +kernel
theorem dX4_highestFor_54 : decode cX4_highestFor 54 = .ok (.iload_n 2, 1) := by decide +kernel
theorem dX4_highestFor_55 : decode cX4_highestFor 55 = .ok (.ireturn, 1) := by decide +kernel
theorem dX4_highestByTie_0 : decode cX4_highestByTie 0 = .ok (.aload_n 0, 1) := by decide +kernel
theorem dX4_highestByTie_1 : decode cX4_highestByTie 1 = .ok (.getfield 31, 3) := by decide +kernel
theorem dX4_highestByTie_4 : decode cX4_highestByTie 4 = .ok (.getfield 92, 3) := by decide +kernel
theorem dX4_highestByTie_7 : decode cX4_highestByTie 7 = .ok (.iload_n 1, 1) := by decide +kernel
theorem dX4_highestByTie_8 : decode cX4_highestByTie 8 = .ok (.iaload, 1) := by decide +kernel
theorem dX4_highestByTie_9 : decode cX4_highestByTie 9 = .ok (.iconst 1, 1) := by decide +kernel
theorem dX4_highestByTie_10 : decode cX4_highestByTie 10 = .ok (.if_icmp .ne 8, 3) := by decide +kernel
theorem dX4_highestByTie_13 : decode cX4_highestByTie 13 = .ok (.bipush 10, 2) := by decide +kernel
theorem dX4_highestByTie_15 : decode cX4_highestByTie 15 = .ok (.iload_n 3, 1) := by decide +kernel
theorem dX4_highestByTie_16 : decode cX4_highestByTie 16 = .ok (.isub, 1) := by decide +kernel
theorem dX4_highestByTie_17 : decode cX4_highestByTie 17 = .ok (.ireturn, 1) := by decide +kernel
theorem dX4_highestByTie_18 : decode cX4_highestByTie 18 = .ok (.aload_n 0, 1) := by decide +kernel
theorem dX4_highestByTie_19 : decode cX4_highestByTie 19 = .ok (.getfield 31, 3) := by decide +kernel
theorem dX4_highestByTie_22 : decode cX4_highestByTie 22 = .ok (.getfield 92, 3) := by decide +kernel
theorem dX4_highestByTie_25 : decode cX4_highestByTie 25 = .ok (.iload_n 1, 1) := by decide +kernel
theorem dX4_highestByTie_26 : decode cX4_highestByTie 26 = .ok (.iaload, 1) := by decide +kernel
theorem dX4_highestByTie_27 : decode cX4_highestByTie 27 = .ok (.ifCond .ne 25, 3) := by decide +kernel
theorem dX4_highestByTie_30 : decode cX4_highestByTie 30 = .ok (.aload_n 0, 1) := by decide +kernel
theorem dX4_highestByTie_31 : decode cX4_highestByTie 31 = .ok (.getfield 31, 3) := by decide +kernel
theorem dX4_highestByTie_34 : decode cX4_highestByTie 34 = .ok (.getfield 104, 3) := by decide +kernel
theorem dX4_highestByTie_37 : decode cX4_highestByTie 37 = .ok (.iload_n 1, 1) := by decide +kernel
theorem dX4_highestByTie_38 : decode cX4_highestByTie 38 = .ok (.iaload, 1) := by decide +kernel
theorem dX4_highestByTie_39 : decode cX4_highestByTie 39 = .ok (.aload_n 0, 1) := by decide +kernel
theorem dX4_highestByTie_40 : decode cX4_highestByTie 40 = .ok (.getfield 15, 3) := by decide +kernel
theorem dX4_highestByTie_43 : decode cX4_highestByTie 43 = .ok (.iload_n 2, 1) := by decide +kernel
theorem dX4_highestByTie_44 : decode cX4_highestByTie 44 = .ok (.iaload, 1) := by decide +kernel
theorem dX4_highestByTie_45 : decode cX4_highestByTie 45 = .ok (.if_icmp .ne 7, 3) := by decide +kernel
theorem dX4_highestByTie_48 : decode cX4_highestByTie 48 = .ok (.iconst 1, 1) := by decide +kernel
theorem dX4_highestByTie_49 : decode cX4_highestByTie 49 = .ok (.goto 4, 3) := by decide +kernel
theorem dX4_highestByTie_52 : decode cX4_highestByTie 52 = .ok (.iconst 0, 1) := by decide +kernel
theorem dX4_highestByTie_53 : decode cX4_highestByTie 53 = .ok (.istore 4, 2) := by decide +kernel
theorem dX4_highestByTie_55 : decode cX4_highestByTie 55 = .ok (.iload 4, 2) := by decide +kernel
theorem dX4_highestByTie_57 : decode cX4_highestByTie 57 = .ok (.ifCond .eq 7, 3) := by decide +kernel
theorem dX4_highestByTie_60 : decode cX4_highestByTie 60 = .ok (.iload_n 3, 1) := by decide +kernel
theorem dX4_highestByTie_61 : decode cX4_highestByTie 61 = .ok (.goto 5, 3) := by decide +kernel
theorem dX4_highestByTie_64 : decode cX4_highestByTie 64 = .ok (.bipush 10, 2) := by decide +kernel
theorem dX4_highestByTie_66 : decode cX4_highestByTie 66 = .ok (.ireturn, 1) := by decide +kernel
theorem dX4_placeTiedTo_0 : decode cX4_placeTiedTo 0 = .ok (.iconst 0, 1) := by decide +kernel
theorem dX4_placeTiedTo_1 : decode cX4_placeTiedTo 1 = .ok (.istore_n 3, 1) := by decide +kernel
theorem dX4_placeTiedTo_2 : decode cX4_placeTiedTo 2 = .ok (.iload_n 3, 1) := by decide +kernel
theorem dX4_placeTiedTo_3 : decode cX4_placeTiedTo 3 = .ok (.iload_n 1, 1) := by decide +kernel
theorem dX4_placeTiedTo_4 : decode cX4_placeTiedTo 4 = .ok (.if_icmp .ge 107, 3) := by decide +kernel
theorem dX4_placeTiedTo_7 : decode cX4_placeTiedTo 7 = .ok (.aload_n 0, 1) := by decide +kernel
theorem dX4_placeTiedTo_8 : decode cX4_placeTiedTo 8 = .ok (.getfield 31, 3) := by decide +kernel
theorem dX4_placeTiedTo_11 : decode cX4_placeTiedTo 11 = .ok (.getfield 104, 3) := by decide +kernel
theorem dX4_placeTiedTo_14 : decode cX4_placeTiedTo 14 = .ok (.iload_n 2, 1) := by decide +kernel
theorem dX4_placeTiedTo_15 : decode cX4_placeTiedTo 15 = .ok (.iaload, 1) := by decide +kernel
theorem dX4_placeTiedTo_16 : decode cX4_placeTiedTo 16 = .ok (.aload_n 0, 1) := by decide +kernel
theorem dX4_placeTiedTo_17 : decode cX4_placeTiedTo 17 = .ok (.getfield 15, 3) := by decide +kernel
theorem dX4_placeTiedTo_20 : decode cX4_placeTiedTo 20 = .ok (.iload_n 3, 1) := by decide +kernel
theorem dX4_placeTiedTo_21 : decode cX4_placeTiedTo 21 = .ok (.iaload, 1) := by decide +kernel
theorem dX4_placeTiedTo_22 : decode cX4_placeTiedTo 22 = .ok (.if_icmp .ne 25, 3) := by decide +kernel
theorem dX4_placeTiedTo_25 : decode cX4_placeTiedTo 25 = .ok (.aload_n 0, 1) := by decide +kernel
theorem dX4_placeTiedTo_26 : decode cX4_placeTiedTo 26 = .ok (.getfield 31, 3) := by decide +kernel
theorem dX4_placeTiedTo_29 : decode cX4_placeTiedTo 29 = .ok (.getfield 95, 3) := by decide +kernel
theorem dX4_placeTiedTo_32 : decode cX4_placeTiedTo 32 = .ok (.iload_n 2, 1) := by decide +kernel
theorem dX4_placeTiedTo_33 : decode cX4_placeTiedTo 33 = .ok (.iaload, 1) := by decide +kernel
theorem dX4_placeTiedTo_34 : decode cX4_placeTiedTo 34 = .ok (.aload_n 0, 1) := by decide +kernel
theorem dX4_placeTiedTo_35 : decode cX4_placeTiedTo 35 = .ok (.getfield 15, 3) := by decide +kernel
theorem dX4_placeTiedTo_38 : decode cX4_placeTiedTo 38 = .ok (.iload_n 1, 1) := by decide +kernel
theorem dX4_placeTiedTo_39 : decode cX4_placeTiedTo 39 = .ok (.iaload, 1) := by decide +kernel
theorem dX4_placeTiedTo_40 : decode cX4_placeTiedTo 40 = .ok (.if_icmp .ne 7, 3) := by decide +kernel
theorem dX4_placeTiedTo_43 : decode cX4_placeTiedTo 43 = .ok (.iconst 1, 1) := by decide +kernel
theorem dX4_placeTiedTo_44 : decode cX4_placeTiedTo 44 = .ok (.goto 4, 3) := by decide +kernel
theorem dX4_placeTiedTo_47 : decode cX4_placeTiedTo 47 = .ok (.iconst 0, 1) := by decide +kernel
theorem dX4_placeTiedTo_48 : decode cX4_placeTiedTo 48 = .ok (.istore 4, 2) := by decide +kernel
theorem dX4_placeTiedTo_50 : decode cX4_placeTiedTo 50 = .ok (.aload_n 0, 1) := by decide +kernel
theorem dX4_placeTiedTo_51 : decode cX4_placeTiedTo 51 = .ok (.getfield 31, 3) := by decide +kernel
theorem dX4_placeTiedTo_54 : decode cX4_placeTiedTo 54 = .ok (.getfield 95, 3) := by decide +kernel
theorem dX4_placeTiedTo_57 : decode cX4_placeTiedTo 57 = .ok (.iload_n 2, 1) := by decide +kernel
theorem dX4_placeTiedTo_58 : decode cX4_placeTiedTo 58 = .ok (.iaload, 1) := by decide +kernel
theorem dX4_placeTiedTo_59 : decode cX4_placeTiedTo 59 = .ok (.aload_n 0, 1) := by decide +kernel
theorem dX4_placeTiedTo_60 : decode cX4_placeTiedTo 60 = .ok (.getfield 15, 3) := by decide +kernel
theorem dX4_placeTiedTo_63 : decode cX4_placeTiedTo 63 = .ok (.iload_n 3, 1) := by decide +kernel
theorem dX4_placeTiedTo_64 : decode cX4_placeTiedTo 64 = .ok (.iaload, 1) := by decide +kernel
theorem dX4_placeTiedTo_65 : decode cX4_placeTiedTo 65 = .ok (.if_icmp .ne 25, 3) := by decide +kernel
theorem dX4_placeTiedTo_68 : decode cX4_placeTiedTo 68 = .ok (.aload_n 0, 1) := by decide +kernel
theorem dX4_placeTiedTo_69 : decode cX4_placeTiedTo 69 = .ok (.getfield 31, 3) := by decide +kernel
theorem dX4_placeTiedTo_72 : decode cX4_placeTiedTo 72 = .ok (.getfield 104, 3) := by decide +kernel
theorem dX4_placeTiedTo_75 : decode cX4_placeTiedTo 75 = .ok (.iload_n 2, 1) := by decide +kernel
theorem dX4_placeTiedTo_76 : decode cX4_placeTiedTo 76 = .ok (.iaload, 1) := by decide +kernel
theorem dX4_placeTiedTo_77 : decode cX4_placeTiedTo 77 = .ok (.aload_n 0, 1) := by decide +kernel
theorem dX4_placeTiedTo_78 : decode cX4_placeTiedTo 78 = .ok (.getfield 15, 3) := by decide +kernel
theorem dX4_placeTiedTo_81 : decode cX4_placeTiedTo 81 = .ok (.iload_n 1, 1) := by decide +kernel
theorem dX4_placeTiedTo_82 : decode cX4_placeTiedTo 82 = .ok (.iaload, 1) := by decide +kernel
theorem dX4_placeTiedTo_83 : decode cX4_placeTiedTo 83 = .ok (.if_icmp .ne 7, 3) := by decide +kernel
theorem dX4_placeTiedTo_86 : decode cX4_placeTiedTo 86 = .ok (.iconst 1, 1) := by decide +kernel
theorem dX4_placeTiedTo_87 : decode cX4_placeTiedTo 87 = .ok (.goto 4, 3) := by decide +kernel
theorem dX4_placeTiedTo_90 : decode cX4_placeTiedTo 90 = .ok (.iconst 0, 1) := by decide +kernel
theorem dX4_placeTiedTo_91 : decode cX4_placeTiedTo 91 = .ok (.istore 5, 2) := by decide +kernel
theorem dX4_placeTiedTo_93 : decode cX4_placeTiedTo 93 = .ok (.iload 4, 2) := by decide +kernel
theorem dX4_placeTiedTo_95 : decode cX4_placeTiedTo 95 = .ok (.ifCond .ne 8, 3) := by decide +kernel
theorem dX4_placeTiedTo_98 : decode cX4_placeTiedTo 98 = .ok (.iload 5, 2) := by decide +kernel
theorem dX4_placeTiedTo_100 : decode cX4_placeTiedTo 100 = .ok (.ifCond .eq 5, 3) := by decide +kernel
theorem dX4_placeTiedTo_103 : decode cX4_placeTiedTo 103 = .ok (.iload_n 3, 1) := by decide +kernel
theorem dX4_placeTiedTo_104 : decode cX4_placeTiedTo 104 = .ok (.ireturn, 1) := by decide +kernel
theorem dX4_placeTiedTo_105 : decode cX4_placeTiedTo 105 = .ok (.iinc 3 1, 3) := by decide +kernel
theorem dX4_placeTiedTo_108 : decode cX4_placeTiedTo 108 = .ok (.goto (-106), 3) := by decide +kernel
theorem dX4_placeTiedTo_111 : decode cX4_placeTiedTo 111 = .ok (.iconst (-1), 1) := by decide +kernel
theorem dX4_placeTiedTo_112 : decode cX4_placeTiedTo 112 = .ok (.ireturn, 1) := by decide +kernel
theorem dX5_init_0 : decode cX5_init 0 = .ok (.aload_n 0, 1) := by decide +kernel
theorem dX5_init_1 : decode cX5_init 1 = .ok (.invokespecial 3, 3) := by decide +kernel
theorem dX5_init_4 : decode cX5_init 4 = .ok (.aload_n 0, 1) := by decide +kernel
theorem dX5_init_5 : decode cX5_init 5 = .ok (.iconst 3, 1) := by decide +kernel
theorem dX5_init_6 : decode cX5_init 6 = .ok (.putfield 9, 3) := by decide +kernel
theorem dX5_init_9 : decode cX5_init 9 = .ok (.aload_n 0, 1) := by decide +kernel
theorem dX5_init_10 : decode cX5_init 10 = .ok (.iconst (-1), 1) := by decide +kernel
theorem dX5_init_11 : decode cX5_init 11 = .ok (.putfield 15, 3) := by decide +kernel
theorem dX5_init_14 : decode cX5_init 14 = .ok (.return_, 1) := by decide +kernel
theorem dX5_isSettled_0 : decode cX5_isSettled 0 = .ok (.aload_n 0, 1) := by decide +kernel
theorem dX5_isSettled_1 : decode cX5_isSettled 1 = .ok (.getfield 9, 3) := by decide +kernel
theorem dX5_isSettled_4 : decode cX5_isSettled 4 = .ok (.ifCond .eq 11, 3) := by decide +kernel
theorem dX5_isSettled_7 : decode cX5_isSettled 7 = .ok (.aload_n 0, 1) := by decide +kernel
theorem dX5_isSettled_8 : decode cX5_isSettled 8 = .ok (.getfield 9, 3) := by decide +kernel
theorem dX5_isSettled_11 : decode cX5_isSettled 11 = .ok (.iconst 1, 1) := by decide +kernel
theorem dX5_isSettled_12 : decode cX5_isSettled 12 = .ok (.if_icmp .ne 7, 3) := by decide +kernel
theorem dX5_isSettled_15 : decode cX5_isSettled 15 = .ok (.iconst 1, 1) := by decide +kernel
theorem dX5_isSettled_16 : decode cX5_isSettled 16 = .ok (.goto 4, 3) := by decide +kernel
theorem dX5_isSettled_19 : decode cX5_isSettled 19 = .ok (.iconst 0, 1) := by decide +kernel
theorem dX5_isSettled_20 : decode cX5_isSettled 20 = .ok (.ireturn, 1) := by decide +kernel
theorem dX5_endOfRows_0 : decode cX5_endOfRows 0 = .ok (.aload_n 0, 1) := by decide +kernel
theorem dX5_endOfRows_1 : decode cX5_endOfRows 1 = .ok (.invokevirtual 18, 3) := by decide +kernel
theorem dX5_endOfRows_4 : decode cX5_endOfRows 4 = .ok (.ifCond .eq 19, 3) := by decide +kernel
theorem dX5_endOfRows_7 : decode cX5_endOfRows 7 = .ok (.aload_n 0, 1) := by decide +kernel
theorem dX5_endOfRows_8 : decode cX5_endOfRows 8 = .ok (.getfield 22, 3) := by decide +kernel
theorem dX5_endOfRows_11 : decode cX5_endOfRows 11 = .ok (.iconst 1, 1) := by decide +kernel
theorem dX5_endOfRows_12 : decode cX5_endOfRows 12 = .ok (.iadd, 1) := by decide +kernel
theorem dX5_endOfRows_13 : decode cX5_endOfRows 13 = .ok (.aload_n 0, 1) := by decide +kernel
theorem dX5_endOfRows_14 : decode cX5_endOfRows 14 = .ok (.getfield 15, 3) := by decide +kernel
theorem dX5_endOfRows_17 : decode cX5_endOfRows 17 = .ok (.invokestatic 25, 3) := by decide +kernel
theorem dX5_endOfRows_20 : decode cX5_endOfRows 20 = .ok (.goto 7, 3) := by decide +kernel
theorem dX5_endOfRows_23 : decode cX5_endOfRows 23 = .ok (.aload_n 0, 1) := by decide +kernel
theorem dX5_endOfRows_24 : decode cX5_endOfRows 24 = .ok (.getfield 31, 3) := by decide +kernel
theorem dX5_endOfRows_27 : decode cX5_endOfRows 27 = .ok (.ireturn, 1) := by decide +kernel
theorem dX6_init_0 : decode cX6_init 0 = .ok (.aload_n 0, 1) := by decide +kernel
theorem dX6_init_1 : decode cX6_init 1 = .ok (.invokespecial 3, 3) := by decide +kernel
theorem dX6_init_4 : decode cX6_init 4 = .ok (.aload_n 0, 1) := by decide +kernel
theorem dX6_init_5 : decode cX6_init 5 = .ok (.new 9, 3) := by decide +kernel
theorem dX6_init_8 : decode cX6_init 8 = .ok (.dup, 1) := by decide +kernel
theorem dX6_init_9 : decode cX6_init 9 = .ok (.invokespecial 11, 3) := by decide +kernel
theorem dX6_init_12 : decode cX6_init 12 = .ok (.putfield 12, 3) := by decide +kernel
theorem dX6_init_15 : decode cX6_init 15 = .ok (.aload_n 0, 1) := by decide +kernel
theorem dX6_init_16 : decode cX6_init 16 = .ok (.iconst (-1), 1) := by decide +kernel
theorem dX6_init_17 : decode cX6_init 17 = .ok (.putfield 18, 3) := by decide +kernel
theorem dX6_init_20 : decode cX6_init 20 = .ok (.aload_n 0, 1) := by decide +kernel
theorem dX6_init_21 : decode cX6_init 21 = .ok (.aload_n 1, 1) := by decide +kernel
theorem dX6_init_22 : decode cX6_init 22 = .ok (.putfield 22, 3) := by decide +kernel
theorem dX6_init_25 : decode cX6_init 25 = .ok (.return_, 1) := by decide +kernel
theorem dX6_readText_0 : decode cX6_readText 0 = .ok (.aload_n 0, 1) := by decide +kernel
theorem dX6_readText_1 : decode cX6_readText 1 = .ok (.invokevirtual 26, 3) := by decide +kernel
theorem dX6_readText_4 : decode cX6_readText 4 = .ok (.iconst 0, 1) := by decide +kernel
theorem dX6_readText_5 : decode cX6_readText 5 = .ok (.istore_n 1, 1) := by decide +kernel
theorem dX6_readText_6 : decode cX6_readText 6 = .ok (.iload_n 1, 1) := by decide +kernel
theorem dX6_readText_7 : decode cX6_readText 7 = .ok (.sipush 500, 3) := by decide +kernel
theorem dX6_readText_10 : decode cX6_readText 10 = .ok (.if_icmp .gt 24, 3) := by decide +kernel
theorem dX6_readText_13 : decode cX6_readText 13 = .ok (.aload_n 0, 1) := by decide +kernel
theorem dX6_readText_14 : decode cX6_readText 14 = .ok (.getfield 29, 3) := by decide +kernel
theorem dX6_readText_17 : decode cX6_readText 17 = .ok (.ifCond .ne 17, 3) := by decide +kernel
theorem dX6_readText_20 : decode cX6_readText 20 = .ok (.aload_n 0, 1) := by decide +kernel
theorem dX6_readText_21 : decode cX6_readText 21 = .ok (.invokevirtual 33, 3) := by decide +kernel
theorem dX6_readText_24 : decode cX6_readText 24 = .ok (.aload_n 0, 1) := by decide +kernel
theorem dX6_readText_25 : decode cX6_readText 25 = .ok (.invokevirtual 36, 3) := by decide +kernel
theorem dX6_readText_28 : decode cX6_readText 28 = .ok (.iinc 1 1, 3) := by decide +kernel
theorem dX6_readText_31 : decode cX6_readText 31 = .ok (.goto (-25), 3) := by decide +kernel
theorem dX6_readText_34 : decode cX6_readText 34 = .ok (.aload_n 0, 1) := by decide +kernel
theorem dX6_readText_35 : decode cX6_readText 35 = .ok (.getfield 39, 3) := by decide +kernel
theorem dX6_readText_38 : decode cX6_readText 38 = .ok (.ifCond .ne 10, 3) := by decide +kernel
theorem dX6_readText_41 : decode cX6_readText 41 = .ok (.aload_n 0, 1) := by decide +kernel
theorem dX6_readText_42 : decode cX6_readText 42 = .ok (.getfield 42, 3) := by decide +kernel
theorem dX6_readText_45 : decode cX6_readText 45 = .ok (.goto 4, 3) := by decide +kernel
theorem dX6_readText_48 : decode cX6_readText 48 = .ok (.iconst (-1), 1) := by decide +kernel
theorem dX6_readText_49 : decode cX6_readText 49 = .ok (.ireturn, 1) := by decide +kernel
theorem dX6_begin_0 : decode cX6_begin 0 = .ok (.aload_n 0, 1) := by decide +kernel
theorem dX6_begin_1 : decode cX6_begin 1 = .ok (.getfield 12, 3) := by decide +kernel
theorem dX6_begin_4 : decode cX6_begin 4 = .ok (.invokevirtual 45, 3) := by decide +kernel
theorem dX6_begin_7 : decode cX6_begin 7 = .ok (.aload_n 0, 1) := by decide +kernel
theorem dX6_begin_8 : decode cX6_begin 8 = .ok (.iconst 0, 1) := by decide +kernel
theorem dX6_begin_9 : decode cX6_begin 9 = .ok (.putfield 39, 3) := by decide +kernel
theorem dX6_begin_12 : decode cX6_begin 12 = .ok (.aload_n 0, 1) := by decide +kernel
theorem dX6_begin_13 : decode cX6_begin 13 = .ok (.iconst (-1), 1) := by decide +kernel
theorem dX6_begin_14 : decode cX6_begin 14 = .ok (.putfield 18, 3) := by decide +kernel
theorem dX6_begin_17 : decode cX6_begin 17 = .ok (.aload_n 0, 1) := by decide +kernel
theorem dX6_begin_18 : decode cX6_begin 18 = .ok (.iconst 0, 1) := by decide +kernel
theorem dX6_begin_19 : decode cX6_begin 19 = .ok (.putfield 48, 3) := by decide +kernel
theorem dX6_begin_22 : decode cX6_begin 22 = .ok (.aload_n 0, 1) := by decide +kernel
theorem dX6_begin_23 : decode cX6_begin 23 = .ok (.iconst (-1), 1) := by decide +kernel
theorem dX6_begin_24 : decode cX6_begin 24 = .ok (.putfield 51, 3) := by decide +kernel
theorem dX6_begin_27 : decode cX6_begin 27 = .ok (.aload_n 0, 1) := by decide +kernel
theorem dX6_begin_28 : decode cX6_begin 28 = .ok (.iconst 0, 1) := by decide +kernel
theorem dX6_begin_29 : decode cX6_begin 29 = .ok (.putfield 42, 3) := by decide +kernel
theorem dX6_begin_32 : decode cX6_begin 32 = .ok (.aload_n 0, 1) := by decide +kernel
theorem dX6_begin_33 : decode cX6_begin 33 = .ok (.iconst 0, 1) := by decide +kernel
theorem dX6_begin_34 : decode cX6_begin 34 = .ok (.putfield 54, 3) := by decide +kernel
theorem dX6_begin_37 : decode cX6_begin 37 = .ok (.aload_n 0, 1) := by decide +kernel
theorem dX6_begin_38 : decode cX6_begin 38 = .ok (.iconst 0, 1) := by decide +kernel
theorem dX6_begin_39 : decode cX6_begin 39 = .ok (.putfield 29, 3) := by decide +kernel
theorem dX6_begin_42 : decode cX6_begin 42 = .ok (.return_, 1) := by decide +kernel
theorem dX6_takeToken_0 : decode cX6_takeToken 0 = .ok (.aload_n 0, 1) := by decide +kernel
theorem dX6_takeToken_1 : decode cX6_takeToken 1 = .ok (.getfield 51, 3) := by decide +kernel
theorem dX6_takeToken_4 : decode cX6_takeToken 4 = .ok (.iconst (-1), 1) := by decide +kernel
theorem dX6_takeToken_5 : decode cX6_takeToken 5 = .ok (.if_icmp .ne 10, 3) := by decide +kernel
theorem dX6_takeToken_8 : decode cX6_takeToken 8 = .ok (.aload_n 0, 1) := by decide +kernel
theorem dX6_takeToken_9 : decode cX6_takeToken 9 = .ok (.invokevirtual 57, 3) := by decide +kernel
theorem dX6_takeToken_12 : decode cX6_takeToken 12 = .ok (.goto 65, 3) := by decide +kernel
theorem dX6_takeToken_15 : decode cX6_takeToken 15 = .ok (.aload_n 0, 1) := by decide +kernel
theorem dX6_takeToken_16 : decode cX6_takeToken 16 = .ok (.getfield 60, 3) := by decide +kernel
theorem dX6_takeToken_19 : decode cX6_takeToken 19 = .ok (.aload_n 0, 1) := by decide +kernel
theorem dX6_takeToken_20 : decode cX6_takeToken 20 = .ok (.getfield 51, 3) := by decide +kernel
theorem dX6_takeToken_23 : decode cX6_takeToken 23 = .ok (.invokestatic 63, 3) := by decide +kernel
theorem dX6_takeToken_26 : decode cX6_takeToken 26 = .ok (.if_icmp .ge 20, 3) := by decide +kernel
theorem dX6_takeToken_29 : decode cX6_takeToken 29 = .ok (.aload_n 0, 1) := by decide +kernel
theorem dX6_takeToken_30 : decode cX6_takeToken 30 = .ok (.invokevirtual 67, 3) := by decide +kernel
theorem dX6_takeToken_33 : decode cX6_takeToken 33 = .ok (.aload_n 0, 1) := by decide +kernel
theorem dX6_takeToken_34 : decode cX6_takeToken 34 = .ok (.dup, 1) := by decide +kernel
theorem dX6_takeToken_35 : decode cX6_takeToken 35 = .ok (.getfield 60, 3) := by decide +kernel
theorem dX6_takeToken_38 : decode cX6_takeToken 38 = .ok (.iconst 1, 1) := by decide +kernel
theorem dX6_takeToken_39 : decode cX6_takeToken 39 = .ok (.iadd, 1) := by decide +kernel
theorem dX6_takeToken_40 : decode cX6_takeToken 40 = .ok (.putfield 60, 3) := by decide +kernel
theorem dX6_takeToken_43 : decode cX6_takeToken 43 = .ok (.goto 34, 3) := by decide +kernel
theorem dX6_takeToken_46 : decode cX6_takeToken 46 = .ok (.aload_n 0, 1) := by decide +kernel
theorem dX6_takeToken_47 : decode cX6_takeToken 47 = .ok (.getfield 70, 3) := by decide +kernel
theorem dX6_takeToken_50 : decode cX6_takeToken 50 = .ok (.iconst 4, 1) := by decide +kernel
theorem dX6_takeToken_51 : decode cX6_takeToken 51 = .ok (.if_icmp .ne 21, 3) := by decide +kernel
theorem dX6_takeToken_54 : decode cX6_takeToken 54 = .ok (.aload_n 0, 1) := by decide +kernel
theorem dX6_takeToken_55 : decode cX6_takeToken 55 = .ok (.dup, 1) := by decide +kernel
theorem dX6_takeToken_56 : decode cX6_takeToken 56 = .ok (.getfield 42, 3) := by decide +kernel
theorem dX6_takeToken_59 : decode cX6_takeToken 59 = .ok (.iconst 1, 1) := by decide +kernel
theorem dX6_takeToken_60 : decode cX6_takeToken 60 = .ok (.iadd, 1) := by decide +kernel
theorem dX6_takeToken_61 : decode cX6_takeToken 61 = .ok (.putfield 42, 3) := by decide +kernel
theorem dX6_takeToken_64 : decode cX6_takeToken 64 = .ok (.aload_n 0, 1) := by decide +kernel
theorem dX6_takeToken_65 : decode cX6_takeToken 65 = .ok (.iconst (-1), 1) := by decide +kernel
theorem dX6_takeToken_66 : decode cX6_takeToken 66 = .ok (.putfield 51, 3) := by decide +kernel
theorem dX6_takeToken_69 : decode cX6_takeToken 69 = .ok (.goto 8, 3) := by decide +kernel
theorem dX6_takeToken_72 : decode cX6_takeToken 72 = .ok (.aload_n 0, 1) := by decide +kernel
theorem dX6_takeToken_73 : decode cX6_takeToken 73 = .ok (.iconst 1, 1) := by decide +kernel
theorem dX6_takeToken_74 : decode cX6_takeToken 74 = .ok (.invokevirtual 73, 3) := by decide +kernel
theorem dX6_takeToken_77 : decode cX6_takeToken 77 = .ok (.return_, 1) := by decide +kernel
theorem dX6_startLine_0 : decode cX6_startLine 0 = .ok (.aload_n 0, 1) := by decide +kernel
theorem dX6_startLine_1 : decode cX6_startLine 1 = .ok (.getfield 70, 3) := by decide +kernel
theorem dX6_startLine_4 : decode cX6_startLine 4 = .ok (.ifCond .ne 9, 3) := by decide +kernel
theorem dX6_startLine_7 : decode cX6_startLine 7 = .ok (.aload_n 0, 1) := by decide +kernel
theorem dX6_startLine_8 : decode cX6_startLine 8 = .ok (.iconst 1, 1) := by decide +kernel
theorem dX6_startLine_9 : decode cX6_startLine 9 = .ok (.putfield 29, 3) := by decide +kernel
theorem dX6_startLine_12 : decode cX6_startLine 12 = .ok (.return_, 1) := by decide +kernel
theorem dX6_startLine_13 : decode cX6_startLine 13 = .ok (.aload_n 0, 1) := by decide +kernel
theorem dX6_startLine_14 : decode cX6_startLine 14 = .ok (.invokevirtual 77, 3) := by decide +kernel
theorem dX6_startLine_17 : decode cX6_startLine 17 = .ok (.istore_n 1, 1) := by decide +kernel
theorem dX6_startLine_18 : decode cX6_startLine 18 = .ok (.iload_n 1, 1) := by decide +kernel
theorem dX6_startLine_19 : decode cX6_startLine 19 = .ok (.iconst (-1), 1) := by decide +kernel
theorem dX6_startLine_20 : decode cX6_startLine 20 = .ok (.if_icmp .ne 11, 3) := by decide +kernel
theorem dX6_startLine_23 : decode cX6_startLine 23 = .ok (.aload_n 0, 1) := by decide +kernel
theorem dX6_startLine_24 : decode cX6_startLine 24 = .ok (.iconst 1, 1) := by decide +kernel
theorem dX6_startLine_25 : decode cX6_startLine 25 = .ok (.invokevirtual 73, 3) := by decide +kernel
theorem dX6_startLine_28 : decode cX6_startLine 28 = .ok (.goto 45, 3) := by decide +kernel
theorem dX6_startLine_31 : decode cX6_startLine 31 = .ok (.aload_n 0, 1) := by decide +kernel
theorem dX6_startLine_32 : decode cX6_startLine 32 = .ok (.getfield 54, 3) := by decide +kernel
theorem dX6_startLine_35 : decode cX6_startLine 35 = .ok (.iload_n 1, 1) := by decide +kernel
theorem dX6_startLine_36 : decode cX6_startLine 36 = .ok (.ishr, 1) := by decide +kernel
theorem dX6_startLine_37 : decode cX6_startLine 37 = .ok (.iconst 1, 1) := by decide +kernel
theorem dX6_startLine_38 : decode cX6_startLine 38 = .ok (.iand, 1) := by decide +kernel
theorem dX6_startLine_39 : decode cX6_startLine 39 = .ok (.iconst 1, 1) := by decide +kernel
theorem dX6_startLine_40 : decode cX6_startLine 40 = .ok (.if_icmp .ne 11, 3) := by decide +kernel
theorem dX6_startLine_43 : decode cX6_startLine 43 = .ok (.aload_n 0, 1) := by decide +kernel
theorem dX6_startLine_44 : decode cX6_startLine 44 = .ok (.iconst 3, 1) := by decide +kernel
theorem dX6_startLine_45 : decode cX6_startLine 45 = .ok (.invokevirtual 73, 3) := by decide +kernel
theorem dX6_startLine_48 : decode cX6_startLine 48 = .ok (.goto 25, 3) := by decide +kernel
theorem dX6_startLine_51 : decode cX6_startLine 51 = .ok (.aload_n 0, 1) := by decide +kernel
theorem dX6_startLine_52 : decode cX6_startLine 52 = .ok (.dup, 1) := by decide +kernel
theorem dX6_startLine_53 : decode cX6_startLine 53 = .ok (.getfield 54, 3) := by decide +kernel
theorem dX6_startLine_56 : decode cX6_startLine 56 = .ok (.iconst 1, 1) := by decide +kernel
theorem dX6_startLine_57 : decode cX6_startLine 57 = .ok (.iload_n 1, 1) := by decide +kernel
theorem dX6_startLine_58 : decode cX6_startLine 58 = .ok (.ishl, 1) := by decide +kernel
theorem dX6_startLine_59 : decode cX6_startLine 59 = .ok (.ior, 1) := by decide +kernel
theorem dX6_startLine_60 : decode cX6_startLine 60 = .ok (.putfield 54, 3) := by decide +kernel
theorem dX6_startLine_63 : decode cX6_startLine 63 = .ok (.aload_n 0, 1) := by decide +kernel
theorem dX6_startLine_64 : decode cX6_startLine 64 = .ok (.iload_n 1, 1) := by decide +kernel
theorem dX6_startLine_65 : decode cX6_startLine 65 = .ok (.putfield 51, 3) := by decide +kernel
theorem dX6_startLine_68 : decode cX6_startLine 68 = .ok (.aload_n 0, 1) := by decide +kernel
theorem dX6_startLine_69 : decode cX6_startLine 69 = .ok (.iconst 0, 1) := by decide +kernel
theorem dX6_startLine_70 : decode cX6_startLine 70 = .ok (.putfield 60, 3) := by decide +kernel
theorem dX6_startLine_73 : decode cX6_startLine 73 = .ok (.return_, 1) := by decide +kernel
theorem dX6_lineOfWord_0 : decode cX6_lineOfWord 0 = .ok (.aload_n 0, 1) := by decide +kernel
theorem dX6_lineOfWord_1 : decode cX6_lineOfWord 1 = .ok (.ldc 81, 2) := by decide +kernel
theorem dX6_lineOfWord_3 : decode cX6_lineOfWord 3 = .ok (.invokevirtual 83, 3) := by decide +kernel
theorem dX6_lineOfWord_6 : decode cX6_lineOfWord 6 = .ok (.ifCond .eq 5, 3) := by decide +kernel
theorem dX6_lineOfWord_9 : decode cX6_lineOfWord 9 = .ok (.iconst 0, 1) := by decide +kernel
theorem dX6_lineOfWord_10 : decode cX6_lineOfWord 10 = .ok (.ireturn, 1) := by decide +kernel
theorem dX6_lineOfWord_11 : decode cX6_lineOfWord 11 = .ok (.aload_n 0, 1) := by decide +kernel
theorem dX6_lineOfWord_12 : decode cX6_lineOfWord 12 = .ok (.ldc 87, 2) := by decide +kernel
theorem dX6_lineOfWord_14 : decode cX6_lineOfWord 14 = .ok (.invokevirtual 83, 3) := by decide +kernel
theorem dX6_lineOfWord_17 : decode cX6_lineOfWord 17 = .ok (.ifCond .eq 5, 3) := by decide +kernel
theorem dX6_lineOfWord_20 : decode cX6_lineOfWord 20 = .ok (.iconst 1, 1) := by decide +kernel
theorem dX6_lineOfWord_21 : decode cX6_lineOfWord 21 = .ok (.ireturn, 1) := by decide +kernel
theorem dX6_lineOfWord_22 : decode cX6_lineOfWord 22 = .ok (.aload_n 0, 1) := by decide +kernel
theorem dX6_lineOfWord_23 : decode cX6_lineOfWord 23 = .ok (.ldc 89, 2) := by decide +kernel
theorem dX6_lineOfWord_25 : decode cX6_lineOfWord 25 = .ok (.invokevirtual 83, 3) := by decide +kernel
theorem dX6_lineOfWord_28 : decode cX6_lineOfWord 28 = .ok (.ifCond .eq 5, 3) := by decide +kernel
theorem dX6_lineOfWord_31 : decode cX6_lineOfWord 31 = .ok (.iconst 2, 1) := by decide +kernel
theorem dX6_lineOfWord_32 : decode cX6_lineOfWord 32 = .ok (.ireturn, 1) := by decide +kernel
theorem dX6_lineOfWord_33 : decode cX6_lineOfWord 33 = .ok (.aload_n 0, 1) := by decide +kernel
theorem dX6_lineOfWord_34 : decode cX6_lineOfWord 34 = .ok (.ldc 91, 2) := by decide +kernel
theorem dX6_lineOfWord_36 : decode cX6_lineOfWord 36 = .ok (.invokevirtual 83, 3) := by decide +kernel
theorem dX6_lineOfWord_39 : decode cX6_lineOfWord 39 = .ok (.ifCond .eq 5, 3) := by decide +kernel
theorem dX6_lineOfWord_42 : decode cX6_lineOfWord 42 = .ok (.iconst 3, 1) := by decide +kernel
theorem dX6_lineOfWord_43 : decode cX6_lineOfWord 43 = .ok (.ireturn, 1) := by decide +kernel
theorem dX6_lineOfWord_44 : decode cX6_lineOfWord 44 = .ok (.aload_n 0, 1) := by decide +kernel
theorem dX6_lineOfWord_45 : decode cX6_lineOfWord 45 = .ok (.ldc 93, 2) := by decide +kernel
theorem dX6_lineOfWord_47 : decode cX6_lineOfWord 47 = .ok (.invokevirtual 83, 3) := by decide +kernel
theorem dX6_lineOfWord_50 : decode cX6_lineOfWord 50 = .ok (.ifCond .eq 5, 3) := by decide +kernel
theorem dX6_lineOfWord_53 : decode cX6_lineOfWord 53 = .ok (.iconst 4, 1) := by decide +kernel
theorem dX6_lineOfWord_54 : decode cX6_lineOfWord 54 = .ok (.ireturn, 1) := by decide +kernel
theorem dX6_lineOfWord_55 : decode cX6_lineOfWord 55 = .ok (.aload_n 0, 1) := by decide +kernel
theorem dX6_lineOfWord_56 : decode cX6_lineOfWord 56 = .ok (.ldc 95, 2) := by decide +kernel
theorem dX6_lineOfWord_58 : decode cX6_lineOfWord 58 = .ok (.invokevirtual 83, 3) := by decide +kernel
theorem dX6_lineOfWord_61 : decode cX6_lineOfWord 61 = .ok (.ifCond .eq 7, 3) := by decide +kernel
theorem dX6_lineOfWord_64 : decode cX6_lineOfWord 64 = .ok (.iconst 5, 1) := by decide +kernel
theorem dX6_lineOfWord_65 : decode cX6_lineOfWord 65 = .ok (.goto 4, 3) := by decide +kernel
theorem dX6_lineOfWord_68 : decode cX6_lineOfWord 68 = .ok (.iconst (-1), 1) := by decide +kernel
theorem dX6_lineOfWord_69 : decode cX6_lineOfWord 69 = .ok (.ireturn, 1) := by decide +kernel
theorem dX6_tokensBehind_0 : decode cX6_tokensBehind 0 = .ok (.iload_n 0, 1) := by decide +kernel
theorem dX6_tokensBehind_1 : decode cX6_tokensBehind 1 = .ok (.tableswitch 40 0 4 #[35, 35, 40, 40, 38], 35) := by decide +kernel
theorem dX6_tokensBehind_36 : decode cX6_tokensBehind 36 = .ok (.bipush 11, 2) := by decide +kernel
theorem dX6_tokensBehind_38 : decode cX6_tokensBehind 38 = .ok (.ireturn, 1) := by decide +kernel
theorem dX6_tokensBehind_39 : decode cX6_tokensBehind 39 = .ok (.iconst 2, 1) := by decide +kernel
theorem dX6_tokensBehind_40 : decode cX6_tokensBehind 40 = .ok (.ireturn, 1) := by decide +kernel
theorem dX6_tokensBehind_41 : decode cX6_tokensBehind 41 = .ok (.iconst 1, 1) := by decide +kernel
theorem dX6_tokensBehind_42 : decode cX6_tokensBehind 42 = .ok (.ireturn, 1) := by decide +kernel
theorem dX6_takeArgument_0 : decode cX6_takeArgument 0 = .ok (.aload_n 0, 1) := by decide +kernel
theorem dX6_takeArgument_1 : decode cX6_takeArgument 1 = .ok (.getfield 51, 3) := by decide +kernel
theorem dX6_takeArgument_4 : decode cX6_takeArgument 4 = .ok (.tableswitch 125 0 4 #[36, 59, 82, 100, 118], 36) := by decide +kernel
theorem dX6_takeArgument_40 : decode cX6_takeArgument 40 = .ok (.aload_n 0, 1) := by decide +kernel
theorem dX6_takeArgument_41 : decode cX6_takeArgument 41 = .ok (.getfield 12, 3) := by decide +kernel
theorem dX6_takeArgument_44 : decode cX6_takeArgument 44 = .ok (.getfield 97, 3) := by decide +kernel
theorem dX6_takeArgument_47 : decode cX6_takeArgument 47 = .ok (.aload_n 0, 1) := by decide +kernel
theorem dX6_takeArgument_48 : decode cX6_takeArgument 48 = .ok (.getfield 60, 3) := by decide +kernel
theorem dX6_takeArgument_51 : decode cX6_takeArgument 51 = .ok (.aload_n 0, 1) := by decide +kernel
theorem dX6_takeArgument_52 : decode cX6_takeArgument 52 = .ok (.iconst 0, 1) := by decide +kernel
theorem dX6_takeArgument_53 : decode cX6_takeArgument 53 = .ok (.sipush 1000, 3) := by decide +kernel
theorem dX6_takeArgument_56 : decode cX6_takeArgument 56 = .ok (.invokevirtual 100, 3) := by decide +kernel
theorem dX6_takeArgument_59 : decode cX6_takeArgument 59 = .ok (.iastore, 1) := by decide +kernel
theorem dX6_takeArgument_60 : decode cX6_takeArgument 60 = .ok (.goto 83, 3) := by decide +kernel
theorem dX6_takeArgument_63 : decode cX6_takeArgument 63 = .ok (.aload_n 0, 1) := by decide +kernel
theorem dX6_takeArgument_64 : decode cX6_takeArgument 64 = .ok (.getfield 12, 3) := by decide +kernel
theorem dX6_takeArgument_67 : decode cX6_takeArgument 67 = .ok (.getfield 104, 3) := by decide +kernel
theorem dX6_takeArgument_70 : decode cX6_takeArgument 70 = .ok (.aload_n 0, 1) := by decide +kernel
theorem dX6_takeArgument_71 : decode cX6_takeArgument 71 = .ok (.getfield 60, 3) := by decide +kernel
theorem dX6_takeArgument_74 : decode cX6_takeArgument 74 = .ok (.aload_n 0, 1) := by decide +kernel
theorem dX6_takeArgument_75 : decode cX6_takeArgument 75 = .ok (.iconst 0, 1) := by decide +kernel
theorem dX6_takeArgument_76 : decode cX6_takeArgument 76 = .ok (.sipush 1000, 3) := by decide +kernel
theorem dX6_takeArgument_79 : decode cX6_takeArgument 79 = .ok (.invokevirtual 100, 3) := by decide +kernel
theorem dX6_takeArgument_82 : decode cX6_takeArgument 82 = .ok (.iastore, 1) := by decide +kernel
theorem dX6_takeArgument_83 : decode cX6_takeArgument 83 = .ok (.goto 60, 3) := by decide +kernel
theorem dX6_takeArgument_86 : decode cX6_takeArgument 86 = .ok (.aload_n 0, 1) := by decide +kernel
theorem dX6_takeArgument_87 : decode cX6_takeArgument 87 = .ok (.getfield 12, 3) := by decide +kernel
theorem dX6_takeArgument_90 : decode cX6_takeArgument 90 = .ok (.aload_n 0, 1) := by decide +kernel
theorem dX6_takeArgument_91 : decode cX6_takeArgument 91 = .ok (.ldc 106, 2) := by decide +kernel
theorem dX6_takeArgument_93 : decode cX6_takeArgument 93 = .ok (.ldc 108, 2) := by decide +kernel
theorem dX6_takeArgument_95 : decode cX6_takeArgument 95 = .ok (.invokevirtual 110, 3) := by decide +kernel
theorem dX6_takeArgument_98 : decode cX6_takeArgument 98 = .ok (.putfield 114, 3) := by decide +kernel
theorem dX6_takeArgument_101 : decode cX6_takeArgument 101 = .ok (.goto 42, 3) := by decide +kernel
theorem dX6_takeArgument_104 : decode cX6_takeArgument 104 = .ok (.aload_n 0, 1) := by decide +kernel
theorem dX6_takeArgument_105 : decode cX6_takeArgument 105 = .ok (.getfield 12, 3) := by decide +kernel
theorem dX6_takeArgument_108 : decode cX6_takeArgument 108 = .ok (.aload_n 0, 1) := by decide +kernel
theorem dX6_takeArgument_109 : decode cX6_takeArgument 109 = .ok (.ldc 116, 2) := by decide +kernel
theorem dX6_takeArgument_111 : decode cX6_takeArgument 111 = .ok (.ldc 118, 2) := by decide +kernel
theorem dX6_takeArgument_113 : decode cX6_takeArgument 113 = .ok (.invokevirtual 110, 3) := by decide +kernel
theorem dX6_takeArgument_116 : decode cX6_takeArgument 116 = .ok (.putfield 120, 3) := by decide +kernel
theorem dX6_takeArgument_119 : decode cX6_takeArgument 119 = .ok (.goto 24, 3) := by decide +kernel
theorem dX6_takeArgument_122 : decode cX6_takeArgument 122 = .ok (.aload_n 0, 1) := by decide +kernel
theorem dX6_takeArgument_123 : decode cX6_takeArgument 123 = .ok (.invokevirtual 122, 3) := by decide +kernel
theorem dX6_takeArgument_126 : decode cX6_takeArgument 126 = .ok (.goto 17, 3) := by decide +kernel
theorem dX6_takeArgument_129 : decode cX6_takeArgument 129 = .ok (.aload_n 0, 1) := by decide +kernel
theorem dX6_takeArgument_130 : decode cX6_takeArgument 130 = .ok (.getfield 12, 3) := by decide +kernel
theorem dX6_takeArgument_133 : decode cX6_takeArgument 133 = .ok (.aload_n 0, 1) := by decide +kernel
theorem dX6_takeArgument_134 : decode cX6_takeArgument 134 = .ok (.iconst 1, 1) := by decide +kernel
theorem dX6_takeArgument_135 : decode cX6_takeArgument 135 = .ok (.bipush 99, 2) := by decide +kernel
theorem dX6_takeArgument_137 : decode cX6_takeArgument 137 = .ok (.invokevirtual 100, 3) := by decide +kernel
theorem dX6_takeArgument_140 : decode cX6_takeArgument 140 = .ok (.putfield 125, 3) := by decide +kernel
theorem dX6_takeArgument_143 : decode cX6_takeArgument 143 = .ok (.return_, 1) := by decide +kernel
theorem dX6_takeOfCopy_0 : decode cX6_takeOfCopy 0 = .ok (.aload_n 0, 1) := by decide +kernel
theorem dX6_takeOfCopy_1 : decode cX6_takeOfCopy 1 = .ok (.getfield 60, 3) := by decide +kernel
theorem dX6_takeOfCopy_4 : decode cX6_takeOfCopy 4 = .ok (.ifCond .ne 20, 3) := by decide +kernel
theorem dX6_takeOfCopy_7 : decode cX6_takeOfCopy 7 = .ok (.aload_n 0, 1) := by decide +kernel
theorem dX6_takeOfCopy_8 : decode cX6_takeOfCopy 8 = .ok (.getfield 12, 3) := by decide +kernel
theorem dX6_takeOfCopy_11 : decode cX6_takeOfCopy 11 = .ok (.aload_n 0, 1) := by decide +kernel
theorem dX6_takeOfCopy_12 : decode cX6_takeOfCopy 12 = .ok (.iconst 1, 1) := by decide +kernel
theorem dX6_takeOfCopy_13 : decode cX6_takeOfCopy 13 = .ok (.bipush 30, 2) := by decide +kernel
theorem dX6_takeOfCopy_15 : decode cX6_takeOfCopy 15 = .ok (.invokevirtual 100, 3) := by decide +kernel
theorem dX6_takeOfCopy_18 : decode cX6_takeOfCopy 18 = .ok (.putfield 127, 3) := by decide +kernel
theorem dX6_takeOfCopy_21 : decode cX6_takeOfCopy 21 = .ok (.goto 17, 3) := by decide +kernel
theorem dX6_takeOfCopy_24 : decode cX6_takeOfCopy 24 = .ok (.aload_n 0, 1) := by decide +kernel
theorem dX6_takeOfCopy_25 : decode cX6_takeOfCopy 25 = .ok (.getfield 12, 3) := by decide +kernel
theorem dX6_takeOfCopy_28 : decode cX6_takeOfCopy 28 = .ok (.aload_n 0, 1) := by decide +kernel
theorem dX6_takeOfCopy_29 : decode cX6_takeOfCopy 29 = .ok (.iconst 1, 1) := by decide +kernel
theorem dX6_takeOfCopy_30 : decode cX6_takeOfCopy 30 = .ok (.bipush 99, 2) := by decide +kernel
theorem dX6_takeOfCopy_32 : decode cX6_takeOfCopy 32 = .ok (.invokevirtual 100, 3) := by decide +kernel
theorem dX6_takeOfCopy_35 : decode cX6_takeOfCopy 35 = .ok (.putfield 130, 3) := by decide +kernel
theorem dX6_takeOfCopy_38 : decode cX6_takeOfCopy 38 = .ok (.return_, 1) := by decide +kernel
theorem dX6_takeChoice_0 : decode cX6_takeChoice 0 = .ok (.aload_n 0, 1) := by decide +kernel
theorem dX6_takeChoice_1 : decode cX6_takeChoice 1 = .ok (.aload_n 2, 1) := by decide +kernel
theorem dX6_takeChoice_2 : decode cX6_takeChoice 2 = .ok (.invokevirtual 83, 3) := by decide +kernel
theorem dX6_takeChoice_5 : decode cX6_takeChoice 5 = .ok (.ifCond .eq 5, 3) := by decide +kernel
theorem dX6_takeChoice_8 : decode cX6_takeChoice 8 = .ok (.iconst 1, 1) := by decide +kernel
theorem dX6_takeChoice_9 : decode cX6_takeChoice 9 = .ok (.ireturn, 1) := by decide +kernel
theorem dX6_takeChoice_10 : decode cX6_takeChoice 10 = .ok (.aload_n 0, 1) := by decide +kernel
theorem dX6_takeChoice_11 : decode cX6_takeChoice 11 = .ok (.aload_n 1, 1) := by decide +kernel
theorem dX6_takeChoice_12 : decode cX6_takeChoice 12 = .ok (.invokevirtual 83, 3) := by decide +kernel
theorem dX6_takeChoice_15 : decode cX6_takeChoice 15 = .ok (.ifCond .ne 8, 3) := by decide +kernel
theorem dX6_takeChoice_18 : decode cX6_takeChoice 18 = .ok (.aload_n 0, 1) := by decide +kernel
theorem dX6_takeChoice_19 : decode cX6_takeChoice 19 = .ok (.iconst 1, 1) := by decide +kernel
theorem dX6_takeChoice_20 : decode cX6_takeChoice 20 = .ok (.invokevirtual 73, 3) := by decide +kernel
theorem dX6_takeChoice_23 : decode cX6_takeChoice 23 = .ok (.iconst 0, 1) := by decide +kernel
theorem dX6_takeChoice_24 : decode cX6_takeChoice 24 = .ok (.ireturn, 1) := by decide +kernel
theorem dX6_takeNumber_0 : decode cX6_takeNumber 0 = .ok (.aload_n 0, 1) := by decide +kernel
theorem dX6_takeNumber_1 : decode cX6_takeNumber 1 = .ok (.getfield 70, 3) := by decide +kernel
theorem dX6_takeNumber_4 : decode cX6_takeNumber 4 = .ok (.iconst 3, 1) := by decide +kernel
theorem dX6_takeNumber_5 : decode cX6_takeNumber 5 = .ok (.if_icmp .eq 10, 3) := by decide +kernel
theorem dX6_takeNumber_8 : decode cX6_takeNumber 8 = .ok (.aload_n 0, 1) := by decide +kernel
theorem dX6_takeNumber_9 : decode cX6_takeNumber 9 = .ok (.iconst 1, 1) := by decide +kernel
theorem dX6_takeNumber_10 : decode cX6_takeNumber 10 = .ok (.invokevirtual 73, 3) := by decide +kernel
theorem dX6_takeNumber_13 : decode cX6_takeNumber 13 = .ok (.iload_n 1, 1) := by decide +kernel
theorem dX6_takeNumber_14 : decode cX6_takeNumber 14 = .ok (.ireturn, 1) := by decide +kernel
theorem dX6_takeNumber_15 : decode cX6_takeNumber 15 = .ok (.iconst 0, 1) := by decide +kernel
theorem dX6_takeNumber_16 : decode cX6_takeNumber 16 = .ok (.istore_n 3, 1) := by decide +kernel
theorem dX6_takeNumber_17 : decode cX6_takeNumber 17 = .ok (.aload_n 0, 1) := by decide +kernel
theorem dX6_takeNumber_18 : decode cX6_takeNumber 18 = .ok (.getfield 133, 3) := by decide +kernel
theorem dX6_takeNumber_21 : decode cX6_takeNumber 21 = .ok (.istore 4, 2) := by decide +kernel
theorem dX6_takeNumber_23 : decode cX6_takeNumber 23 = .ok (.iload 4, 2) := by decide +kernel
theorem dX6_takeNumber_25 : decode cX6_takeNumber 25 = .ok (.aload_n 0, 1) := by decide +kernel
theorem dX6_takeNumber_26 : decode cX6_takeNumber 26 = .ok (.getfield 48, 3) := by decide +kernel
theorem dX6_takeNumber_29 : decode cX6_takeNumber 29 = .ok (.if_icmp .ge 28, 3) := by decide +kernel
theorem dX6_takeNumber_32 : decode cX6_takeNumber 32 = .ok (.iload_n 3, 1) := by decide +kernel
theorem dX6_takeNumber_33 : decode cX6_takeNumber 33 = .ok (.bipush 10, 2) := by decide +kernel
theorem dX6_takeNumber_35 : decode cX6_takeNumber 35 = .ok (.imul, 1) := by decide +kernel
theorem dX6_takeNumber_36 : decode cX6_takeNumber 36 = .ok (.aload_n 0, 1) := by decide +kernel
theorem dX6_takeNumber_37 : decode cX6_takeNumber 37 = .ok (.getfield 22, 3) := by decide +kernel
theorem dX6_takeNumber_40 : decode cX6_takeNumber 40 = .ok (.getfield 136, 3) := by decide +kernel
theorem dX6_takeNumber_43 : decode cX6_takeNumber 43 = .ok (.iload 4, 2) := by decide +kernel
theorem dX6_takeNumber_45 : decode cX6_takeNumber 45 = .ok (.baload, 1) := by decide +kernel
theorem dX6_takeNumber_46 : decode cX6_takeNumber 46 = .ok (.iadd, 1) := by decide +kernel
theorem dX6_takeNumber_47 : decode cX6_takeNumber 47 = .ok (.bipush 48, 2) := by decide +kernel
theorem dX6_takeNumber_49 : decode cX6_takeNumber 49 = .ok (.isub, 1) := by decide +kernel
theorem dX6_takeNumber_50 : decode cX6_takeNumber 50 = .ok (.istore_n 3, 1) := by decide +kernel
theorem dX6_takeNumber_51 : decode cX6_takeNumber 51 = .ok (.iinc 4 1, 3) := by decide +kernel
theorem dX6_takeNumber_54 : decode cX6_takeNumber 54 = .ok (.goto (-31), 3) := by decide +kernel
theorem dX6_takeNumber_57 : decode cX6_takeNumber 57 = .ok (.iload_n 3, 1) := by decide +kernel
theorem dX6_takeNumber_58 : decode cX6_takeNumber 58 = .ok (.iload_n 1, 1) := by decide +kernel
theorem dX6_takeNumber_59 : decode cX6_takeNumber 59 = .ok (.if_icmp .lt 8, 3) := by decide +kernel
theorem dX6_takeNumber_62 : decode cX6_takeNumber 62 = .ok (.iload_n 3, 1) := by decide +kernel
theorem dX6_takeNumber_63 : decode cX6_takeNumber 63 = .ok (.iload_n 2, 1) := by decide +kernel
theorem dX6_takeNumber_64 : decode cX6_takeNumber 64 = .ok (.if_icmp .le 8, 3) := by decide +kernel
theorem dX6_takeNumber_67 : decode cX6_takeNumber 67 = .ok (.aload_n 0, 1) := by decide +kernel
theorem dX6_takeNumber_68 : decode cX6_takeNumber 68 = .ok (.iconst 2, 1) := by decide +kernel
theorem dX6_takeNumber_69 : decode cX6_takeNumber 69 = .ok (.invokevirtual 73, 3) := by decide +kernel
theorem dX6_takeNumber_72 : decode cX6_takeNumber 72 = .ok (.iload_n 3, 1) := by decide +kernel
theorem dX6_takeNumber_73 : decode cX6_takeNumber 73 = .ok (.ireturn, 1) := by decide +kernel
theorem dX6_setFault_0 : decode cX6_setFault 0 = .ok (.aload_n 0, 1) := by decide +kernel
theorem dX6_setFault_1 : decode cX6_setFault 1 = .ok (.iload_n 1, 1) := by decide +kernel
theorem dX6_setFault_2 : decode cX6_setFault 2 = .ok (.putfield 39, 3) := by decide +kernel
theorem dX6_setFault_5 : decode cX6_setFault 5 = .ok (.aload_n 0, 1) := by decide +kernel
theorem dX6_setFault_6 : decode cX6_setFault 6 = .ok (.aload_n 0, 1) := by decide +kernel
theorem dX6_setFault_7 : decode cX6_setFault 7 = .ok (.getfield 133, 3) := by decide +kernel
theorem dX6_setFault_10 : decode cX6_setFault 10 = .ok (.putfield 18, 3) := by decide +kernel
theorem dX6_setFault_13 : decode cX6_setFault 13 = .ok (.aload_n 0, 1) := by decide +kernel
theorem dX6_setFault_14 : decode cX6_setFault 14 = .ok (.iconst 1, 1) := by decide +kernel
theorem dX6_setFault_15 : decode cX6_setFault 15 = .ok (.putfield 29, 3) := by decide +kernel
theorem dX6_setFault_18 : decode cX6_setFault 18 = .ok (.return_, 1) := by decide +kernel
theorem dX6_readToken_0 : decode cX6_readToken 0 = .ok (.aload_n 0, 1) := by decide +kernel
theorem dX6_readToken_1 : decode cX6_readToken 1 = .ok (.getfield 48, 3) := by decide +kernel
theorem dX6_readToken_4 : decode cX6_readToken 4 = .ok (.aload_n 0, 1) := by decide +kernel
theorem dX6_readToken_5 : decode cX6_readToken 5 = .ok (.getfield 22, 3) := by decide +kernel
theorem dX6_readToken_8 : decode cX6_readToken 8 = .ok (.getfield 142, 3) := by decide +kernel
theorem dX6_readToken_11 : decode cX6_readToken 11 = .ok (.if_icmp .ge 28, 3) := by decide +kernel
theorem dX6_readToken_14 : decode cX6_readToken 14 = .ok (.aload_n 0, 1) := by decide +kernel
