theorem dX10_tell_38 : decode cX10_tell 38 = .ok (.iconst 0, 1) := by decide +kernel
theorem dX10_tell_39 : decode cX10_tell 39 = .ok (.istore 5, 2) := by decide +kernel
theorem dX10_tell_41 : decode cX10_tell 41 = .ok (.iload 5, 2) := by decide +kernel
theorem dX10_tell_43 : decode cX10_tell 43 = .ok (.ifCond .eq 22, 3) := by decide +kernel
theorem dX10_tell_46 : decode cX10_tell 46 = .ok (.iload_n 3, 1) := by decide +kernel
theorem dX10_tell_47 : decode cX10_tell 47 = .ok (.invokestatic 125, 3) := by decide +kernel
theorem dX10_tell_50 : decode cX10_tell 50 = .ok (.ifCond .eq 19, 3) := by decide +kernel
theorem dX10_tell_53 : decode cX10_tell 53 = .ok (.iload_n 3, 1) := by decide +kernel
theorem dX10_tell_54 : decode cX10_tell 54 = .ok (.aload 4, 2) := by decide +kernel
theorem dX10_tell_56 : decode cX10_tell 56 = .ok (.getfield 143, 3) := by decide +kernel
theorem dX10_tell_59 : decode cX10_tell 59 = .ok (.if_icmp .ge 13, 3) := by decide +kernel
theorem dX10_tell_62 : decode cX10_tell 62 = .ok (.goto 7, 3) := by decide +kernel
theorem dX10_tell_65 : decode cX10_tell 65 = .ok (.iload_n 3, 1) := by decide +kernel
theorem dX10_tell_66 : decode cX10_tell 66 = .ok (.ifCond .eq 6, 3) := by decide +kernel
theorem dX10_tell_69 : decode cX10_tell 69 = .ok (.bipush (-2), 2) := by decide +kernel
theorem dX10_tell_71 : decode cX10_tell 71 = .ok (.ireturn, 1) := by decide +kernel
theorem dX10_tell_72 : decode cX10_tell 72 = .ok (.iload_n 2, 1) := by decide +kernel
theorem dX10_tell_73 : decode cX10_tell 73 = .ok (.ifCond .lt 8, 3) := by decide +kernel
theorem dX10_tell_76 : decode cX10_tell 76 = .ok (.iload_n 2, 1) := by decide +kernel
theorem dX10_tell_77 : decode cX10_tell 77 = .ok (.iconst 3, 1) := by decide +kernel
theorem dX10_tell_78 : decode cX10_tell 78 = .ok (.if_icmp .le 6, 3) := by decide +kernel
theorem dX10_tell_81 : decode cX10_tell 81 = .ok (.bipush (-2), 2) := by decide +kernel
theorem dX10_tell_83 : decode cX10_tell 83 = .ok (.ireturn, 1) := by decide +kernel
theorem dX10_tell_84 : decode cX10_tell 84 = .ok (.aload 4, 2) := by decide +kernel
theorem dX10_tell_86 : decode cX10_tell 86 = .ok (.getfield 148, 3) := by decide +kernel
theorem dX10_tell_89 : decode cX10_tell 89 = .ok (.istore 6, 2) := by decide +kernel
theorem dX10_tell_91 : decode cX10_tell 91 = .ok (.aload 4, 2) := by decide +kernel
theorem dX10_tell_93 : decode cX10_tell 93 = .ok (.iload_n 2, 1) := by decide +kernel
theorem dX10_tell_94 : decode cX10_tell 94 = .ok (.putfield 148, 3) := by decide +kernel
theorem dX10_tell_97 : decode cX10_tell 97 = .ok (.aload 4, 2) := by decide +kernel
theorem dX10_tell_99 : decode cX10_tell 99 = .ok (.iload 5, 2) := by decide +kernel
theorem dX10_tell_101 : decode cX10_tell 101 = .ok (.ifCond .eq 7, 3) := by decide +kernel
theorem dX10_tell_104 : decode cX10_tell 104 = .ok (.iload_n 3, 1) := by decide +kernel
theorem dX10_tell_105 : decode cX10_tell 105 = .ok (.goto 4, 3) := by decide +kernel
theorem dX10_tell_108 : decode cX10_tell 108 = .ok (.iconst (-1), 1) := by decide +kernel
theorem dX10_tell_109 : decode cX10_tell 109 = .ok (.putfield 151, 3) := by decide +kernel
theorem dX10_tell_112 : decode cX10_tell 112 = .ok (.aload_n 0, 1) := by decide +kernel
theorem dX10_tell_113 : decode cX10_tell 113 = .ok (.getfield 35, 3) := by decide +kernel
theorem dX10_tell_116 : decode cX10_tell 116 = .ok (.dup, 1) := by decide +kernel
theorem dX10_tell_117 : decode cX10_tell 117 = .ok (.getfield 94, 3) := by decide +kernel
theorem dX10_tell_120 : decode cX10_tell 120 = .ok (.iconst 1, 1) := by decide +kernel
theorem dX10_tell_121 : decode cX10_tell 121 = .ok (.iadd, 1) := by decide +kernel
theorem dX10_tell_122 : decode cX10_tell 122 = .ok (.putfield 94, 3) := by decide +kernel
theorem dX10_tell_125 : decode cX10_tell 125 = .ok (.iload 6, 2) := by decide +kernel
theorem dX10_tell_127 : decode cX10_tell 127 = .ok (.ireturn, 1) := by decide +kernel
theorem dX10_guess_0 : decode cX10_guess 0 = .ok (.iload_n 1, 1) := by decide +kernel
theorem dX10_guess_1 : decode cX10_guess 1 = .ok (.invokestatic 154, 3) := by decide +kernel
theorem dX10_guess_4 : decode cX10_guess 4 = .ok (.ifCond .eq 22, 3) := by decide +kernel
theorem dX10_guess_7 : decode cX10_guess 7 = .ok (.aload_n 0, 1) := by decide +kernel
theorem dX10_guess_8 : decode cX10_guess 8 = .ok (.getfield 35, 3) := by decide +kernel
theorem dX10_guess_11 : decode cX10_guess 11 = .ok (.iload_n 2, 1) := by decide +kernel
theorem dX10_guess_12 : decode cX10_guess 12 = .ok (.invokevirtual 136, 3) := by decide +kernel
theorem dX10_guess_15 : decode cX10_guess 15 = .ok (.ifCond .eq 11, 3) := by decide +kernel
theorem dX10_guess_18 : decode cX10_guess 18 = .ok (.iload 4, 2) := by decide +kernel
theorem dX10_guess_20 : decode cX10_guess 20 = .ok (.invokestatic 157, 3) := by decide +kernel
theorem dX10_guess_23 : decode cX10_guess 23 = .ok (.ifCond .ne 6, 3) := by decide +kernel
theorem dX10_guess_26 : decode cX10_guess 26 = .ok (.bipush (-2), 2) := by decide +kernel
theorem dX10_guess_28 : decode cX10_guess 28 = .ok (.ireturn, 1) := by decide +kernel
theorem dX10_guess_29 : decode cX10_guess 29 = .ok (.aload_n 0, 1) := by decide +kernel
theorem dX10_guess_30 : decode cX10_guess 30 = .ok (.getfield 35, 3) := by decide +kernel
theorem dX10_guess_33 : decode cX10_guess 33 = .ok (.getfield 139, 3) := by decide +kernel
theorem dX10_guess_36 : decode cX10_guess 36 = .ok (.iload_n 2, 1) := by decide +kernel
theorem dX10_guess_37 : decode cX10_guess 37 = .ok (.aaload, 1) := by decide +kernel
theorem dX10_guess_38 : decode cX10_guess 38 = .ok (.astore 5, 2) := by decide +kernel
theorem dX10_guess_40 : decode cX10_guess 40 = .ok (.iload_n 3, 1) := by decide +kernel
theorem dX10_guess_41 : decode cX10_guess 41 = .ok (.aload 5, 2) := by decide +kernel
theorem dX10_guess_43 : decode cX10_guess 43 = .ok (.getfield 143, 3) := by decide +kernel
theorem dX10_guess_46 : decode cX10_guess 46 = .ok (.if_icmp .lt 12, 3) := by decide +kernel
theorem dX10_guess_49 : decode cX10_guess 49 = .ok (.iload_n 3, 1) := by decide +kernel
theorem dX10_guess_50 : decode cX10_guess 50 = .ok (.aload 5, 2) := by decide +kernel
theorem dX10_guess_52 : decode cX10_guess 52 = .ok (.getfield 160, 3) := by decide +kernel
theorem dX10_guess_55 : decode cX10_guess 55 = .ok (.if_icmp .le 6, 3) := by decide +kernel
theorem dX10_guess_58 : decode cX10_guess 58 = .ok (.bipush (-2), 2) := by decide +kernel
theorem dX10_guess_60 : decode cX10_guess 60 = .ok (.ireturn, 1) := by decide +kernel
theorem dX10_guess_61 : decode cX10_guess 61 = .ok (.aload 5, 2) := by decide +kernel
theorem dX10_guess_63 : decode cX10_guess 63 = .ok (.getfield 148, 3) := by decide +kernel
theorem dX10_guess_66 : decode cX10_guess 66 = .ok (.iconst 3, 1) := by decide +kernel
theorem dX10_guess_67 : decode cX10_guess 67 = .ok (.if_icmp .ne 16, 3) := by decide +kernel
theorem dX10_guess_70 : decode cX10_guess 70 = .ok (.aload_n 0, 1) := by decide +kernel
theorem dX10_guess_71 : decode cX10_guess 71 = .ok (.getfield 35, 3) := by decide +kernel
theorem dX10_guess_74 : decode cX10_guess 74 = .ok (.iload_n 1, 1) := by decide +kernel
theorem dX10_guess_75 : decode cX10_guess 75 = .ok (.iload_n 2, 1) := by decide +kernel
theorem dX10_guess_76 : decode cX10_guess 76 = .ok (.iload_n 3, 1) := by decide +kernel
theorem dX10_guess_77 : decode cX10_guess 77 = .ok (.invokevirtual 163, 3) := by decide +kernel
theorem dX10_guess_80 : decode cX10_guess 80 = .ok (.ifCond .eq 6, 3) := by decide +kernel
theorem dX10_guess_83 : decode cX10_guess 83 = .ok (.bipush (-4), 2) := by decide +kernel
theorem dX10_guess_85 : decode cX10_guess 85 = .ok (.ireturn, 1) := by decide +kernel
theorem dX10_guess_86 : decode cX10_guess 86 = .ok (.aload_n 0, 1) := by decide +kernel
theorem dX10_guess_87 : decode cX10_guess 87 = .ok (.getfield 35, 3) := by decide +kernel
theorem dX10_guess_90 : decode cX10_guess 90 = .ok (.getfield 167, 3) := by decide +kernel
theorem dX10_guess_93 : decode cX10_guess 93 = .ok (.sipush 300, 3) := by decide +kernel
theorem dX10_guess_96 : decode cX10_guess 96 = .ok (.if_icmp .lt 6, 3) := by decide +kernel
theorem dX10_guess_99 : decode cX10_guess 99 = .ok (.bipush (-3), 2) := by decide +kernel
theorem dX10_guess_101 : decode cX10_guess 101 = .ok (.ireturn, 1) := by decide +kernel
theorem dX10_guess_102 : decode cX10_guess 102 = .ok (.aload_n 0, 1) := by decide +kernel
theorem dX10_guess_103 : decode cX10_guess 103 = .ok (.getfield 35, 3) := by decide +kernel
theorem dX10_guess_106 : decode cX10_guess 106 = .ok (.iload_n 1, 1) := by decide +kernel
theorem dX10_guess_107 : decode cX10_guess 107 = .ok (.iload_n 2, 1) := by decide +kernel
theorem dX10_guess_108 : decode cX10_guess 108 = .ok (.iload_n 3, 1) := by decide +kernel
theorem dX10_guess_109 : decode cX10_guess 109 = .ok (.iload 4, 2) := by decide +kernel
theorem dX10_guess_111 : decode cX10_guess 111 = .ok (.invokevirtual 170, 3) := by decide +kernel
theorem dX10_guess_114 : decode cX10_guess 114 = .ok (.ireturn, 1) := by decide +kernel
theorem dX10_holds_0 : decode cX10_holds 0 = .ok (.iload_n 1, 1) := by decide +kernel
theorem dX10_holds_1 : decode cX10_holds 1 = .ok (.invokestatic 154, 3) := by decide +kernel
theorem dX10_holds_4 : decode cX10_holds 4 = .ok (.ifCond .eq 21, 3) := by decide +kernel
theorem dX10_holds_7 : decode cX10_holds 7 = .ok (.aload_n 0, 1) := by decide +kernel
theorem dX10_holds_8 : decode cX10_holds 8 = .ok (.getfield 35, 3) := by decide +kernel
theorem dX10_holds_11 : decode cX10_holds 11 = .ok (.iload_n 2, 1) := by decide +kernel
theorem dX10_holds_12 : decode cX10_holds 12 = .ok (.invokevirtual 136, 3) := by decide +kernel
theorem dX10_holds_15 : decode cX10_holds 15 = .ok (.ifCond .eq 10, 3) := by decide +kernel
theorem dX10_holds_18 : decode cX10_holds 18 = .ok (.iload_n 3, 1) := by decide +kernel
theorem dX10_holds_19 : decode cX10_holds 19 = .ok (.invokestatic 125, 3) := by decide +kernel
theorem dX10_holds_22 : decode cX10_holds 22 = .ok (.ifCond .ne 6, 3) := by decide +kernel
theorem dX10_holds_25 : decode cX10_holds 25 = .ok (.bipush (-2), 2) := by decide +kernel
theorem dX10_holds_27 : decode cX10_holds 27 = .ok (.ireturn, 1) := by decide +kernel
theorem dX10_holds_28 : decode cX10_holds 28 = .ok (.aload_n 0, 1) := by decide +kernel
theorem dX10_holds_29 : decode cX10_holds 29 = .ok (.getfield 35, 3) := by decide +kernel
theorem dX10_holds_32 : decode cX10_holds 32 = .ok (.iload_n 1, 1) := by decide +kernel
theorem dX10_holds_33 : decode cX10_holds 33 = .ok (.iload_n 2, 1) := by decide +kernel
theorem dX10_holds_34 : decode cX10_holds 34 = .ok (.iload_n 3, 1) := by decide +kernel
theorem dX10_holds_35 : decode cX10_holds 35 = .ok (.invokevirtual 174, 3) := by decide +kernel
theorem dX10_holds_38 : decode cX10_holds 38 = .ok (.ireturn, 1) := by decide +kernel
theorem dX10_rows_0 : decode cX10_rows 0 = .ok (.iload_n 1, 1) := by decide +kernel
theorem dX10_rows_1 : decode cX10_rows 1 = .ok (.invokestatic 154, 3) := by decide +kernel
theorem dX10_rows_4 : decode cX10_rows 4 = .ok (.ifCond .eq 21, 3) := by decide +kernel
theorem dX10_rows_7 : decode cX10_rows 7 = .ok (.aload_n 0, 1) := by decide +kernel
theorem dX10_rows_8 : decode cX10_rows 8 = .ok (.getfield 35, 3) := by decide +kernel
theorem dX10_rows_11 : decode cX10_rows 11 = .ok (.iload_n 2, 1) := by decide +kernel
theorem dX10_rows_12 : decode cX10_rows 12 = .ok (.invokevirtual 136, 3) := by decide +kernel
theorem dX10_rows_15 : decode cX10_rows 15 = .ok (.ifCond .eq 10, 3) := by decide +kernel
theorem dX10_rows_18 : decode cX10_rows 18 = .ok (.iload_n 3, 1) := by decide +kernel
theorem dX10_rows_19 : decode cX10_rows 19 = .ok (.invokestatic 178, 3) := by decide +kernel
theorem dX10_rows_22 : decode cX10_rows 22 = .ok (.ifCond .ne 6, 3) := by decide +kernel
theorem dX10_rows_25 : decode cX10_rows 25 = .ok (.bipush (-2), 2) := by decide +kernel
theorem dX10_rows_27 : decode cX10_rows 27 = .ok (.ireturn, 1) := by decide +kernel
theorem dX10_rows_28 : decode cX10_rows 28 = .ok (.aload_n 0, 1) := by decide +kernel
theorem dX10_rows_29 : decode cX10_rows 29 = .ok (.getfield 44, 3) := by decide +kernel
theorem dX10_rows_32 : decode cX10_rows 32 = .ok (.invokevirtual 181, 3) := by decide +kernel
theorem dX10_rows_35 : decode cX10_rows 35 = .ok (.iload_n 3, 1) := by decide +kernel
theorem dX10_rows_36 : decode cX10_rows 36 = .ok (.ifCond .ne 19, 3) := by decide +kernel
theorem dX10_rows_39 : decode cX10_rows 39 = .ok (.aload_n 0, 1) := by decide +kernel
theorem dX10_rows_40 : decode cX10_rows 40 = .ok (.getfield 44, 3) := by decide +kernel
theorem dX10_rows_43 : decode cX10_rows 43 = .ok (.getfield 184, 3) := by decide +kernel
theorem dX10_rows_46 : decode cX10_rows 46 = .ok (.iload_n 1, 1) := by decide +kernel
theorem dX10_rows_47 : decode cX10_rows 47 = .ok (.iload_n 2, 1) := by decide +kernel
theorem dX10_rows_48 : decode cX10_rows 48 = .ok (.invokestatic 187, 3) := by decide +kernel
theorem dX10_rows_51 : decode cX10_rows 51 = .ok (.iaload, 1) := by decide +kernel
theorem dX10_rows_52 : decode cX10_rows 52 = .ok (.goto 16, 3) := by decide +kernel
theorem dX10_rows_55 : decode cX10_rows 55 = .ok (.aload_n 0, 1) := by decide +kernel
theorem dX10_rows_56 : decode cX10_rows 56 = .ok (.getfield 44, 3) := by decide +kernel
theorem dX10_rows_59 : decode cX10_rows 59 = .ok (.getfield 190, 3) := by decide +kernel
theorem dX10_rows_62 : decode cX10_rows 62 = .ok (.iload_n 1, 1) := by decide +kernel
theorem dX10_rows_63 : decode cX10_rows 63 = .ok (.iload_n 2, 1) := by decide +kernel
theorem dX10_rows_64 : decode cX10_rows 64 = .ok (.invokestatic 187, 3) := by decide +kernel
theorem dX10_rows_67 : decode cX10_rows 67 = .ok (.iaload, 1) := by decide +kernel
theorem dX10_rows_68 : decode cX10_rows 68 = .ok (.ireturn, 1) := by decide +kernel
theorem dX10_mean_0 : decode cX10_mean 0 = .ok (.iload_n 1, 1) := by decide +kernel
theorem dX10_mean_1 : decode cX10_mean 1 = .ok (.invokestatic 154, 3) := by decide +kernel
theorem dX10_mean_4 : decode cX10_mean 4 = .ok (.ifCond .eq 10, 3) := by decide +kernel
theorem dX10_mean_7 : decode cX10_mean 7 = .ok (.iload_n 2, 1) := by decide +kernel
theorem dX10_mean_8 : decode cX10_mean 8 = .ok (.invokestatic 178, 3) := by decide +kernel
theorem dX10_mean_11 : decode cX10_mean 11 = .ok (.ifCond .ne 6, 3) := by decide +kernel
theorem dX10_mean_14 : decode cX10_mean 14 = .ok (.bipush (-2), 2) := by decide +kernel
theorem dX10_mean_16 : decode cX10_mean 16 = .ok (.ireturn, 1) := by decide +kernel
theorem dX10_mean_17 : decode cX10_mean 17 = .ok (.aload_n 0, 1) := by decide +kernel
theorem dX10_mean_18 : decode cX10_mean 18 = .ok (.getfield 44, 3) := by decide +kernel
theorem dX10_mean_21 : decode cX10_mean 21 = .ok (.invokevirtual 181, 3) := by decide +kernel
theorem dX10_mean_24 : decode cX10_mean 24 = .ok (.aload_n 0, 1) := by decide +kernel
theorem dX10_mean_25 : decode cX10_mean 25 = .ok (.getfield 44, 3) := by decide +kernel
theorem dX10_mean_28 : decode cX10_mean 28 = .ok (.iload_n 1, 1) := by decide +kernel
theorem dX10_mean_29 : decode cX10_mean 29 = .ok (.invokevirtual 193, 3) := by decide +kernel
theorem dX10_mean_32 : decode cX10_mean 32 = .ok (.ifCond .ne 5, 3) := by decide +kernel
theorem dX10_mean_35 : decode cX10_mean 35 = .ok (.iconst 0, 1) := by decide +kernel
theorem dX10_mean_36 : decode cX10_mean 36 = .ok (.ireturn, 1) := by decide +kernel
theorem dX10_mean_37 : decode cX10_mean 37 = .ok (.iload_n 2, 1) := by decide +kernel
theorem dX10_mean_38 : decode cX10_mean 38 = .ok (.ifCond .ne 14, 3) := by decide +kernel
theorem dX10_mean_41 : decode cX10_mean 41 = .ok (.aload_n 0, 1) := by decide +kernel
theorem dX10_mean_42 : decode cX10_mean 42 = .ok (.getfield 44, 3) := by decide +kernel
theorem dX10_mean_45 : decode cX10_mean 45 = .ok (.iload_n 1, 1) := by decide +kernel
theorem dX10_mean_46 : decode cX10_mean 46 = .ok (.invokevirtual 196, 3) := by decide +kernel
theorem dX10_mean_49 : decode cX10_mean 49 = .ok (.goto 11, 3) := by decide +kernel
theorem dX10_mean_52 : decode cX10_mean 52 = .ok (.aload_n 0, 1) := by decide +kernel
theorem dX10_mean_53 : decode cX10_mean 53 = .ok (.getfield 44, 3) := by decide +kernel
theorem dX10_mean_56 : decode cX10_mean 56 = .ok (.iload_n 1, 1) := by decide +kernel
theorem dX10_mean_57 : decode cX10_mean 57 = .ok (.invokevirtual 200, 3) := by decide +kernel
theorem dX10_mean_60 : decode cX10_mean 60 = .ok (.ireturn, 1) := by decide +kernel
theorem dX10_ranked_0 : decode cX10_ranked 0 = .ok (.aload_n 0, 1) := by decide +kernel
theorem dX10_ranked_1 : decode cX10_ranked 1 = .ok (.getfield 44, 3) := by decide +kernel
theorem dX10_ranked_4 : decode cX10_ranked 4 = .ok (.invokevirtual 181, 3) := by decide +kernel
theorem dX10_ranked_7 : decode cX10_ranked 7 = .ok (.aload_n 0, 1) := by decide +kernel
theorem dX10_ranked_8 : decode cX10_ranked 8 = .ok (.getfield 44, 3) := by decide +kernel
theorem dX10_ranked_11 : decode cX10_ranked 11 = .ok (.iload_n 1, 1) := by decide +kernel
theorem dX10_ranked_12 : decode cX10_ranked 12 = .ok (.invokevirtual 203, 3) := by decide +kernel
theorem dX10_ranked_15 : decode cX10_ranked 15 = .ok (.ireturn, 1) := by decide +kernel
theorem dX10_pays_0 : decode cX10_pays 0 = .ok (.iload_n 1, 1) := by decide +kernel
theorem dX10_pays_1 : decode cX10_pays 1 = .ok (.invokestatic 157, 3) := by decide +kernel
theorem dX10_pays_4 : decode cX10_pays 4 = .ok (.ifCond .eq 14, 3) := by decide +kernel
theorem dX10_pays_7 : decode cX10_pays 7 = .ok (.aload_n 0, 1) := by decide +kernel
theorem dX10_pays_8 : decode cX10_pays 8 = .ok (.getfield 44, 3) := by decide +kernel
theorem dX10_pays_11 : decode cX10_pays 11 = .ok (.iload_n 1, 1) := by decide +kernel
theorem dX10_pays_12 : decode cX10_pays 12 = .ok (.invokevirtual 206, 3) := by decide +kernel
theorem dX10_pays_15 : decode cX10_pays 15 = .ok (.goto 5, 3) := by decide +kernel
theorem dX10_pays_18 : decode cX10_pays 18 = .ok (.bipush (-2), 2) := by decide +kernel
theorem dX10_pays_20 : decode cX10_pays 20 = .ok (.ireturn, 1) := by decide +kernel
theorem dX10_honest_0 : decode cX10_honest 0 = .ok (.aload_n 0, 1) := by decide +kernel
theorem dX10_honest_1 : decode cX10_honest 1 = .ok (.getfield 44, 3) := by decide +kernel
theorem dX10_honest_4 : decode cX10_honest 4 = .ok (.invokevirtual 209, 3) := by decide +kernel
theorem dX10_honest_7 : decode cX10_honest 7 = .ok (.ireturn, 1) := by decide +kernel
theorem dX10_copies_0 : decode cX10_copies 0 = .ok (.iload_n 1, 1) := by decide +kernel
theorem dX10_copies_1 : decode cX10_copies 1 = .ok (.invokestatic 154, 3) := by decide +kernel
theorem dX10_copies_4 : decode cX10_copies 4 = .ok (.ifCond .eq 15, 3) := by decide +kernel
theorem dX10_copies_7 : decode cX10_copies 7 = .ok (.iload_n 2, 1) := by decide +kernel
theorem dX10_copies_8 : decode cX10_copies 8 = .ok (.invokestatic 154, 3) := by decide +kernel
theorem dX10_copies_11 : decode cX10_copies 11 = .ok (.ifCond .eq 8, 3) := by decide +kernel
theorem dX10_copies_14 : decode cX10_copies 14 = .ok (.iload_n 1, 1) := by decide +kernel
theorem dX10_copies_15 : decode cX10_copies 15 = .ok (.iload_n 2, 1) := by decide +kernel
theorem dX10_copies_16 : decode cX10_copies 16 = .ok (.if_icmp .ne 6, 3) := by decide +kernel
theorem dX10_copies_19 : decode cX10_copies 19 = .ok (.bipush (-2), 2) := by decide +kernel
theorem dX10_copies_21 : decode cX10_copies 21 = .ok (.ireturn, 1) := by decide +kernel
theorem dX10_copies_22 : decode cX10_copies 22 = .ok (.aload_n 0, 1) := by decide +kernel
theorem dX10_copies_23 : decode cX10_copies 23 = .ok (.getfield 28, 3) := by decide +kernel
theorem dX10_copies_26 : decode cX10_copies 26 = .ok (.invokevirtual 212, 3) := by decide +kernel
theorem dX10_copies_29 : decode cX10_copies 29 = .ok (.ifCond .eq 15, 3) := by decide +kernel
theorem dX10_copies_32 : decode cX10_copies 32 = .ok (.aload_n 0, 1) := by decide +kernel
theorem dX10_copies_33 : decode cX10_copies 33 = .ok (.getfield 53, 3) := by decide +kernel
theorem dX10_copies_36 : decode cX10_copies 36 = .ok (.iload_n 1, 1) := by decide +kernel
theorem dX10_copies_37 : decode cX10_copies 37 = .ok (.iload_n 2, 1) := by decide +kernel
theorem dX10_copies_38 : decode cX10_copies 38 = .ok (.invokevirtual 216, 3) := by decide +kernel
theorem dX10_copies_41 : decode cX10_copies 41 = .ok (.goto 5, 3) := by decide +kernel
theorem dX10_copies_44 : decode cX10_copies 44 = .ok (.bipush (-4), 2) := by decide +kernel
theorem dX10_copies_46 : decode cX10_copies 46 = .ok (.ireturn, 1) := by decide +kernel
theorem dX10_weight_0 : decode cX10_weight 0 = .ok (.iload_n 1, 1) := by decide +kernel
theorem dX10_weight_1 : decode cX10_weight 1 = .ok (.invokestatic 154, 3) := by decide +kernel
theorem dX10_weight_4 : decode cX10_weight 4 = .ok (.ifCond .eq 10, 3) := by decide +kernel
theorem dX10_weight_7 : decode cX10_weight 7 = .ok (.iload_n 2, 1) := by decide +kernel
theorem dX10_weight_8 : decode cX10_weight 8 = .ok (.invokestatic 125, 3) := by decide +kernel
theorem dX10_weight_11 : decode cX10_weight 11 = .ok (.ifCond .ne 6, 3) := by decide +kernel
theorem dX10_weight_14 : decode cX10_weight 14 = .ok (.bipush (-2), 2) := by decide +kernel
theorem dX10_weight_16 : decode cX10_weight 16 = .ok (.ireturn, 1) := by decide +kernel
theorem dX10_weight_17 : decode cX10_weight 17 = .ok (.aload_n 0, 1) := by decide +kernel
theorem dX10_weight_18 : decode cX10_weight 18 = .ok (.getfield 53, 3) := by decide +kernel
theorem dX10_weight_21 : decode cX10_weight 21 = .ok (.invokevirtual 219, 3) := by decide +kernel
theorem dX10_weight_24 : decode cX10_weight 24 = .ok (.aload_n 0, 1) := by decide +kernel
theorem dX10_weight_25 : decode cX10_weight 25 = .ok (.getfield 53, 3) := by decide +kernel
theorem dX10_weight_28 : decode cX10_weight 28 = .ok (.iload_n 1, 1) := by decide +kernel
theorem dX10_weight_29 : decode cX10_weight 29 = .ok (.iload_n 2, 1) := by decide +kernel
theorem dX10_weight_30 : decode cX10_weight 30 = .ok (.invokevirtual 220, 3) := by decide +kernel
theorem dX10_weight_33 : decode cX10_weight 33 = .ok (.ireturn, 1) := by decide +kernel
theorem dX10_joined_0 : decode cX10_joined 0 = .ok (.aload_n 0, 1) := by decide +kernel
theorem dX10_joined_1 : decode cX10_joined 1 = .ok (.getfield 35, 3) := by decide +kernel
theorem dX10_joined_4 : decode cX10_joined 4 = .ok (.iload_n 1, 1) := by decide +kernel
theorem dX10_joined_5 : decode cX10_joined 5 = .ok (.invokevirtual 136, 3) := by decide +kernel
theorem dX10_joined_8 : decode cX10_joined 8 = .ok (.ifCond .eq 10, 3) := by decide +kernel
theorem dX10_joined_11 : decode cX10_joined 11 = .ok (.iload_n 2, 1) := by decide +kernel
theorem dX10_joined_12 : decode cX10_joined 12 = .ok (.invokestatic 125, 3) := by decide +kernel
theorem dX10_joined_15 : decode cX10_joined 15 = .ok (.ifCond .ne 6, 3) := by decide +kernel
theorem dX10_joined_18 : decode cX10_joined 18 = .ok (.bipush (-2), 2) := by decide +kernel
theorem dX10_joined_20 : decode cX10_joined 20 = .ok (.ireturn, 1) := by decide +kernel
theorem dX10_joined_21 : decode cX10_joined 21 = .ok (.aload_n 0, 1) := by decide +kernel
theorem dX10_joined_22 : decode cX10_joined 22 = .ok (.getfield 53, 3) := by decide +kernel
theorem dX10_joined_25 : decode cX10_joined 25 = .ok (.invokevirtual 219, 3) := by decide +kernel
theorem dX10_joined_28 : decode cX10_joined 28 = .ok (.aload_n 0, 1) := by decide +kernel
theorem dX10_joined_29 : decode cX10_joined 29 = .ok (.getfield 53, 3) := by decide +kernel
theorem dX10_joined_32 : decode cX10_joined 32 = .ok (.iload_n 1, 1) := by decide +kernel
theorem dX10_joined_33 : decode cX10_joined 33 = .ok (.iload_n 2, 1) := by decide +kernel
theorem dX10_joined_34 : decode cX10_joined 34 = .ok (.invokevirtual 223, 3) := by decide +kernel
theorem dX10_joined_37 : decode cX10_joined 37 = .ok (.ireturn, 1) := by decide +kernel
theorem dX10_together_0 : decode cX10_together 0 = .ok (.aload_n 0, 1) := by decide +kernel
theorem dX10_together_1 : decode cX10_together 1 = .ok (.getfield 35, 3) := by decide +kernel
theorem dX10_together_4 : decode cX10_together 4 = .ok (.iload_n 1, 1) := by decide +kernel
theorem dX10_together_5 : decode cX10_together 5 = .ok (.invokevirtual 136, 3) := by decide +kernel
theorem dX10_together_8 : decode cX10_together 8 = .ok (.ifCond .eq 10, 3) := by decide +kernel
theorem dX10_together_11 : decode cX10_together 11 = .ok (.iload_n 2, 1) := by decide +kernel
theorem dX10_together_12 : decode cX10_together 12 = .ok (.invokestatic 178, 3) := by decide +kernel
theorem dX10_together_15 : decode cX10_together 15 = .ok (.ifCond .ne 6, 3) := by decide +kernel
theorem dX10_together_18 : decode cX10_together 18 = .ok (.bipush (-2), 2) := by decide +kernel
theorem dX10_together_20 : decode cX10_together 20 = .ok (.ireturn, 1) := by decide +kernel
theorem dX10_together_21 : decode cX10_together 21 = .ok (.aload_n 0, 1) := by decide +kernel
theorem dX10_together_22 : decode cX10_together 22 = .ok (.getfield 53, 3) := by decide +kernel
theorem dX10_together_25 : decode cX10_together 25 = .ok (.invokevirtual 219, 3) := by decide +kernel
theorem dX10_together_28 : decode cX10_together 28 = .ok (.iload_n 2, 1) := by decide +kernel
theorem dX10_together_29 : decode cX10_together 29 = .ok (.ifCond .ne 14, 3) := by decide +kernel
theorem dX10_together_32 : decode cX10_together 32 = .ok (.aload_n 0, 1) := by decide +kernel
theorem dX10_together_33 : decode cX10_together 33 = .ok (.getfield 53, 3) := by decide +kernel
theorem dX10_together_36 : decode cX10_together 36 = .ok (.iload_n 1, 1) := by decide +kernel
theorem dX10_together_37 : decode cX10_together 37 = .ok (.invokevirtual 226, 3) := by decide +kernel
theorem dX10_together_40 : decode cX10_together 40 = .ok (.goto 11, 3) := by decide +kernel
theorem dX10_together_43 : decode cX10_together 43 = .ok (.aload_n 0, 1) := by decide +kernel
theorem dX10_together_44 : decode cX10_together 44 = .ok (.getfield 53, 3) := by decide +kernel
theorem dX10_together_47 : decode cX10_together 47 = .ok (.iload_n 1, 1) := by decide +kernel
theorem dX10_together_48 : decode cX10_together 48 = .ok (.invokevirtual 229, 3) := by decide +kernel
theorem dX10_together_51 : decode cX10_together 51 = .ok (.ireturn, 1) := by decide +kernel
theorem dX10_luck_0 : decode cX10_luck 0 = .ok (.iload_n 1, 1) := by decide +kernel
theorem dX10_luck_1 : decode cX10_luck 1 = .ok (.invokestatic 154, 3) := by decide +kernel
theorem dX10_luck_4 : decode cX10_luck 4 = .ok (.ifCond .eq 12, 3) := by decide +kernel
theorem dX10_luck_7 : decode cX10_luck 7 = .ok (.iload_n 2, 1) := by decide +kernel
theorem dX10_luck_8 : decode cX10_luck 8 = .ok (.ifCond .lt 8, 3) := by decide +kernel
theorem dX10_luck_11 : decode cX10_luck 11 = .ok (.iload_n 2, 1) := by decide +kernel
theorem dX10_luck_12 : decode cX10_luck 12 = .ok (.iconst 2, 1) := by decide +kernel
theorem dX10_luck_13 : decode cX10_luck 13 = .ok (.if_icmp .le 7, 3) := by decide +kernel
theorem dX10_luck_16 : decode cX10_luck 16 = .ok (.ldc2_w 232, 3) := by decide +kernel
theorem dX10_luck_19 : decode cX10_luck 19 = .ok (.lreturn, 1) := by decide +kernel
theorem dX10_luck_20 : decode cX10_luck 20 = .ok (.aload_n 0, 1) := by decide +kernel
theorem dX10_luck_21 : decode cX10_luck 21 = .ok (.getfield 53, 3) := by decide +kernel
theorem dX10_luck_24 : decode cX10_luck 24 = .ok (.invokevirtual 219, 3) := by decide +kernel
theorem dX10_luck_27 : decode cX10_luck 27 = .ok (.aload_n 0, 1) := by decide +kernel
theorem dX10_luck_28 : decode cX10_luck 28 = .ok (.getfield 53, 3) := by decide +kernel
theorem dX10_luck_31 : decode cX10_luck 31 = .ok (.iload_n 1, 1) := by decide +kernel
theorem dX10_luck_32 : decode cX10_luck 32 = .ok (.invokevirtual 234, 3) := by decide +kernel
theorem dX10_luck_35 : decode cX10_luck 35 = .ok (.iload_n 2, 1) := by decide +kernel
theorem dX10_luck_36 : decode cX10_luck 36 = .ok (.lookupswitch 46 #[(0, 28), (1, 37)], 28) := by decide +kernel
theorem dX10_luck_64 : decode cX10_luck 64 = .ok (.aload_n 0, 1) := by decide +kernel
theorem dX10_luck_65 : decode cX10_luck 65 = .ok (.getfield 53, 3) := by decide +kernel
theorem dX10_luck_68 : decode cX10_luck 68 = .ok (.getfield 237, 3) := by decide +kernel
theorem dX10_luck_71 : decode cX10_luck 71 = .ok (.i2l, 1) := by decide +kernel
theorem dX10_luck_72 : decode cX10_luck 72 = .ok (.lreturn, 1) := by decide +kernel
theorem dX10_luck_73 : decode cX10_luck 73 = .ok (.aload_n 0, 1) := by decide +kernel
theorem dX10_luck_74 : decode cX10_luck 74 = .ok (.getfield 53, 3) := by decide +kernel
theorem dX10_luck_77 : decode cX10_luck 77 = .ok (.getfield 240, 3) := by decide +kernel
theorem dX10_luck_80 : decode cX10_luck 80 = .ok (.i2l, 1) := by decide +kernel
theorem dX10_luck_81 : decode cX10_luck 81 = .ok (.lreturn, 1) := by decide +kernel
theorem dX10_luck_82 : decode cX10_luck 82 = .ok (.aload_n 0, 1) := by decide +kernel
theorem dX10_luck_83 : decode cX10_luck 83 = .ok (.getfield 53, 3) := by decide +kernel
theorem dX10_luck_86 : decode cX10_luck 86 = .ok (.getfield 237, 3) := by decide +kernel
theorem dX10_luck_89 : decode cX10_luck 89 = .ok (.aload_n 0, 1) := by decide +kernel
theorem dX10_luck_90 : decode cX10_luck 90 = .ok (.getfield 53, 3) := by decide +kernel
theorem dX10_luck_93 : decode cX10_luck 93 = .ok (.getfield 240, 3) := by decide +kernel
theorem dX10_luck_96 : decode cX10_luck 96 = .ok (.invokestatic 243, 3) := by decide +kernel
theorem dX10_luck_99 : decode cX10_luck 99 = .ok (.lreturn, 1) := by decide +kernel
theorem dX10_tie_0 : decode cX10_tie 0 = .ok (.aload_n 0, 1) := by decide +kernel
theorem dX10_tie_1 : decode cX10_tie 1 = .ok (.getfield 35, 3) := by decide +kernel
theorem dX10_tie_4 : decode cX10_tie 4 = .ok (.iload_n 1, 1) := by decide +kernel
theorem dX10_tie_5 : decode cX10_tie 5 = .ok (.invokevirtual 136, 3) := by decide +kernel
theorem dX10_tie_8 : decode cX10_tie 8 = .ok (.ifCond .eq 19, 3) := by decide +kernel
theorem dX10_tie_11 : decode cX10_tie 11 = .ok (.aload_n 0, 1) := by decide +kernel
theorem dX10_tie_12 : decode cX10_tie 12 = .ok (.getfield 35, 3) := by decide +kernel
theorem dX10_tie_15 : decode cX10_tie 15 = .ok (.iload_n 2, 1) := by decide +kernel
theorem dX10_tie_16 : decode cX10_tie 16 = .ok (.invokevirtual 136, 3) := by decide +kernel
theorem dX10_tie_19 : decode cX10_tie 19 = .ok (.ifCond .eq 8, 3) := by decide +kernel
theorem dX10_tie_22 : decode cX10_tie 22 = .ok (.iload_n 1, 1) := by decide +kernel
theorem dX10_tie_23 : decode cX10_tie 23 = .ok (.iload_n 2, 1) := by decide +kernel
theorem dX10_tie_24 : decode cX10_tie 24 = .ok (.if_icmp .ne 6, 3) := by decide +kernel
theorem dX10_tie_27 : decode cX10_tie 27 = .ok (.bipush (-2), 2) := by decide +kernel
theorem dX10_tie_29 : decode cX10_tie 29 = .ok (.ireturn, 1) := by decide +kernel
theorem dX10_tie_30 : decode cX10_tie 30 = .ok (.iload_n 3, 1) := by decide +kernel
theorem dX10_tie_31 : decode cX10_tie 31 = .ok (.ifCond .lt 8, 3) := by decide +kernel
theorem dX10_tie_34 : decode cX10_tie 34 = .ok (.iload_n 3, 1) := by decide +kernel
theorem dX10_tie_35 : decode cX10_tie 35 = .ok (.iconst 2, 1) := by decide +kernel
theorem dX10_tie_36 : decode cX10_tie 36 = .ok (.if_icmp .le 6, 3) := by decide +kernel
theorem dX10_tie_39 : decode cX10_tie 39 = .ok (.bipush (-2), 2) := by decide +kernel
theorem dX10_tie_41 : decode cX10_tie 41 = .ok (.ireturn, 1) := by decide +kernel
theorem dX10_tie_42 : decode cX10_tie 42 = .ok (.aload_n 0, 1) := by decide +kernel
theorem dX10_tie_43 : decode cX10_tie 43 = .ok (.getfield 62, 3) := by decide +kernel
theorem dX10_tie_46 : decode cX10_tie 46 = .ok (.getfield 247, 3) := by decide +kernel
theorem dX10_tie_49 : decode cX10_tie 49 = .ok (.bipush 30, 2) := by decide +kernel
theorem dX10_tie_51 : decode cX10_tie 51 = .ok (.if_icmp .ge 16, 3) := by decide +kernel
theorem dX10_tie_54 : decode cX10_tie 54 = .ok (.aload_n 0, 1) := by decide +kernel
theorem dX10_tie_55 : decode cX10_tie 55 = .ok (.getfield 62, 3) := by decide +kernel
theorem dX10_tie_58 : decode cX10_tie 58 = .ok (.iload_n 1, 1) := by decide +kernel
theorem dX10_tie_59 : decode cX10_tie 59 = .ok (.iload_n 2, 1) := by decide +kernel
theorem dX10_tie_60 : decode cX10_tie 60 = .ok (.iload_n 3, 1) := by decide +kernel
theorem dX10_tie_61 : decode cX10_tie 61 = .ok (.invokevirtual 250, 3) := by decide +kernel
theorem dX10_tie_64 : decode cX10_tie 64 = .ok (.goto 5, 3) := by decide +kernel
theorem dX10_tie_67 : decode cX10_tie 67 = .ok (.bipush (-3), 2) := by decide +kernel
theorem dX10_tie_69 : decode cX10_tie 69 = .ok (.ireturn, 1) := by decide +kernel
theorem dX10_pumps_0 : decode cX10_pumps 0 = .ok (.iload_n 1, 1) := by decide +kernel
theorem dX10_pumps_1 : decode cX10_pumps 1 = .ok (.invokestatic 154, 3) := by decide +kernel
theorem dX10_pumps_4 : decode cX10_pumps 4 = .ok (.ifCond .eq 22, 3) := by decide +kernel
theorem dX10_pumps_7 : decode cX10_pumps 7 = .ok (.iload_n 2, 1) := by decide +kernel
theorem dX10_pumps_8 : decode cX10_pumps 8 = .ok (.invokestatic 125, 3) := by decide +kernel
theorem dX10_pumps_11 : decode cX10_pumps 11 = .ok (.ifCond .eq 15, 3) := by decide +kernel
theorem dX10_pumps_14 : decode cX10_pumps 14 = .ok (.aload_n 0, 1) := by decide +kernel
theorem dX10_pumps_15 : decode cX10_pumps 15 = .ok (.getfield 62, 3) := by decide +kernel
theorem dX10_pumps_18 : decode cX10_pumps 18 = .ok (.iload_n 1, 1) := by decide +kernel
theorem dX10_pumps_19 : decode cX10_pumps 19 = .ok (.iload_n 2, 1) := by decide +kernel
theorem dX10_pumps_20 : decode cX10_pumps 20 = .ok (.invokevirtual 252, 3) := by decide +kernel
theorem dX10_pumps_23 : decode cX10_pumps 23 = .ok (.goto 5, 3) := by decide +kernel
theorem dX10_pumps_26 : decode cX10_pumps 26 = .ok (.bipush (-2), 2) := by decide +kernel
theorem dX10_pumps_28 : decode cX10_pumps 28 = .ok (.ireturn, 1) := by decide +kernel
theorem dX10_mend_0 : decode cX10_mend 0 = .ok (.iload_n 1, 1) := by decide +kernel
theorem dX10_mend_1 : decode cX10_mend 1 = .ok (.invokestatic 154, 3) := by decide +kernel
theorem dX10_mend_4 : decode cX10_mend 4 = .ok (.ifCond .eq 27, 3) := by decide +kernel
theorem dX10_mend_7 : decode cX10_mend 7 = .ok (.iload_n 2, 1) := by decide +kernel
theorem dX10_mend_8 : decode cX10_mend 8 = .ok (.invokestatic 125, 3) := by decide +kernel
theorem dX10_mend_11 : decode cX10_mend 11 = .ok (.ifCond .eq 20, 3) := by decide +kernel
theorem dX10_mend_14 : decode cX10_mend 14 = .ok (.iload_n 3, 1) := by decide +kernel
theorem dX10_mend_15 : decode cX10_mend 15 = .ok (.iconst 1, 1) := by decide +kernel
theorem dX10_mend_16 : decode cX10_mend 16 = .ok (.if_icmp .lt 15, 3) := by decide +kernel
theorem dX10_mend_19 : decode cX10_mend 19 = .ok (.iload_n 3, 1) := by decide +kernel
theorem dX10_mend_20 : decode cX10_mend 20 = .ok (.aload_n 0, 1) := by decide +kernel
theorem dX10_mend_21 : decode cX10_mend 21 = .ok (.getfield 35, 3) := by decide +kernel
theorem dX10_mend_24 : decode cX10_mend 24 = .ok (.getfield 129, 3) := by decide +kernel
theorem dX10_mend_27 : decode cX10_mend 27 = .ok (.ishr, 1) := by decide +kernel
theorem dX10_mend_28 : decode cX10_mend 28 = .ok (.ifCond .eq 6, 3) := by decide +kernel
theorem dX10_mend_31 : decode cX10_mend 31 = .ok (.bipush (-2), 2) := by decide +kernel
theorem dX10_mend_33 : decode cX10_mend 33 = .ok (.ireturn, 1) := by decide +kernel
theorem dX10_mend_34 : decode cX10_mend 34 = .ok (.iload_n 3, 1) := by decide +kernel
theorem dX10_mend_35 : decode cX10_mend 35 = .ok (.invokestatic 255, 3) := by decide +kernel
theorem dX10_mend_38 : decode cX10_mend 38 = .ok (.iconst 4, 1) := by decide +kernel
theorem dX10_mend_39 : decode cX10_mend 39 = .ok (.if_icmp .le 6, 3) := by decide +kernel
theorem dX10_mend_42 : decode cX10_mend 42 = .ok (.bipush (-3), 2) := by decide +kernel
theorem dX10_mend_44 : decode cX10_mend 44 = .ok (.ireturn, 1) := by decide +kernel
theorem dX10_mend_45 : decode cX10_mend 45 = .ok (.aload_n 0, 1) := by decide +kernel
theorem dX10_mend_46 : decode cX10_mend 46 = .ok (.getfield 71, 3) := by decide +kernel
theorem dX10_mend_49 : decode cX10_mend 49 = .ok (.iload_n 1, 1) := by decide +kernel
theorem dX10_mend_50 : decode cX10_mend 50 = .ok (.iload_n 2, 1) := by decide +kernel
theorem dX10_mend_51 : decode cX10_mend 51 = .ok (.iload_n 3, 1) := by decide +kernel
theorem dX10_mend_52 : decode cX10_mend 52 = .ok (.invokevirtual 260, 3) := by decide +kernel
theorem dX10_mend_55 : decode cX10_mend 55 = .ok (.ifCond .eq 13, 3) := by decide +kernel
theorem dX10_mend_58 : decode cX10_mend 58 = .ok (.aload_n 0, 1) := by decide +kernel
theorem dX10_mend_59 : decode cX10_mend 59 = .ok (.getfield 71, 3) := by decide +kernel
theorem dX10_mend_62 : decode cX10_mend 62 = .ok (.invokevirtual 263, 3) := by decide +kernel
theorem dX10_mend_65 : decode cX10_mend 65 = .ok (.goto 5, 3) := by decide +kernel
theorem dX10_mend_68 : decode cX10_mend 68 = .ok (.bipush (-4), 2) := by decide +kernel
theorem dX10_mend_70 : decode cX10_mend 70 = .ok (.ireturn, 1) := by decide +kernel
theorem dX10_mended_0 : decode cX10_mended 0 = .ok (.aload_n 0, 1) := by decide +kernel
theorem dX10_mended_1 : decode cX10_mended 1 = .ok (.getfield 35, 3) := by decide +kernel
theorem dX10_mended_4 : decode cX10_mended 4 = .ok (.iload_n 1, 1) := by decide +kernel
theorem dX10_mended_5 : decode cX10_mended 5 = .ok (.invokevirtual 136, 3) := by decide +kernel
theorem dX10_mended_8 : decode cX10_mended 8 = .ok (.ifCond .eq 15, 3) := by decide +kernel
theorem dX10_mended_11 : decode cX10_mended 11 = .ok (.aload_n 0, 1) := by decide +kernel
theorem dX10_mended_12 : decode cX10_mended 12 = .ok (.getfield 71, 3) := by decide +kernel
theorem dX10_mended_15 : decode cX10_mended 15 = .ok (.getfield 266, 3) := by decide +kernel
theorem dX10_mended_18 : decode cX10_mended 18 = .ok (.iload_n 1, 1) := by decide +kernel
theorem dX10_mended_19 : decode cX10_mended 19 = .ok (.iaload, 1) := by decide +kernel
theorem dX10_mended_20 : decode cX10_mended 20 = .ok (.goto 4, 3) := by decide +kernel
theorem dX10_mended_23 : decode cX10_mended 23 = .ok (.iconst (-1), 1) := by decide +kernel
theorem dX10_mended_24 : decode cX10_mended 24 = .ok (.ireturn, 1) := by decide +kernel
theorem dX10_about_0 : decode cX10_about 0 = .ok (.aload_n 0, 1) := by decide +kernel
theorem dX10_about_1 : decode cX10_about 1 = .ok (.getfield 35, 3) := by decide +kernel
theorem dX10_about_4 : decode cX10_about 4 = .ok (.iload_n 1, 1) := by decide +kernel
theorem dX10_about_5 : decode cX10_about 5 = .ok (.invokevirtual 136, 3) := by decide +kernel
theorem dX10_about_8 : decode cX10_about 8 = .ok (.ifCond .ne 5, 3) := by decide +kernel
theorem dX10_about_11 : decode cX10_about 11 = .ok (.iconst (-1), 1) := by decide +kernel
theorem dX10_about_12 : decode cX10_about 12 = .ok (.ireturn, 1) := by decide +kernel
theorem dX10_about_13 : decode cX10_about 13 = .ok (.aload_n 0, 1) := by decide +kernel
theorem dX10_about_14 : decode cX10_about 14 = .ok (.getfield 35, 3) := by decide +kernel
theorem dX10_about_17 : decode cX10_about 17 = .ok (.getfield 139, 3) := by decide +kernel
theorem dX10_about_20 : decode cX10_about 20 = .ok (.iload_n 1, 1) := by decide +kernel
theorem dX10_about_21 : decode cX10_about 21 = .ok (.aaload, 1) := by decide +kernel
theorem dX10_about_22 : decode cX10_about 22 = .ok (.astore_n 3, 1) := by decide +kernel
theorem dX10_about_23 : decode cX10_about 23 = .ok (.iload_n 2, 1) := by decide +kernel
theorem dX10_about_24 : decode cX10_about 24 = .ok (.tableswitch 61 0 4 #[36, 41, 46, 51, 56], 36) := by decide +kernel
theorem dX10_about_60 : decode cX10_about 60 = .ok (.aload_n 3, 1) := by decide +kernel
theorem dX10_about_61 : decode cX10_about 61 = .ok (.getfield 143, 3) := by decide +kernel
theorem dX10_about_64 : decode cX10_about 64 = .ok (.ireturn, 1) := by decide +kernel
theorem dX10_about_65 : decode cX10_about 65 = .ok (.aload_n 3, 1) := by decide +kernel
theorem dX10_about_66 : decode cX10_about 66 = .ok (.getfield 160, 3) := by decide +kernel
theorem dX10_about_69 : decode cX10_about 69 = .ok (.ireturn, 1) := by decide +kernel
theorem dX10_about_70 : decode cX10_about 70 = .ok (.aload_n 3, 1) := by decide +kernel
theorem dX10_about_71 : decode cX10_about 71 = .ok (.getfield 148, 3) := by decide +kernel
theorem dX10_about_74 : decode cX10_about 74 = .ok (.ireturn, 1) := by decide +kernel
theorem dX10_about_75 : decode cX10_about 75 = .ok (.aload_n 3, 1) := by decide +kernel
theorem dX10_about_76 : decode cX10_about 76 = .ok (.getfield 151, 3) := by decide +kernel
theorem dX10_about_79 : decode cX10_about 79 = .ok (.ireturn, 1) := by decide +kernel
theorem dX10_about_80 : decode cX10_about 80 = .ok (.aload_n 3, 1) := by decide +kernel
theorem dX10_about_81 : decode cX10_about 81 = .ok (.getfield 269, 3) := by decide +kernel
theorem dX10_about_84 : decode cX10_about 84 = .ok (.ireturn, 1) := by decide +kernel
theorem dX10_about_85 : decode cX10_about 85 = .ok (.iconst (-1), 1) := by decide +kernel
theorem dX10_about_86 : decode cX10_about 86 = .ok (.ireturn, 1) := by decide +kernel
theorem dX10_count_0 : decode cX10_count 0 = .ok (.iload_n 1, 1) := by decide +kernel
theorem dX10_count_1 : decode cX10_count 1 = .ok (.tableswitch 82 0 4 #[35, 43, 51, 59, 67], 35) := by decide +kernel
theorem dX10_count_36 : decode cX10_count 36 = .ok (.aload_n 0, 1) := by decide +kernel
theorem dX10_count_37 : decode cX10_count 37 = .ok (.getfield 35, 3) := by decide +kernel
theorem dX10_count_40 : decode cX10_count 40 = .ok (.getfield 129, 3) := by decide +kernel
theorem dX10_count_43 : decode cX10_count 43 = .ok (.ireturn, 1) := by decide +kernel
theorem dX10_count_44 : decode cX10_count 44 = .ok (.aload_n 0, 1) := by decide +kernel
theorem dX10_count_45 : decode cX10_count 45 = .ok (.getfield 35, 3) := by decide +kernel
theorem dX10_count_48 : decode cX10_count 48 = .ok (.getfield 167, 3) := by decide +kernel
theorem dX10_count_51 : decode cX10_count 51 = .ok (.ireturn, 1) := by decide +kernel
theorem dX10_count_52 : decode cX10_count 52 = .ok (.aload_n 0, 1) := by decide +kernel
theorem dX10_count_53 : decode cX10_count 53 = .ok (.getfield 62, 3) := by decide +kernel
theorem dX10_count_56 : decode cX10_count 56 = .ok (.getfield 247, 3) := by decide +kernel
theorem dX10_count_59 : decode cX10_count 59 = .ok (.ireturn, 1) := by decide +kernel
theorem dX10_count_60 : decode cX10_count 60 = .ok (.aload_n 0, 1) := by decide +kernel
theorem dX10_count_61 : decode cX10_count 61 = .ok (.getfield 10, 3) := by decide +kernel
theorem dX10_count_64 : decode cX10_count 64 = .ok (.getfield 75, 3) := by decide +kernel
theorem dX10_count_67 : decode cX10_count 67 = .ok (.ireturn, 1) := by decide +kernel
theorem dX10_count_68 : decode cX10_count 68 = .ok (.aload_n 0, 1) := by decide +kernel
theorem dX10_count_69 : decode cX10_count 69 = .ok (.getfield 44, 3) := by decide +kernel
theorem dX10_count_72 : decode cX10_count 72 = .ok (.invokevirtual 181, 3) := by decide +kernel
theorem dX10_count_75 : decode cX10_count 75 = .ok (.aload_n 0, 1) := by decide +kernel
theorem dX10_count_76 : decode cX10_count 76 = .ok (.getfield 44, 3) := by decide +kernel
theorem dX10_count_79 : decode cX10_count 79 = .ok (.invokevirtual 272, 3) := by decide +kernel
theorem dX10_count_82 : decode cX10_count 82 = .ok (.ireturn, 1) := by decide +kernel
theorem dX10_count_83 : decode cX10_count 83 = .ok (.iconst (-1), 1) := by decide +kernel
theorem dX10_count_84 : decode cX10_count 84 = .ok (.ireturn, 1) := by decide +kernel
theorem dX10_isDay_0 : decode cX10_isDay 0 = .ok (.iload_n 0, 1) := by decide +kernel
theorem dX10_isDay_1 : decode cX10_isDay 1 = .ok (.ifCond .lt 14, 3) := by decide +kernel
theorem dX10_isDay_4 : decode cX10_isDay 4 = .ok (.iload_n 0, 1) := by decide +kernel
theorem dX10_isDay_5 : decode cX10_isDay 5 = .ok (.sipush 1000, 3) := by decide +kernel
theorem dX10_isDay_8 : decode cX10_isDay 8 = .ok (.if_icmp .ge 7, 3) := by decide +kernel
theorem dX10_isDay_11 : decode cX10_isDay 11 = .ok (.iconst 1, 1) := by decide +kernel
theorem dX10_isDay_12 : decode cX10_isDay 12 = .ok (.goto 4, 3) := by decide +kernel
theorem dX10_isDay_15 : decode cX10_isDay 15 = .ok (.iconst 0, 1) := by decide +kernel
theorem dX10_isDay_16 : decode cX10_isDay 16 = .ok (.ireturn, 1) := by decide +kernel
theorem dX10_isGuesser_0 : decode cX10_isGuesser 0 = .ok (.iload_n 0, 1) := by decide +kernel
theorem dX10_isGuesser_1 : decode cX10_isGuesser 1 = .ok (.ifCond .lt 13, 3) := by decide +kernel
theorem dX10_isGuesser_4 : decode cX10_isGuesser 4 = .ok (.iload_n 0, 1) := by decide +kernel
theorem dX10_isGuesser_5 : decode cX10_isGuesser 5 = .ok (.bipush 20, 2) := by decide +kernel
theorem dX10_isGuesser_7 : decode cX10_isGuesser 7 = .ok (.if_icmp .ge 7, 3) := by decide +kernel
theorem dX10_isGuesser_10 : decode cX10_isGuesser 10 = .ok (.iconst 1, 1) := by decide +kernel
theorem dX10_isGuesser_11 : decode cX10_isGuesser 11 = .ok (.goto 4, 3) := by decide +kernel
theorem dX10_isGuesser_14 : decode cX10_isGuesser 14 = .ok (.iconst 0, 1) := by decide +kernel
theorem dX10_isGuesser_15 : decode cX10_isGuesser 15 = .ok (.ireturn, 1) := by decide +kernel
theorem dX10_isTenth_0 : decode cX10_isTenth 0 = .ok (.iload_n 0, 1) := by decide +kernel
theorem dX10_isTenth_1 : decode cX10_isTenth 1 = .ok (.ifCond .lt 13, 3) := by decide +kernel
theorem dX10_isTenth_4 : decode cX10_isTenth 4 = .ok (.iload_n 0, 1) := by decide +kernel
theorem dX10_isTenth_5 : decode cX10_isTenth 5 = .ok (.bipush 11, 2) := by decide +kernel
theorem dX10_isTenth_7 : decode cX10_isTenth 7 = .ok (.if_icmp .ge 7, 3) := by decide +kernel
theorem dX10_isTenth_10 : decode cX10_isTenth 10 = .ok (.iconst 1, 1) := by decide +kernel
theorem dX10_isTenth_11 : decode cX10_isTenth 11 = .ok (.goto 4, 3) := by decide +kernel
theorem dX10_isTenth_14 : decode cX10_isTenth 14 = .ok (.iconst 0, 1) := by decide +kernel
theorem dX10_isTenth_15 : decode cX10_isTenth 15 = .ok (.ireturn, 1) := by decide +kernel
theorem dX10_isZeroOrOne_0 : decode cX10_isZeroOrOne 0 = .ok (.iload_n 0, 1) := by decide +kernel
theorem dX10_isZeroOrOne_1 : decode cX10_isZeroOrOne 1 = .ok (.ifCond .eq 8, 3) := by decide +kernel
theorem dX10_isZeroOrOne_4 : decode cX10_isZeroOrOne 4 = .ok (.iload_n 0, 1) := by decide +kernel
theorem dX10_isZeroOrOne_5 : decode cX10_isZeroOrOne 5 = .ok (.iconst 1, 1) := by decide +kernel
theorem dX10_isZeroOrOne_6 : decode cX10_isZeroOrOne 6 = .ok (.if_icmp .ne 7, 3) := by decide +kernel
theorem dX10_isZeroOrOne_9 : decode cX10_isZeroOrOne 9 = .ok (.iconst 1, 1) := by decide +kernel
theorem dX10_isZeroOrOne_10 : decode cX10_isZeroOrOne 10 = .ok (.goto 4, 3) := by decide +kernel
theorem dX10_isZeroOrOne_13 : decode cX10_isZeroOrOne 13 = .ok (.iconst 0, 1) := by decide +kernel
theorem dX10_isZeroOrOne_14 : decode cX10_isZeroOrOne 14 = .ok (.ireturn, 1) := by decide +kernel
theorem dX10_cell_0 : decode cX10_cell 0 = .ok (.iload_n 0, 1) := by decide +kernel
theorem dX10_cell_1 : decode cX10_cell 1 = .ok (.bipush 20, 2) := by decide +kernel
theorem dX10_cell_3 : decode cX10_cell 3 = .ok (.imul, 1) := by decide +kernel
theorem dX10_cell_4 : decode cX10_cell 4 = .ok (.iload_n 1, 1) := by decide +kernel
theorem dX10_cell_5 : decode cX10_cell 5 = .ok (.iadd, 1) := by decide +kernel
theorem dX10_cell_6 : decode cX10_cell 6 = .ok (.ireturn, 1) := by decide +kernel
theorem dX10_pair_0 : decode cX10_pair 0 = .ok (.iload_n 0, 1) := by decide +kernel
theorem dX10_pair_1 : decode cX10_pair 1 = .ok (.bipush 20, 2) := by decide +kernel
theorem dX10_pair_3 : decode cX10_pair 3 = .ok (.imul, 1) := by decide +kernel
theorem dX10_pair_4 : decode cX10_pair 4 = .ok (.iload_n 1, 1) := by decide +kernel
theorem dX10_pair_5 : decode cX10_pair 5 = .ok (.iadd, 1) := by decide +kernel
theorem dX10_pair_6 : decode cX10_pair 6 = .ok (.ireturn, 1) := by decide +kernel
theorem dX11_init_0 : decode cX11_init 0 = .ok (.aload_n 0, 1) := by decide +kernel
theorem dX11_init_1 : decode cX11_init 1 = .ok (.aconst_null, 1) := by decide +kernel
theorem dX11_init_2 : decode cX11_init 2 = .ok (.aconst_null, 1) := by decide +kernel
theorem dX11_init_3 : decode cX11_init 3 = .ok (.iconst 0, 1) := by decide +kernel
theorem dX11_init_4 : decode cX11_init 4 = .ok (.iconst 0, 1) := by decide +kernel
theorem dX11_init_5 : decode cX11_init 5 = .ok (.invokespecial 1, 3) := by decide +kernel
theorem dX11_init_8 : decode cX11_init 8 = .ok (.return_, 1) := by decide +kernel
theorem dX12_in_0 : decode cX12_in 0 = .ok (.lload_n 0, 1) := by decide +kernel
theorem dX12_in_1 : decode cX12_in 1 = .ok (.lload_n 2, 1) := by decide +kernel
theorem dX12_in_2 : decode cX12_in 2 = .ok (.lcmp, 1) := by decide +kernel
theorem dX12_in_3 : decode cX12_in 3 = .ok (.ifCond .lt 14, 3) := by decide +kernel
theorem dX12_in_6 : decode cX12_in 6 = .ok (.lload_n 0, 1) := by decide +kernel
theorem dX12_in_7 : decode cX12_in 7 = .ok (.lload 4, 2) := by decide +kernel
theorem dX12_in_9 : decode cX12_in 9 = .ok (.lcmp, 1) := by decide +kernel
theorem dX12_in_10 : decode cX12_in 10 = .ok (.ifCond .gt 7, 3) := by decide +kernel
theorem dX12_in_13 : decode cX12_in 13 = .ok (.iconst 1, 1) := by decide +kernel
theorem dX12_in_14 : decode cX12_in 14 = .ok (.goto 4, 3) := by decide +kernel
theorem dX12_in_17 : decode cX12_in 17 = .ok (.iconst 0, 1) := by decide +kernel
theorem dX12_in_18 : decode cX12_in 18 = .ok (.ireturn, 1) := by decide +kernel
theorem dX12_isDay_0 : decode cX12_isDay 0 = .ok (.iload_n 0, 1) := by decide +kernel
theorem dX12_isDay_1 : decode cX12_isDay 1 = .ok (.i2l, 1) := by decide +kernel
theorem dX12_isDay_2 : decode cX12_isDay 2 = .ok (.lconst 0, 1) := by decide +kernel
theorem dX12_isDay_3 : decode cX12_isDay 3 = .ok (.ldc2_w 3, 3) := by decide +kernel
theorem dX12_isDay_6 : decode cX12_isDay 6 = .ok (.invokestatic 5, 3) := by decide +kernel
theorem dX12_isDay_9 : decode cX12_isDay 9 = .ok (.ireturn, 1) := by decide +kernel
theorem dX12_wrong_0 : decode cX12_wrong 0 = .ok (.aload_n 0, 1) := by decide +kernel
theorem dX12_wrong_1 : decode cX12_wrong 1 = .ok (.iload_n 1, 1) := by decide +kernel
theorem dX12_wrong_2 : decode cX12_wrong 2 = .ok (.putfield 9, 3) := by decide +kernel
theorem dX12_wrong_5 : decode cX12_wrong 5 = .ok (.aload_n 0, 1) := by decide +kernel
theorem dX12_wrong_6 : decode cX12_wrong 6 = .ok (.aload_n 0, 1) := by decide +kernel
theorem dX12_wrong_7 : decode cX12_wrong 7 = .ok (.getfield 13, 3) := by decide +kernel
theorem dX12_wrong_10 : decode cX12_wrong 10 = .ok (.putfield 16, 3) := by decide +kernel
theorem dX12_wrong_13 : decode cX12_wrong 13 = .ok (.aload_n 0, 1) := by decide +kernel
theorem dX12_wrong_14 : decode cX12_wrong 14 = .ok (.getfield 19, 3) := by decide +kernel
theorem dX12_wrong_17 : decode cX12_wrong 17 = .ok (.areturn, 1) := by decide +kernel
theorem dX12_byteAt_0 : decode cX12_byteAt 0 = .ok (.iload_n 1, 1) := by decide +kernel
theorem dX12_byteAt_1 : decode cX12_byteAt 1 = .ok (.aload_n 0, 1) := by decide +kernel
theorem dX12_byteAt_2 : decode cX12_byteAt 2 = .ok (.getfield 23, 3) := by decide +kernel
theorem dX12_byteAt_5 : decode cX12_byteAt 5 = .ok (.if_icmp .ge 16, 3) := by decide +kernel
theorem dX12_byteAt_8 : decode cX12_byteAt 8 = .ok (.aload_n 0, 1) := by decide +kernel
theorem dX12_byteAt_9 : decode cX12_byteAt 9 = .ok (.getfield 26, 3) := by decide +kernel
theorem dX12_byteAt_12 : decode cX12_byteAt 12 = .ok (.iload_n 1, 1) := by decide +kernel
theorem dX12_byteAt_13 : decode cX12_byteAt 13 = .ok (.baload, 1) := by decide +kernel
theorem dX12_byteAt_14 : decode cX12_byteAt 14 = .ok (.sipush 255, 3) := by decide +kernel
theorem dX12_byteAt_17 : decode cX12_byteAt 17 = .ok (.iand, 1) := by decide +kernel
theorem dX12_byteAt_18 : decode cX12_byteAt 18 = .ok (.goto 4, 3) := by decide +kernel
theorem dX12_byteAt_21 : decode cX12_byteAt 21 = .ok (.iconst 0, 1) := by decide +kernel
theorem dX12_byteAt_22 : decode cX12_byteAt 22 = .ok (.ireturn, 1) := by decide +kernel
theorem dX12_isLetter_0 : decode cX12_isLetter 0 = .ok (.iload_n 0, 1) := by decide +kernel
theorem dX12_isLetter_1 : decode cX12_isLetter 1 = .ok (.bipush 97, 2) := by decide +kernel
theorem dX12_isLetter_3 : decode cX12_isLetter 3 = .ok (.if_icmp .lt 13, 3) := by decide +kernel
theorem dX12_isLetter_6 : decode cX12_isLetter 6 = .ok (.iload_n 0, 1) := by decide +kernel
theorem dX12_isLetter_7 : decode cX12_isLetter 7 = .ok (.bipush 122, 2) := by decide +kernel
theorem dX12_isLetter_9 : decode cX12_isLetter 9 = .ok (.if_icmp .gt 7, 3) := by decide +kernel
theorem dX12_isLetter_12 : decode cX12_isLetter 12 = .ok (.iconst 1, 1) := by decide +kernel
theorem dX12_isLetter_13 : decode cX12_isLetter 13 = .ok (.goto 4, 3) := by decide +kernel
theorem dX12_isLetter_16 : decode cX12_isLetter 16 = .ok (.iconst 0, 1) := by decide +kernel
theorem dX12_isLetter_17 : decode cX12_isLetter 17 = .ok (.ireturn, 1) := by decide +kernel
theorem dX12_isDigit_0 : decode cX12_isDigit 0 = .ok (.iload_n 0, 1) := by decide +kernel
theorem dX12_isDigit_1 : decode cX12_isDigit 1 = .ok (.bipush 48, 2) := by decide +kernel
theorem dX12_isDigit_3 : decode cX12_isDigit 3 = .ok (.if_icmp .lt 13, 3) := by decide +kernel
theorem dX12_isDigit_6 : decode cX12_isDigit 6 = .ok (.iload_n 0, 1) := by decide +kernel
theorem dX12_isDigit_7 : decode cX12_isDigit 7 = .ok (.bipush 57, 2) := by decide +kernel
theorem dX12_isDigit_9 : decode cX12_isDigit 9 = .ok (.if_icmp .gt 7, 3) := by decide +kernel
theorem dX12_isDigit_12 : decode cX12_isDigit 12 = .ok (.iconst 1, 1) := by decide +kernel
theorem dX12_isDigit_13 : decode cX12_isDigit 13 = .ok (.goto 4, 3) := by decide +kernel
theorem dX12_isDigit_16 : decode cX12_isDigit 16 = .ok (.iconst 0, 1) := by decide +kernel
theorem dX12_isDigit_17 : decode cX12_isDigit 17 = .ok (.ireturn, 1) := by decide +kernel
theorem dX12_scan_0 : decode cX12_scan 0 = .ok (.aload_n 0, 1) := by decide +kernel
theorem dX12_scan_1 : decode cX12_scan 1 = .ok (.getfield 30, 3) := by decide +kernel
theorem dX12_scan_4 : decode cX12_scan 4 = .ok (.aload_n 0, 1) := by decide +kernel
theorem dX12_scan_5 : decode cX12_scan 5 = .ok (.getfield 23, 3) := by decide +kernel
theorem dX12_scan_8 : decode cX12_scan 8 = .ok (.if_icmp .ge 44, 3) := by decide +kernel
theorem dX12_scan_11 : decode cX12_scan 11 = .ok (.aload_n 0, 1) := by decide +kernel
theorem dX12_scan_12 : decode cX12_scan 12 = .ok (.getfield 26, 3) := by decide +kernel
theorem dX12_scan_15 : decode cX12_scan 15 = .ok (.aload_n 0, 1) := by decide +kernel
theorem dX12_scan_16 : decode cX12_scan 16 = .ok (.getfield 30, 3) := by decide +kernel
theorem dX12_scan_19 : decode cX12_scan 19 = .ok (.baload, 1) := by decide +kernel
theorem dX12_scan_20 : decode cX12_scan 20 = .ok (.bipush 32, 2) := by decide +kernel
theorem dX12_scan_22 : decode cX12_scan 22 = .ok (.if_icmp .eq 17, 3) := by decide +kernel
theorem dX12_scan_25 : decode cX12_scan 25 = .ok (.aload_n 0, 1) := by decide +kernel
theorem dX12_scan_26 : decode cX12_scan 26 = .ok (.getfield 26, 3) := by decide +kernel
theorem dX12_scan_29 : decode cX12_scan 29 = .ok (.aload_n 0, 1) := by decide +kernel
theorem dX12_scan_30 : decode cX12_scan 30 = .ok (.getfield 30, 3) := by decide +kernel
theorem dX12_scan_33 : decode cX12_scan 33 = .ok (.baload, 1) := by decide +kernel
theorem dX12_scan_34 : decode cX12_scan 34 = .ok (.bipush 10, 2) := by decide +kernel
theorem dX12_scan_36 : decode cX12_scan 36 = .ok (.if_icmp .ne 16, 3) := by decide +kernel
theorem dX12_scan_39 : decode cX12_scan 39 = .ok (.aload_n 0, 1) := by decide +kernel
theorem dX12_scan_40 : decode cX12_scan 40 = .ok (.dup, 1) := by decide +kernel
theorem dX12_scan_41 : decode cX12_scan 41 = .ok (.getfield 30, 3) := by decide +kernel
theorem dX12_scan_44 : decode cX12_scan 44 = .ok (.iconst 1, 1) := by decide +kernel
theorem dX12_scan_45 : decode cX12_scan 45 = .ok (.iadd, 1) := by decide +kernel
theorem dX12_scan_46 : decode cX12_scan 46 = .ok (.putfield 30, 3) := by decide +kernel
theorem dX12_scan_49 : decode cX12_scan 49 = .ok (.goto (-49), 3) := by decide +kernel
theorem dX12_scan_52 : decode cX12_scan 52 = .ok (.aload_n 0, 1) := by decide +kernel
theorem dX12_scan_53 : decode cX12_scan 53 = .ok (.aload_n 0, 1) := by decide +kernel
theorem dX12_scan_54 : decode cX12_scan 54 = .ok (.getfield 30, 3) := by decide +kernel
theorem dX12_scan_57 : decode cX12_scan 57 = .ok (.putfield 13, 3) := by decide +kernel
theorem dX12_scan_60 : decode cX12_scan 60 = .ok (.aload_n 0, 1) := by decide +kernel
theorem dX12_scan_61 : decode cX12_scan 61 = .ok (.aload_n 0, 1) := by decide +kernel
theorem dX12_scan_62 : decode cX12_scan 62 = .ok (.getfield 13, 3) := by decide +kernel
theorem dX12_scan_65 : decode cX12_scan 65 = .ok (.invokevirtual 33, 3) := by decide +kernel
theorem dX12_scan_68 : decode cX12_scan 68 = .ok (.istore_n 1, 1) := by decide +kernel
theorem dX12_scan_69 : decode cX12_scan 69 = .ok (.aload_n 0, 1) := by decide +kernel
theorem dX12_scan_70 : decode cX12_scan 70 = .ok (.getfield 13, 3) := by decide +kernel
theorem dX12_scan_73 : decode cX12_scan 73 = .ok (.aload_n 0, 1) := by decide +kernel
theorem dX12_scan_74 : decode cX12_scan 74 = .ok (.getfield 23, 3) := by decide +kernel
theorem dX12_scan_77 : decode cX12_scan 77 = .ok (.if_icmp .ne 11, 3) := by decide +kernel
theorem dX12_scan_80 : decode cX12_scan 80 = .ok (.aload_n 0, 1) := by decide +kernel
theorem dX12_scan_81 : decode cX12_scan 81 = .ok (.iconst 0, 1) := by decide +kernel
theorem dX12_scan_82 : decode cX12_scan 82 = .ok (.putfield 37, 3) := by decide +kernel
theorem dX12_scan_85 : decode cX12_scan 85 = .ok (.goto 170, 3) := by decide +kernel
theorem dX12_scan_88 : decode cX12_scan 88 = .ok (.iload_n 1, 1) := by decide +kernel
theorem dX12_scan_89 : decode cX12_scan 89 = .ok (.invokestatic 40, 3) := by decide +kernel
theorem dX12_scan_92 : decode cX12_scan 92 = .ok (.ifCond .eq 38, 3) := by decide +kernel
theorem dX12_scan_95 : decode cX12_scan 95 = .ok (.aload_n 0, 1) := by decide +kernel
theorem dX12_scan_96 : decode cX12_scan 96 = .ok (.aload_n 0, 1) := by decide +kernel
theorem dX12_scan_97 : decode cX12_scan 97 = .ok (.getfield 30, 3) := by decide +kernel
theorem dX12_scan_100 : decode cX12_scan 100 = .ok (.invokevirtual 33, 3) := by decide +kernel
theorem dX12_scan_103 : decode cX12_scan 103 = .ok (.invokestatic 40, 3) := by decide +kernel
theorem dX12_scan_106 : decode cX12_scan 106 = .ok (.ifCond .eq 16, 3) := by decide +kernel
theorem dX12_scan_109 : decode cX12_scan 109 = .ok (.aload_n 0, 1) := by decide +kernel
theorem dX12_scan_110 : decode cX12_scan 110 = .ok (.dup, 1) := by decide +kernel
theorem dX12_scan_111 : decode cX12_scan 111 = .ok (.getfield 30, 3) := by decide +kernel
theorem dX12_scan_114 : decode cX12_scan 114 = .ok (.iconst 1, 1) := by decide +kernel
theorem dX12_scan_115 : decode cX12_scan 115 = .ok (.iadd, 1) := by decide +kernel
theorem dX12_scan_116 : decode cX12_scan 116 = .ok (.putfield 30, 3) := by decide +kernel
theorem dX12_scan_119 : decode cX12_scan 119 = .ok (.goto (-24), 3) := by decide +kernel
theorem dX12_scan_122 : decode cX12_scan 122 = .ok (.aload_n 0, 1) := by decide +kernel
theorem dX12_scan_123 : decode cX12_scan 123 = .ok (.iconst 1, 1) := by decide +kernel
theorem dX12_scan_124 : decode cX12_scan 124 = .ok (.putfield 37, 3) := by decide +kernel
theorem dX12_scan_127 : decode cX12_scan 127 = .ok (.goto 128, 3) := by decide +kernel
theorem dX12_scan_130 : decode cX12_scan 130 = .ok (.iload_n 1, 1) := by decide +kernel
theorem dX12_scan_131 : decode cX12_scan 131 = .ok (.invokestatic 44, 3) := by decide +kernel
theorem dX12_scan_134 : decode cX12_scan 134 = .ok (.ifCond .eq 96, 3) := by decide +kernel
theorem dX12_scan_137 : decode cX12_scan 137 = .ok (.aload_n 0, 1) := by decide +kernel
theorem dX12_scan_138 : decode cX12_scan 138 = .ok (.iconst 0, 1) := by decide +kernel
theorem dX12_scan_139 : decode cX12_scan 139 = .ok (.putfield 47, 3) := by decide +kernel
theorem dX12_scan_142 : decode cX12_scan 142 = .ok (.aload_n 0, 1) := by decide +kernel
theorem dX12_scan_143 : decode cX12_scan 143 = .ok (.aload_n 0, 1) := by decide +kernel
theorem dX12_scan_144 : decode cX12_scan 144 = .ok (.getfield 30, 3) := by decide +kernel
theorem dX12_scan_147 : decode cX12_scan 147 = .ok (.invokevirtual 33, 3) := by decide +kernel
theorem dX12_scan_150 : decode cX12_scan 150 = .ok (.invokestatic 44, 3) := by decide +kernel
theorem dX12_scan_153 : decode cX12_scan 153 = .ok (.ifCond .eq 52, 3) := by decide +kernel
theorem dX12_scan_156 : decode cX12_scan 156 = .ok (.aload_n 0, 1) := by decide +kernel
theorem dX12_scan_157 : decode cX12_scan 157 = .ok (.getfield 30, 3) := by decide +kernel
theorem dX12_scan_160 : decode cX12_scan 160 = .ok (.aload_n 0, 1) := by decide +kernel
theorem dX12_scan_161 : decode cX12_scan 161 = .ok (.getfield 13, 3) := by decide +kernel
theorem dX12_scan_164 : decode cX12_scan 164 = .ok (.isub, 1) := by decide +kernel
theorem dX12_scan_165 : decode cX12_scan 165 = .ok (.iconst 4, 1) := by decide +kernel
theorem dX12_scan_166 : decode cX12_scan 166 = .ok (.if_icmp .ge 26, 3) := by decide +kernel
theorem dX12_scan_169 : decode cX12_scan 169 = .ok (.aload_n 0, 1) := by decide +kernel
theorem dX12_scan_170 : decode cX12_scan 170 = .ok (.bipush 10, 2) := by decide +kernel
theorem dX12_scan_172 : decode cX12_scan 172 = .ok (.aload_n 0, 1) := by decide +kernel
theorem dX12_scan_173 : decode cX12_scan 173 = .ok (.getfield 47, 3) := by decide +kernel
theorem dX12_scan_176 : decode cX12_scan 176 = .ok (.imul, 1) := by decide +kernel
theorem dX12_scan_177 : decode cX12_scan 177 = .ok (.aload_n 0, 1) := by decide +kernel
theorem dX12_scan_178 : decode cX12_scan 178 = .ok (.aload_n 0, 1) := by decide +kernel
theorem dX12_scan_179 : decode cX12_scan 179 = .ok (.getfield 30, 3) := by decide +kernel
theorem dX12_scan_182 : decode cX12_scan 182 = .ok (.invokevirtual 33, 3) := by decide +kernel
theorem dX12_scan_185 : decode cX12_scan 185 = .ok (.iadd, 1) := by decide +kernel
theorem dX12_scan_186 : decode cX12_scan 186 = .ok (.bipush 48, 2) := by decide +kernel
theorem dX12_scan_188 : decode cX12_scan 188 = .ok (.isub, 1) := by decide +kernel
theorem dX12_scan_189 : decode cX12_scan 189 = .ok (.putfield 47, 3) := by decide +kernel
theorem dX12_scan_192 : decode cX12_scan 192 = .ok (.aload_n 0, 1) := by decide +kernel
