theorem dX12_joinedOn_33 : decode cX12_joinedOn 33 = .ok (.if_icmp .ge 65, 3) := by decide +kernel
theorem dX12_joinedOn_36 : decode cX12_joinedOn 36 = .ok (.aload_n 0, 1) := by decide +kernel
theorem dX12_joinedOn_37 : decode cX12_joinedOn 37 = .ok (.iload 4, 2) := by decide +kernel
theorem dX12_joinedOn_39 : decode cX12_joinedOn 39 = .ok (.iload_n 1, 1) := by decide +kernel
theorem dX12_joinedOn_40 : decode cX12_joinedOn 40 = .ok (.iload_n 2, 1) := by decide +kernel
theorem dX12_joinedOn_41 : decode cX12_joinedOn 41 = .ok (.invokevirtual 283, 3) := by decide +kernel
theorem dX12_joinedOn_44 : decode cX12_joinedOn 44 = .ok (.istore 5, 2) := by decide +kernel
theorem dX12_joinedOn_46 : decode cX12_joinedOn 46 = .ok (.iload 5, 2) := by decide +kernel
theorem dX12_joinedOn_48 : decode cX12_joinedOn 48 = .ok (.iconst (-1), 1) := by decide +kernel
theorem dX12_joinedOn_49 : decode cX12_joinedOn 49 = .ok (.if_icmp .eq 43, 3) := by decide +kernel
theorem dX12_joinedOn_52 : decode cX12_joinedOn 52 = .ok (.aload_n 0, 1) := by decide +kernel
theorem dX12_joinedOn_53 : decode cX12_joinedOn 53 = .ok (.iload 4, 2) := by decide +kernel
theorem dX12_joinedOn_55 : decode cX12_joinedOn 55 = .ok (.iload_n 1, 1) := by decide +kernel
theorem dX12_joinedOn_56 : decode cX12_joinedOn 56 = .ok (.iload_n 2, 1) := by decide +kernel
theorem dX12_joinedOn_57 : decode cX12_joinedOn 57 = .ok (.invokevirtual 341, 3) := by decide +kernel
theorem dX12_joinedOn_60 : decode cX12_joinedOn 60 = .ok (.ifCond .eq 6, 3) := by decide +kernel
theorem dX12_joinedOn_63 : decode cX12_joinedOn 63 = .ok (.goto 29, 3) := by decide +kernel
theorem dX12_joinedOn_66 : decode cX12_joinedOn 66 = .ok (.aload_n 0, 1) := by decide +kernel
theorem dX12_joinedOn_67 : decode cX12_joinedOn 67 = .ok (.iload 4, 2) := by decide +kernel
theorem dX12_joinedOn_69 : decode cX12_joinedOn 69 = .ok (.iload_n 2, 1) := by decide +kernel
theorem dX12_joinedOn_70 : decode cX12_joinedOn 70 = .ok (.invokevirtual 338, 3) := by decide +kernel
theorem dX12_joinedOn_73 : decode cX12_joinedOn 73 = .ok (.istore 6, 2) := by decide +kernel
theorem dX12_joinedOn_75 : decode cX12_joinedOn 75 = .ok (.aload_n 0, 1) := by decide +kernel
theorem dX12_joinedOn_76 : decode cX12_joinedOn 76 = .ok (.getfield 212, 3) := by decide +kernel
theorem dX12_joinedOn_79 : decode cX12_joinedOn 79 = .ok (.iload 5, 2) := by decide +kernel
theorem dX12_joinedOn_81 : decode cX12_joinedOn 81 = .ok (.dup2, 1) := by decide +kernel
theorem dX12_joinedOn_82 : decode cX12_joinedOn 82 = .ok (.iaload, 1) := by decide +kernel
theorem dX12_joinedOn_83 : decode cX12_joinedOn 83 = .ok (.iload 6, 2) := by decide +kernel
theorem dX12_joinedOn_85 : decode cX12_joinedOn 85 = .ok (.iadd, 1) := by decide +kernel
theorem dX12_joinedOn_86 : decode cX12_joinedOn 86 = .ok (.iastore, 1) := by decide +kernel
theorem dX12_joinedOn_87 : decode cX12_joinedOn 87 = .ok (.iload_n 3, 1) := by decide +kernel
theorem dX12_joinedOn_88 : decode cX12_joinedOn 88 = .ok (.iload 6, 2) := by decide +kernel
theorem dX12_joinedOn_90 : decode cX12_joinedOn 90 = .ok (.iadd, 1) := by decide +kernel
theorem dX12_joinedOn_91 : decode cX12_joinedOn 91 = .ok (.istore_n 3, 1) := by decide +kernel
theorem dX12_joinedOn_92 : decode cX12_joinedOn 92 = .ok (.iinc 4 1, 3) := by decide +kernel
theorem dX12_joinedOn_95 : decode cX12_joinedOn 95 = .ok (.goto (-66), 3) := by decide +kernel
theorem dX12_joinedOn_98 : decode cX12_joinedOn 98 = .ok (.iload_n 3, 1) := by decide +kernel
theorem dX12_joinedOn_99 : decode cX12_joinedOn 99 = .ok (.ifCond .ne 5, 3) := by decide +kernel
theorem dX12_joinedOn_102 : decode cX12_joinedOn 102 = .ok (.iconst (-1), 1) := by decide +kernel
theorem dX12_joinedOn_103 : decode cX12_joinedOn 103 = .ok (.ireturn, 1) := by decide +kernel
theorem dX12_joinedOn_104 : decode cX12_joinedOn 104 = .ok (.iconst 0, 1) := by decide +kernel
theorem dX12_joinedOn_105 : decode cX12_joinedOn 105 = .ok (.istore 4, 2) := by decide +kernel
theorem dX12_joinedOn_107 : decode cX12_joinedOn 107 = .ok (.aload_n 0, 1) := by decide +kernel
theorem dX12_joinedOn_108 : decode cX12_joinedOn 108 = .ok (.getfield 212, 3) := by decide +kernel
theorem dX12_joinedOn_111 : decode cX12_joinedOn 111 = .ok (.iconst 0, 1) := by decide +kernel
theorem dX12_joinedOn_112 : decode cX12_joinedOn 112 = .ok (.iaload, 1) := by decide +kernel
theorem dX12_joinedOn_113 : decode cX12_joinedOn 113 = .ok (.istore 5, 2) := by decide +kernel
theorem dX12_joinedOn_115 : decode cX12_joinedOn 115 = .ok (.iconst 2, 1) := by decide +kernel
theorem dX12_joinedOn_116 : decode cX12_joinedOn 116 = .ok (.iload 5, 2) := by decide +kernel
theorem dX12_joinedOn_118 : decode cX12_joinedOn 118 = .ok (.imul, 1) := by decide +kernel
theorem dX12_joinedOn_119 : decode cX12_joinedOn 119 = .ok (.iload_n 3, 1) := by decide +kernel
theorem dX12_joinedOn_120 : decode cX12_joinedOn 120 = .ok (.if_icmp .ge 21, 3) := by decide +kernel
theorem dX12_joinedOn_123 : decode cX12_joinedOn 123 = .ok (.iinc 4 1, 3) := by decide +kernel
theorem dX12_joinedOn_126 : decode cX12_joinedOn 126 = .ok (.iload 5, 2) := by decide +kernel
theorem dX12_joinedOn_128 : decode cX12_joinedOn 128 = .ok (.aload_n 0, 1) := by decide +kernel
theorem dX12_joinedOn_129 : decode cX12_joinedOn 129 = .ok (.getfield 212, 3) := by decide +kernel
theorem dX12_joinedOn_132 : decode cX12_joinedOn 132 = .ok (.iload 4, 2) := by decide +kernel
theorem dX12_joinedOn_134 : decode cX12_joinedOn 134 = .ok (.iaload, 1) := by decide +kernel
theorem dX12_joinedOn_135 : decode cX12_joinedOn 135 = .ok (.iadd, 1) := by decide +kernel
theorem dX12_joinedOn_136 : decode cX12_joinedOn 136 = .ok (.istore 5, 2) := by decide +kernel
theorem dX12_joinedOn_138 : decode cX12_joinedOn 138 = .ok (.goto (-23), 3) := by decide +kernel
theorem dX12_joinedOn_141 : decode cX12_joinedOn 141 = .ok (.iload 4, 2) := by decide +kernel
theorem dX12_joinedOn_143 : decode cX12_joinedOn 143 = .ok (.ireturn, 1) := by decide +kernel
theorem dX12_ready_0 : decode cX12_ready 0 = .ok (.aload_n 0, 1) := by decide +kernel
theorem dX12_ready_1 : decode cX12_ready 1 = .ok (.invokevirtual 302, 3) := by decide +kernel
theorem dX12_ready_4 : decode cX12_ready 4 = .ok (.aload_n 0, 1) := by decide +kernel
theorem dX12_ready_5 : decode cX12_ready 5 = .ok (.getfield 138, 3) := by decide +kernel
theorem dX12_ready_8 : decode cX12_ready 8 = .ok (.iconst (-1), 1) := by decide +kernel
theorem dX12_ready_9 : decode cX12_ready 9 = .ok (.if_icmp .eq 7, 3) := by decide +kernel
theorem dX12_ready_12 : decode cX12_ready 12 = .ok (.aload_n 0, 1) := by decide +kernel
theorem dX12_ready_13 : decode cX12_ready 13 = .ok (.invokevirtual 330, 3) := by decide +kernel
theorem dX12_ready_16 : decode cX12_ready 16 = .ok (.return_, 1) := by decide +kernel
theorem dX12_joined_0 : decode cX12_joined 0 = .ok (.aload_n 0, 1) := by decide +kernel
theorem dX12_joined_1 : decode cX12_joined 1 = .ok (.iload_n 1, 1) := by decide +kernel
theorem dX12_joined_2 : decode cX12_joined 2 = .ok (.invokevirtual 260, 3) := by decide +kernel
theorem dX12_joined_5 : decode cX12_joined 5 = .ok (.ifCond .eq 10, 3) := by decide +kernel
theorem dX12_joined_8 : decode cX12_joined 8 = .ok (.iload_n 2, 1) := by decide +kernel
theorem dX12_joined_9 : decode cX12_joined 9 = .ok (.invokestatic 257, 3) := by decide +kernel
theorem dX12_joined_12 : decode cX12_joined 12 = .ok (.ifCond .ne 6, 3) := by decide +kernel
theorem dX12_joined_15 : decode cX12_joined 15 = .ok (.bipush (-2), 2) := by decide +kernel
theorem dX12_joined_17 : decode cX12_joined 17 = .ok (.ireturn, 1) := by decide +kernel
theorem dX12_joined_18 : decode cX12_joined 18 = .ok (.aload_n 0, 1) := by decide +kernel
theorem dX12_joined_19 : decode cX12_joined 19 = .ok (.invokevirtual 345, 3) := by decide +kernel
theorem dX12_joined_22 : decode cX12_joined 22 = .ok (.aload_n 0, 1) := by decide +kernel
theorem dX12_joined_23 : decode cX12_joined 23 = .ok (.iload_n 1, 1) := by decide +kernel
theorem dX12_joined_24 : decode cX12_joined 24 = .ok (.iload_n 2, 1) := by decide +kernel
theorem dX12_joined_25 : decode cX12_joined 25 = .ok (.invokevirtual 348, 3) := by decide +kernel
theorem dX12_joined_28 : decode cX12_joined 28 = .ok (.ireturn, 1) := by decide +kernel
theorem dX12_together_0 : decode cX12_together 0 = .ok (.aload_n 0, 1) := by decide +kernel
theorem dX12_together_1 : decode cX12_together 1 = .ok (.iload_n 1, 1) := by decide +kernel
theorem dX12_together_2 : decode cX12_together 2 = .ok (.invokevirtual 260, 3) := by decide +kernel
theorem dX12_together_5 : decode cX12_together 5 = .ok (.ifCond .eq 13, 3) := by decide +kernel
theorem dX12_together_8 : decode cX12_together 8 = .ok (.iload_n 2, 1) := by decide +kernel
theorem dX12_together_9 : decode cX12_together 9 = .ok (.i2l, 1) := by decide +kernel
theorem dX12_together_10 : decode cX12_together 10 = .ok (.lconst 0, 1) := by decide +kernel
theorem dX12_together_11 : decode cX12_together 11 = .ok (.lconst 1, 1) := by decide +kernel
theorem dX12_together_12 : decode cX12_together 12 = .ok (.invokestatic 5, 3) := by decide +kernel
theorem dX12_together_15 : decode cX12_together 15 = .ok (.ifCond .ne 6, 3) := by decide +kernel
theorem dX12_together_18 : decode cX12_together 18 = .ok (.bipush (-2), 2) := by decide +kernel
theorem dX12_together_20 : decode cX12_together 20 = .ok (.ireturn, 1) := by decide +kernel
theorem dX12_together_21 : decode cX12_together 21 = .ok (.aload_n 0, 1) := by decide +kernel
theorem dX12_together_22 : decode cX12_together 22 = .ok (.iload_n 1, 1) := by decide +kernel
theorem dX12_together_23 : decode cX12_together 23 = .ok (.invokevirtual 289, 3) := by decide +kernel
theorem dX12_together_26 : decode cX12_together 26 = .ok (.ifCond .ne 5, 3) := by decide +kernel
theorem dX12_together_29 : decode cX12_together 29 = .ok (.iconst 0, 1) := by decide +kernel
theorem dX12_together_30 : decode cX12_together 30 = .ok (.ireturn, 1) := by decide +kernel
theorem dX12_together_31 : decode cX12_together 31 = .ok (.aload_n 0, 1) := by decide +kernel
theorem dX12_together_32 : decode cX12_together 32 = .ok (.invokevirtual 345, 3) := by decide +kernel
theorem dX12_together_35 : decode cX12_together 35 = .ok (.iconst 0, 1) := by decide +kernel
theorem dX12_together_36 : decode cX12_together 36 = .ok (.istore_n 3, 1) := by decide +kernel
theorem dX12_together_37 : decode cX12_together 37 = .ok (.iconst 0, 1) := by decide +kernel
theorem dX12_together_38 : decode cX12_together 38 = .ok (.istore 4, 2) := by decide +kernel
theorem dX12_together_40 : decode cX12_together 40 = .ok (.aload_n 0, 1) := by decide +kernel
theorem dX12_together_41 : decode cX12_together 41 = .ok (.getfield 155, 3) := by decide +kernel
theorem dX12_together_44 : decode cX12_together 44 = .ok (.iload_n 1, 1) := by decide +kernel
theorem dX12_together_45 : decode cX12_together 45 = .ok (.iaload, 1) := by decide +kernel
theorem dX12_together_46 : decode cX12_together 46 = .ok (.istore 5, 2) := by decide +kernel
theorem dX12_together_48 : decode cX12_together 48 = .ok (.iload 5, 2) := by decide +kernel
theorem dX12_together_50 : decode cX12_together 50 = .ok (.aload_n 0, 1) := by decide +kernel
theorem dX12_together_51 : decode cX12_together 51 = .ok (.iload_n 1, 1) := by decide +kernel
theorem dX12_together_52 : decode cX12_together 52 = .ok (.invokevirtual 296, 3) := by decide +kernel
theorem dX12_together_55 : decode cX12_together 55 = .ok (.if_icmp .gt 42, 3) := by decide +kernel
theorem dX12_together_58 : decode cX12_together 58 = .ok (.aload_n 0, 1) := by decide +kernel
theorem dX12_together_59 : decode cX12_together 59 = .ok (.iload_n 1, 1) := by decide +kernel
theorem dX12_together_60 : decode cX12_together 60 = .ok (.iload 5, 2) := by decide +kernel
theorem dX12_together_62 : decode cX12_together 62 = .ok (.invokevirtual 348, 3) := by decide +kernel
theorem dX12_together_65 : decode cX12_together 65 = .ok (.istore 6, 2) := by decide +kernel
theorem dX12_together_67 : decode cX12_together 67 = .ok (.iload 6, 2) := by decide +kernel
theorem dX12_together_69 : decode cX12_together 69 = .ok (.iconst (-1), 1) := by decide +kernel
theorem dX12_together_70 : decode cX12_together 70 = .ok (.if_icmp .ne 6, 3) := by decide +kernel
theorem dX12_together_73 : decode cX12_together 73 = .ok (.goto 18, 3) := by decide +kernel
theorem dX12_together_76 : decode cX12_together 76 = .ok (.iinc 3 1, 3) := by decide +kernel
theorem dX12_together_79 : decode cX12_together 79 = .ok (.iload 4, 2) := by decide +kernel
theorem dX12_together_81 : decode cX12_together 81 = .ok (.aload_n 0, 1) := by decide +kernel
theorem dX12_together_82 : decode cX12_together 82 = .ok (.iload_n 1, 1) := by decide +kernel
theorem dX12_together_83 : decode cX12_together 83 = .ok (.iload 6, 2) := by decide +kernel
theorem dX12_together_85 : decode cX12_together 85 = .ok (.invokevirtual 286, 3) := by decide +kernel
theorem dX12_together_88 : decode cX12_together 88 = .ok (.iadd, 1) := by decide +kernel
theorem dX12_together_89 : decode cX12_together 89 = .ok (.istore 4, 2) := by decide +kernel
theorem dX12_together_91 : decode cX12_together 91 = .ok (.iinc 5 1, 3) := by decide +kernel
theorem dX12_together_94 : decode cX12_together 94 = .ok (.goto (-46), 3) := by decide +kernel
theorem dX12_together_97 : decode cX12_together 97 = .ok (.iload_n 2, 1) := by decide +kernel
theorem dX12_together_98 : decode cX12_together 98 = .ok (.ifCond .ne 7, 3) := by decide +kernel
theorem dX12_together_101 : decode cX12_together 101 = .ok (.iload_n 3, 1) := by decide +kernel
theorem dX12_together_102 : decode cX12_together 102 = .ok (.goto 5, 3) := by decide +kernel
theorem dX12_together_105 : decode cX12_together 105 = .ok (.iload 4, 2) := by decide +kernel
theorem dX12_together_107 : decode cX12_together 107 = .ok (.ireturn, 1) := by decide +kernel
theorem dX12_atLeast_0 : decode cX12_atLeast 0 = .ok (.iconst 0, 1) := by decide +kernel
theorem dX12_atLeast_1 : decode cX12_atLeast 1 = .ok (.istore_n 3, 1) := by decide +kernel
theorem dX12_atLeast_2 : decode cX12_atLeast 2 = .ok (.iload_n 3, 1) := by decide +kernel
theorem dX12_atLeast_3 : decode cX12_atLeast 3 = .ok (.iload_n 1, 1) := by decide +kernel
theorem dX12_atLeast_4 : decode cX12_atLeast 4 = .ok (.if_icmp .gt 24, 3) := by decide +kernel
theorem dX12_atLeast_7 : decode cX12_atLeast 7 = .ok (.aload_n 0, 1) := by decide +kernel
theorem dX12_atLeast_8 : decode cX12_atLeast 8 = .ok (.getfield 215, 3) := by decide +kernel
theorem dX12_atLeast_11 : decode cX12_atLeast 11 = .ok (.iload_n 3, 1) := by decide +kernel
theorem dX12_atLeast_12 : decode cX12_atLeast 12 = .ok (.iload_n 3, 1) := by decide +kernel
theorem dX12_atLeast_13 : decode cX12_atLeast 13 = .ok (.ifCond .ne 7, 3) := by decide +kernel
theorem dX12_atLeast_16 : decode cX12_atLeast 16 = .ok (.lconst 1, 1) := by decide +kernel
theorem dX12_atLeast_17 : decode cX12_atLeast 17 = .ok (.goto 4, 3) := by decide +kernel
theorem dX12_atLeast_20 : decode cX12_atLeast 20 = .ok (.lconst 0, 1) := by decide +kernel
theorem dX12_atLeast_21 : decode cX12_atLeast 21 = .ok (.lastore, 1) := by decide +kernel
theorem dX12_atLeast_22 : decode cX12_atLeast 22 = .ok (.iinc 3 1, 3) := by decide +kernel
theorem dX12_atLeast_25 : decode cX12_atLeast 25 = .ok (.goto (-23), 3) := by decide +kernel
theorem dX12_atLeast_28 : decode cX12_atLeast 28 = .ok (.iconst 0, 1) := by decide +kernel
theorem dX12_atLeast_29 : decode cX12_atLeast 29 = .ok (.istore_n 3, 1) := by decide +kernel
theorem dX12_atLeast_30 : decode cX12_atLeast 30 = .ok (.iload_n 3, 1) := by decide +kernel
theorem dX12_atLeast_31 : decode cX12_atLeast 31 = .ok (.iload_n 1, 1) := by decide +kernel
theorem dX12_atLeast_32 : decode cX12_atLeast 32 = .ok (.if_icmp .ge 42, 3) := by decide +kernel
theorem dX12_atLeast_35 : decode cX12_atLeast 35 = .ok (.iload_n 1, 1) := by decide +kernel
theorem dX12_atLeast_36 : decode cX12_atLeast 36 = .ok (.istore 4, 2) := by decide +kernel
theorem dX12_atLeast_38 : decode cX12_atLeast 38 = .ok (.iload 4, 2) := by decide +kernel
theorem dX12_atLeast_40 : decode cX12_atLeast 40 = .ok (.ifCond .le 28, 3) := by decide +kernel
theorem dX12_atLeast_43 : decode cX12_atLeast 43 = .ok (.aload_n 0, 1) := by decide +kernel
theorem dX12_atLeast_44 : decode cX12_atLeast 44 = .ok (.getfield 215, 3) := by decide +kernel
theorem dX12_atLeast_47 : decode cX12_atLeast 47 = .ok (.iload 4, 2) := by decide +kernel
theorem dX12_atLeast_49 : decode cX12_atLeast 49 = .ok (.dup2, 1) := by decide +kernel
theorem dX12_atLeast_50 : decode cX12_atLeast 50 = .ok (.laload, 1) := by decide +kernel
theorem dX12_atLeast_51 : decode cX12_atLeast 51 = .ok (.aload_n 0, 1) := by decide +kernel
theorem dX12_atLeast_52 : decode cX12_atLeast 52 = .ok (.getfield 215, 3) := by decide +kernel
theorem dX12_atLeast_55 : decode cX12_atLeast 55 = .ok (.iload 4, 2) := by decide +kernel
theorem dX12_atLeast_57 : decode cX12_atLeast 57 = .ok (.iconst 1, 1) := by decide +kernel
theorem dX12_atLeast_58 : decode cX12_atLeast 58 = .ok (.isub, 1) := by decide +kernel
theorem dX12_atLeast_59 : decode cX12_atLeast 59 = .ok (.laload, 1) := by decide +kernel
theorem dX12_atLeast_60 : decode cX12_atLeast 60 = .ok (.ladd, 1) := by decide +kernel
theorem dX12_atLeast_61 : decode cX12_atLeast 61 = .ok (.lastore, 1) := by decide +kernel
theorem dX12_atLeast_62 : decode cX12_atLeast 62 = .ok (.iinc 4 (-1), 3) := by decide +kernel
theorem dX12_atLeast_65 : decode cX12_atLeast 65 = .ok (.goto (-27), 3) := by decide +kernel
theorem dX12_atLeast_68 : decode cX12_atLeast 68 = .ok (.iinc 3 1, 3) := by decide +kernel
theorem dX12_atLeast_71 : decode cX12_atLeast 71 = .ok (.goto (-41), 3) := by decide +kernel
theorem dX12_atLeast_74 : decode cX12_atLeast 74 = .ok (.lconst 0, 1) := by decide +kernel
theorem dX12_atLeast_75 : decode cX12_atLeast 75 = .ok (.lstore_n 3, 1) := by decide +kernel
theorem dX12_atLeast_76 : decode cX12_atLeast 76 = .ok (.iload_n 2, 1) := by decide +kernel
theorem dX12_atLeast_77 : decode cX12_atLeast 77 = .ok (.istore 5, 2) := by decide +kernel
theorem dX12_atLeast_79 : decode cX12_atLeast 79 = .ok (.iload 5, 2) := by decide +kernel
theorem dX12_atLeast_81 : decode cX12_atLeast 81 = .ok (.iload_n 1, 1) := by decide +kernel
theorem dX12_atLeast_82 : decode cX12_atLeast 82 = .ok (.if_icmp .gt 19, 3) := by decide +kernel
theorem dX12_atLeast_85 : decode cX12_atLeast 85 = .ok (.lload_n 3, 1) := by decide +kernel
theorem dX12_atLeast_86 : decode cX12_atLeast 86 = .ok (.aload_n 0, 1) := by decide +kernel
theorem dX12_atLeast_87 : decode cX12_atLeast 87 = .ok (.getfield 215, 3) := by decide +kernel
theorem dX12_atLeast_90 : decode cX12_atLeast 90 = .ok (.iload 5, 2) := by decide +kernel
theorem dX12_atLeast_92 : decode cX12_atLeast 92 = .ok (.laload, 1) := by decide +kernel
theorem dX12_atLeast_93 : decode cX12_atLeast 93 = .ok (.ladd, 1) := by decide +kernel
theorem dX12_atLeast_94 : decode cX12_atLeast 94 = .ok (.lstore_n 3, 1) := by decide +kernel
theorem dX12_atLeast_95 : decode cX12_atLeast 95 = .ok (.iinc 5 1, 3) := by decide +kernel
theorem dX12_atLeast_98 : decode cX12_atLeast 98 = .ok (.goto (-19), 3) := by decide +kernel
theorem dX12_atLeast_101 : decode cX12_atLeast 101 = .ok (.lload_n 3, 1) := by decide +kernel
theorem dX12_atLeast_102 : decode cX12_atLeast 102 = .ok (.lreturn, 1) := by decide +kernel
theorem dX12_luck_0 : decode cX12_luck 0 = .ok (.iload_n 1, 1) := by decide +kernel
theorem dX12_luck_1 : decode cX12_luck 1 = .ok (.invokestatic 265, 3) := by decide +kernel
theorem dX12_luck_4 : decode cX12_luck 4 = .ok (.ifCond .eq 15, 3) := by decide +kernel
theorem dX12_luck_7 : decode cX12_luck 7 = .ok (.iload_n 2, 1) := by decide +kernel
theorem dX12_luck_8 : decode cX12_luck 8 = .ok (.i2l, 1) := by decide +kernel
theorem dX12_luck_9 : decode cX12_luck 9 = .ok (.lconst 0, 1) := by decide +kernel
theorem dX12_luck_10 : decode cX12_luck 10 = .ok (.ldc2_w 351, 3) := by decide +kernel
theorem dX12_luck_13 : decode cX12_luck 13 = .ok (.invokestatic 5, 3) := by decide +kernel
theorem dX12_luck_16 : decode cX12_luck 16 = .ok (.ifCond .ne 7, 3) := by decide +kernel
theorem dX12_luck_19 : decode cX12_luck 19 = .ok (.ldc2_w 353, 3) := by decide +kernel
theorem dX12_luck_22 : decode cX12_luck 22 = .ok (.lreturn, 1) := by decide +kernel
theorem dX12_luck_23 : decode cX12_luck 23 = .ok (.aload_n 0, 1) := by decide +kernel
theorem dX12_luck_24 : decode cX12_luck 24 = .ok (.invokevirtual 345, 3) := by decide +kernel
theorem dX12_luck_27 : decode cX12_luck 27 = .ok (.iconst 0, 1) := by decide +kernel
theorem dX12_luck_28 : decode cX12_luck 28 = .ok (.istore_n 3, 1) := by decide +kernel
theorem dX12_luck_29 : decode cX12_luck 29 = .ok (.iconst 0, 1) := by decide +kernel
theorem dX12_luck_30 : decode cX12_luck 30 = .ok (.istore 4, 2) := by decide +kernel
theorem dX12_luck_32 : decode cX12_luck 32 = .ok (.iconst 0, 1) := by decide +kernel
theorem dX12_luck_33 : decode cX12_luck 33 = .ok (.istore 5, 2) := by decide +kernel
theorem dX12_luck_35 : decode cX12_luck 35 = .ok (.iload 5, 2) := by decide +kernel
theorem dX12_luck_37 : decode cX12_luck 37 = .ok (.aload_n 0, 1) := by decide +kernel
theorem dX12_luck_38 : decode cX12_luck 38 = .ok (.getfield 252, 3) := by decide +kernel
theorem dX12_luck_41 : decode cX12_luck 41 = .ok (.if_icmp .ge 146, 3) := by decide +kernel
theorem dX12_luck_44 : decode cX12_luck 44 = .ok (.aload_n 0, 1) := by decide +kernel
theorem dX12_luck_45 : decode cX12_luck 45 = .ok (.iload_n 1, 1) := by decide +kernel
theorem dX12_luck_46 : decode cX12_luck 46 = .ok (.iload 5, 2) := by decide +kernel
theorem dX12_luck_48 : decode cX12_luck 48 = .ok (.invokevirtual 311, 3) := by decide +kernel
theorem dX12_luck_51 : decode cX12_luck 51 = .ok (.ifCond .ne 6, 3) := by decide +kernel
theorem dX12_luck_54 : decode cX12_luck 54 = .ok (.goto 127, 3) := by decide +kernel
theorem dX12_luck_57 : decode cX12_luck 57 = .ok (.iconst 0, 1) := by decide +kernel
theorem dX12_luck_58 : decode cX12_luck 58 = .ok (.istore 6, 2) := by decide +kernel
theorem dX12_luck_60 : decode cX12_luck 60 = .ok (.iconst 0, 1) := by decide +kernel
theorem dX12_luck_61 : decode cX12_luck 61 = .ok (.istore 7, 2) := by decide +kernel
theorem dX12_luck_63 : decode cX12_luck 63 = .ok (.aload_n 0, 1) := by decide +kernel
theorem dX12_luck_64 : decode cX12_luck 64 = .ok (.getfield 155, 3) := by decide +kernel
theorem dX12_luck_67 : decode cX12_luck 67 = .ok (.iload 5, 2) := by decide +kernel
theorem dX12_luck_69 : decode cX12_luck 69 = .ok (.iaload, 1) := by decide +kernel
theorem dX12_luck_70 : decode cX12_luck 70 = .ok (.istore 8, 2) := by decide +kernel
theorem dX12_luck_72 : decode cX12_luck 72 = .ok (.iload 8, 2) := by decide +kernel
theorem dX12_luck_74 : decode cX12_luck 74 = .ok (.aload_n 0, 1) := by decide +kernel
theorem dX12_luck_75 : decode cX12_luck 75 = .ok (.iload 5, 2) := by decide +kernel
theorem dX12_luck_77 : decode cX12_luck 77 = .ok (.invokevirtual 296, 3) := by decide +kernel
theorem dX12_luck_80 : decode cX12_luck 80 = .ok (.if_icmp .gt 69, 3) := by decide +kernel
theorem dX12_luck_83 : decode cX12_luck 83 = .ok (.aload_n 0, 1) := by decide +kernel
theorem dX12_luck_84 : decode cX12_luck 84 = .ok (.iload_n 1, 1) := by decide +kernel
theorem dX12_luck_85 : decode cX12_luck 85 = .ok (.iload 5, 2) := by decide +kernel
theorem dX12_luck_87 : decode cX12_luck 87 = .ok (.iload 8, 2) := by decide +kernel
theorem dX12_luck_89 : decode cX12_luck 89 = .ok (.invokevirtual 299, 3) := by decide +kernel
theorem dX12_luck_92 : decode cX12_luck 92 = .ok (.istore 9, 2) := by decide +kernel
theorem dX12_luck_94 : decode cX12_luck 94 = .ok (.iload 9, 2) := by decide +kernel
theorem dX12_luck_96 : decode cX12_luck 96 = .ok (.iconst (-1), 1) := by decide +kernel
theorem dX12_luck_97 : decode cX12_luck 97 = .ok (.if_icmp .ne 7, 3) := by decide +kernel
theorem dX12_luck_100 : decode cX12_luck 100 = .ok (.iconst (-1), 1) := by decide +kernel
theorem dX12_luck_101 : decode cX12_luck 101 = .ok (.goto 11, 3) := by decide +kernel
theorem dX12_luck_104 : decode cX12_luck 104 = .ok (.aload_n 0, 1) := by decide +kernel
theorem dX12_luck_105 : decode cX12_luck 105 = .ok (.iload 5, 2) := by decide +kernel
theorem dX12_luck_107 : decode cX12_luck 107 = .ok (.iload 8, 2) := by decide +kernel
theorem dX12_luck_109 : decode cX12_luck 109 = .ok (.invokevirtual 348, 3) := by decide +kernel
theorem dX12_luck_112 : decode cX12_luck 112 = .ok (.istore 10, 2) := by decide +kernel
theorem dX12_luck_114 : decode cX12_luck 114 = .ok (.iload 10, 2) := by decide +kernel
theorem dX12_luck_116 : decode cX12_luck 116 = .ok (.iconst (-1), 1) := by decide +kernel
theorem dX12_luck_117 : decode cX12_luck 117 = .ok (.if_icmp .ne 6, 3) := by decide +kernel
theorem dX12_luck_120 : decode cX12_luck 120 = .ok (.goto 23, 3) := by decide +kernel
theorem dX12_luck_123 : decode cX12_luck 123 = .ok (.iload 6, 2) := by decide +kernel
theorem dX12_luck_125 : decode cX12_luck 125 = .ok (.iload 9, 2) := by decide +kernel
theorem dX12_luck_127 : decode cX12_luck 127 = .ok (.iadd, 1) := by decide +kernel
theorem dX12_luck_128 : decode cX12_luck 128 = .ok (.istore 6, 2) := by decide +kernel
theorem dX12_luck_130 : decode cX12_luck 130 = .ok (.iload 7, 2) := by decide +kernel
theorem dX12_luck_132 : decode cX12_luck 132 = .ok (.aload_n 0, 1) := by decide +kernel
theorem dX12_luck_133 : decode cX12_luck 133 = .ok (.iload 5, 2) := by decide +kernel
theorem dX12_luck_135 : decode cX12_luck 135 = .ok (.iload 10, 2) := by decide +kernel
theorem dX12_luck_137 : decode cX12_luck 137 = .ok (.invokevirtual 286, 3) := by decide +kernel
theorem dX12_luck_140 : decode cX12_luck 140 = .ok (.iadd, 1) := by decide +kernel
theorem dX12_luck_141 : decode cX12_luck 141 = .ok (.istore 7, 2) := by decide +kernel
theorem dX12_luck_143 : decode cX12_luck 143 = .ok (.iinc 8 1, 3) := by decide +kernel
theorem dX12_luck_146 : decode cX12_luck 146 = .ok (.goto (-74), 3) := by decide +kernel
theorem dX12_luck_149 : decode cX12_luck 149 = .ok (.iload_n 3, 1) := by decide +kernel
theorem dX12_luck_150 : decode cX12_luck 150 = .ok (.iload 6, 2) := by decide +kernel
theorem dX12_luck_152 : decode cX12_luck 152 = .ok (.iload 7, 2) := by decide +kernel
theorem dX12_luck_154 : decode cX12_luck 154 = .ok (.if_icmp .eq 7, 3) := by decide +kernel
theorem dX12_luck_157 : decode cX12_luck 157 = .ok (.iconst 1, 1) := by decide +kernel
theorem dX12_luck_158 : decode cX12_luck 158 = .ok (.goto 4, 3) := by decide +kernel
theorem dX12_luck_161 : decode cX12_luck 161 = .ok (.iconst 0, 1) := by decide +kernel
theorem dX12_luck_162 : decode cX12_luck 162 = .ok (.iadd, 1) := by decide +kernel
theorem dX12_luck_163 : decode cX12_luck 163 = .ok (.istore_n 3, 1) := by decide +kernel
theorem dX12_luck_164 : decode cX12_luck 164 = .ok (.iload 4, 2) := by decide +kernel
theorem dX12_luck_166 : decode cX12_luck 166 = .ok (.iload 6, 2) := by decide +kernel
theorem dX12_luck_168 : decode cX12_luck 168 = .ok (.iload 7, 2) := by decide +kernel
theorem dX12_luck_170 : decode cX12_luck 170 = .ok (.if_icmp .ge 7, 3) := by decide +kernel
theorem dX12_luck_173 : decode cX12_luck 173 = .ok (.iconst 1, 1) := by decide +kernel
theorem dX12_luck_174 : decode cX12_luck 174 = .ok (.goto 4, 3) := by decide +kernel
theorem dX12_luck_177 : decode cX12_luck 177 = .ok (.iconst 0, 1) := by decide +kernel
theorem dX12_luck_178 : decode cX12_luck 178 = .ok (.iadd, 1) := by decide +kernel
theorem dX12_luck_179 : decode cX12_luck 179 = .ok (.istore 4, 2) := by decide +kernel
theorem dX12_luck_181 : decode cX12_luck 181 = .ok (.iinc 5 1, 3) := by decide +kernel
theorem dX12_luck_184 : decode cX12_luck 184 = .ok (.goto (-149), 3) := by decide +kernel
theorem dX12_luck_187 : decode cX12_luck 187 = .ok (.iload_n 2, 1) := by decide +kernel
theorem dX12_luck_188 : decode cX12_luck 188 = .ok (.ifCond .ne 8, 3) := by decide +kernel
theorem dX12_luck_191 : decode cX12_luck 191 = .ok (.iload_n 3, 1) := by decide +kernel
theorem dX12_luck_192 : decode cX12_luck 192 = .ok (.i2l, 1) := by decide +kernel
theorem dX12_luck_193 : decode cX12_luck 193 = .ok (.goto 21, 3) := by decide +kernel
theorem dX12_luck_196 : decode cX12_luck 196 = .ok (.iload_n 2, 1) := by decide +kernel
theorem dX12_luck_197 : decode cX12_luck 197 = .ok (.iconst 1, 1) := by decide +kernel
theorem dX12_luck_198 : decode cX12_luck 198 = .ok (.if_icmp .ne 9, 3) := by decide +kernel
theorem dX12_luck_201 : decode cX12_luck 201 = .ok (.iload 4, 2) := by decide +kernel
theorem dX12_luck_203 : decode cX12_luck 203 = .ok (.i2l, 1) := by decide +kernel
theorem dX12_luck_204 : decode cX12_luck 204 = .ok (.goto 10, 3) := by decide +kernel
theorem dX12_luck_207 : decode cX12_luck 207 = .ok (.aload_n 0, 1) := by decide +kernel
theorem dX12_luck_208 : decode cX12_luck 208 = .ok (.iload_n 3, 1) := by decide +kernel
theorem dX12_luck_209 : decode cX12_luck 209 = .ok (.iload 4, 2) := by decide +kernel
theorem dX12_luck_211 : decode cX12_luck 211 = .ok (.invokevirtual 355, 3) := by decide +kernel
theorem dX12_luck_214 : decode cX12_luck 214 = .ok (.lreturn, 1) := by decide +kernel
theorem dX12_tie_0 : decode cX12_tie 0 = .ok (.aload_n 0, 1) := by decide +kernel
theorem dX12_tie_1 : decode cX12_tie 1 = .ok (.iload_n 1, 1) := by decide +kernel
theorem dX12_tie_2 : decode cX12_tie 2 = .ok (.invokevirtual 260, 3) := by decide +kernel
theorem dX12_tie_5 : decode cX12_tie 5 = .ok (.ifCond .eq 28, 3) := by decide +kernel
theorem dX12_tie_8 : decode cX12_tie 8 = .ok (.aload_n 0, 1) := by decide +kernel
theorem dX12_tie_9 : decode cX12_tie 9 = .ok (.iload_n 2, 1) := by decide +kernel
theorem dX12_tie_10 : decode cX12_tie 10 = .ok (.invokevirtual 260, 3) := by decide +kernel
theorem dX12_tie_13 : decode cX12_tie 13 = .ok (.ifCond .eq 20, 3) := by decide +kernel
theorem dX12_tie_16 : decode cX12_tie 16 = .ok (.iload_n 1, 1) := by decide +kernel
theorem dX12_tie_17 : decode cX12_tie 17 = .ok (.iload_n 2, 1) := by decide +kernel
theorem dX12_tie_18 : decode cX12_tie 18 = .ok (.if_icmp .eq 15, 3) := by decide +kernel
theorem dX12_tie_21 : decode cX12_tie 21 = .ok (.iload_n 3, 1) := by decide +kernel
theorem dX12_tie_22 : decode cX12_tie 22 = .ok (.i2l, 1) := by decide +kernel
theorem dX12_tie_23 : decode cX12_tie 23 = .ok (.lconst 0, 1) := by decide +kernel
theorem dX12_tie_24 : decode cX12_tie 24 = .ok (.ldc2_w 351, 3) := by decide +kernel
theorem dX12_tie_27 : decode cX12_tie 27 = .ok (.invokestatic 5, 3) := by decide +kernel
theorem dX12_tie_30 : decode cX12_tie 30 = .ok (.ifCond .ne 6, 3) := by decide +kernel
theorem dX12_tie_33 : decode cX12_tie 33 = .ok (.bipush (-2), 2) := by decide +kernel
theorem dX12_tie_35 : decode cX12_tie 35 = .ok (.ireturn, 1) := by decide +kernel
theorem dX12_tie_36 : decode cX12_tie 36 = .ok (.aload_n 0, 1) := by decide +kernel
theorem dX12_tie_37 : decode cX12_tie 37 = .ok (.getfield 359, 3) := by decide +kernel
theorem dX12_tie_40 : decode cX12_tie 40 = .ok (.bipush 30, 2) := by decide +kernel
theorem dX12_tie_42 : decode cX12_tie 42 = .ok (.if_icmp .ne 6, 3) := by decide +kernel
theorem dX12_tie_45 : decode cX12_tie 45 = .ok (.bipush (-3), 2) := by decide +kernel
theorem dX12_tie_47 : decode cX12_tie 47 = .ok (.ireturn, 1) := by decide +kernel
theorem dX12_tie_48 : decode cX12_tie 48 = .ok (.aload_n 0, 1) := by decide +kernel
theorem dX12_tie_49 : decode cX12_tie 49 = .ok (.getfield 179, 3) := by decide +kernel
theorem dX12_tie_52 : decode cX12_tie 52 = .ok (.aload_n 0, 1) := by decide +kernel
theorem dX12_tie_53 : decode cX12_tie 53 = .ok (.getfield 359, 3) := by decide +kernel
theorem dX12_tie_56 : decode cX12_tie 56 = .ok (.iload_n 1, 1) := by decide +kernel
theorem dX12_tie_57 : decode cX12_tie 57 = .ok (.iastore, 1) := by decide +kernel
theorem dX12_tie_58 : decode cX12_tie 58 = .ok (.aload_n 0, 1) := by decide +kernel
theorem dX12_tie_59 : decode cX12_tie 59 = .ok (.getfield 182, 3) := by decide +kernel
theorem dX12_tie_62 : decode cX12_tie 62 = .ok (.aload_n 0, 1) := by decide +kernel
theorem dX12_tie_63 : decode cX12_tie 63 = .ok (.getfield 359, 3) := by decide +kernel
theorem dX12_tie_66 : decode cX12_tie 66 = .ok (.iload_n 2, 1) := by decide +kernel
theorem dX12_tie_67 : decode cX12_tie 67 = .ok (.iastore, 1) := by decide +kernel
theorem dX12_tie_68 : decode cX12_tie 68 = .ok (.aload_n 0, 1) := by decide +kernel
theorem dX12_tie_69 : decode cX12_tie 69 = .ok (.getfield 185, 3) := by decide +kernel
theorem dX12_tie_72 : decode cX12_tie 72 = .ok (.aload_n 0, 1) := by decide +kernel
theorem dX12_tie_73 : decode cX12_tie 73 = .ok (.getfield 359, 3) := by decide +kernel
theorem dX12_tie_76 : decode cX12_tie 76 = .ok (.iload_n 3, 1) := by decide +kernel
theorem dX12_tie_77 : decode cX12_tie 77 = .ok (.iastore, 1) := by decide +kernel
theorem dX12_tie_78 : decode cX12_tie 78 = .ok (.aload_n 0, 1) := by decide +kernel
theorem dX12_tie_79 : decode cX12_tie 79 = .ok (.dup, 1) := by decide +kernel
theorem dX12_tie_80 : decode cX12_tie 80 = .ok (.getfield 359, 3) := by decide +kernel
theorem dX12_tie_83 : decode cX12_tie 83 = .ok (.iconst 1, 1) := by decide +kernel
theorem dX12_tie_84 : decode cX12_tie 84 = .ok (.iadd, 1) := by decide +kernel
theorem dX12_tie_85 : decode cX12_tie 85 = .ok (.putfield 359, 3) := by decide +kernel
theorem dX12_tie_88 : decode cX12_tie 88 = .ok (.aload_n 0, 1) := by decide +kernel
theorem dX12_tie_89 : decode cX12_tie 89 = .ok (.getfield 359, 3) := by decide +kernel
theorem dX12_tie_92 : decode cX12_tie 92 = .ok (.iconst 1, 1) := by decide +kernel
theorem dX12_tie_93 : decode cX12_tie 93 = .ok (.isub, 1) := by decide +kernel
theorem dX12_tie_94 : decode cX12_tie 94 = .ok (.ireturn, 1) := by decide +kernel
theorem dX12_isBroken_0 : decode cX12_isBroken 0 = .ok (.aload_n 0, 1) := by decide +kernel
theorem dX12_isBroken_1 : decode cX12_isBroken 1 = .ok (.getfield 185, 3) := by decide +kernel
theorem dX12_isBroken_4 : decode cX12_isBroken 4 = .ok (.iload_n 1, 1) := by decide +kernel
theorem dX12_isBroken_5 : decode cX12_isBroken 5 = .ok (.iaload, 1) := by decide +kernel
theorem dX12_isBroken_6 : decode cX12_isBroken 6 = .ok (.ifCond .ne 14, 3) := by decide +kernel
theorem dX12_isBroken_9 : decode cX12_isBroken 9 = .ok (.iload_n 2, 1) := by decide +kernel
theorem dX12_isBroken_10 : decode cX12_isBroken 10 = .ok (.iload_n 3, 1) := by decide +kernel
theorem dX12_isBroken_11 : decode cX12_isBroken 11 = .ok (.if_icmp .le 7, 3) := by decide +kernel
theorem dX12_isBroken_14 : decode cX12_isBroken 14 = .ok (.iconst 1, 1) := by decide +kernel
theorem dX12_isBroken_15 : decode cX12_isBroken 15 = .ok (.goto 4, 3) := by decide +kernel
theorem dX12_isBroken_18 : decode cX12_isBroken 18 = .ok (.iconst 0, 1) := by decide +kernel
theorem dX12_isBroken_19 : decode cX12_isBroken 19 = .ok (.ireturn, 1) := by decide +kernel
theorem dX12_isBroken_20 : decode cX12_isBroken 20 = .ok (.aload_n 0, 1) := by decide +kernel
theorem dX12_isBroken_21 : decode cX12_isBroken 21 = .ok (.getfield 185, 3) := by decide +kernel
theorem dX12_isBroken_24 : decode cX12_isBroken 24 = .ok (.iload_n 1, 1) := by decide +kernel
theorem dX12_isBroken_25 : decode cX12_isBroken 25 = .ok (.iaload, 1) := by decide +kernel
theorem dX12_isBroken_26 : decode cX12_isBroken 26 = .ok (.iconst 1, 1) := by decide +kernel
theorem dX12_isBroken_27 : decode cX12_isBroken 27 = .ok (.if_icmp .ne 19, 3) := by decide +kernel
theorem dX12_isBroken_30 : decode cX12_isBroken 30 = .ok (.iload_n 2, 1) := by decide +kernel
theorem dX12_isBroken_31 : decode cX12_isBroken 31 = .ok (.iload_n 3, 1) := by decide +kernel
theorem dX12_isBroken_32 : decode cX12_isBroken 32 = .ok (.iadd, 1) := by decide +kernel
theorem dX12_isBroken_33 : decode cX12_isBroken 33 = .ok (.bipush 10, 2) := by decide +kernel
theorem dX12_isBroken_35 : decode cX12_isBroken 35 = .ok (.if_icmp .le 7, 3) := by decide +kernel
theorem dX12_isBroken_38 : decode cX12_isBroken 38 = .ok (.iconst 1, 1) := by decide +kernel
theorem dX12_isBroken_39 : decode cX12_isBroken 39 = .ok (.goto 20, 3) := by decide +kernel
theorem dX12_isBroken_42 : decode cX12_isBroken 42 = .ok (.iconst 0, 1) := by decide +kernel
theorem dX12_isBroken_43 : decode cX12_isBroken 43 = .ok (.goto 16, 3) := by decide +kernel
theorem dX12_isBroken_46 : decode cX12_isBroken 46 = .ok (.iload_n 2, 1) := by decide +kernel
theorem dX12_isBroken_47 : decode cX12_isBroken 47 = .ok (.iload_n 3, 1) := by decide +kernel
theorem dX12_isBroken_48 : decode cX12_isBroken 48 = .ok (.iadd, 1) := by decide +kernel
theorem dX12_isBroken_49 : decode cX12_isBroken 49 = .ok (.bipush 10, 2) := by decide +kernel
theorem dX12_isBroken_51 : decode cX12_isBroken 51 = .ok (.if_icmp .ge 7, 3) := by decide +kernel
theorem dX12_isBroken_54 : decode cX12_isBroken 54 = .ok (.iconst 1, 1) := by decide +kernel
theorem dX12_isBroken_55 : decode cX12_isBroken 55 = .ok (.goto 4, 3) := by decide +kernel
theorem dX12_isBroken_58 : decode cX12_isBroken 58 = .ok (.iconst 0, 1) := by decide +kernel
theorem dX12_isBroken_59 : decode cX12_isBroken 59 = .ok (.ireturn, 1) := by decide +kernel
theorem dX12_pumps_0 : decode cX12_pumps 0 = .ok (.iload_n 1, 1) := by decide +kernel
theorem dX12_pumps_1 : decode cX12_pumps 1 = .ok (.invokestatic 265, 3) := by decide +kernel
theorem dX12_pumps_4 : decode cX12_pumps 4 = .ok (.ifCond .eq 10, 3) := by decide +kernel
theorem dX12_pumps_7 : decode cX12_pumps 7 = .ok (.iload_n 2, 1) := by decide +kernel
theorem dX12_pumps_8 : decode cX12_pumps 8 = .ok (.invokestatic 257, 3) := by decide +kernel
theorem dX12_pumps_11 : decode cX12_pumps 11 = .ok (.ifCond .ne 6, 3) := by decide +kernel
theorem dX12_pumps_14 : decode cX12_pumps 14 = .ok (.bipush (-2), 2) := by decide +kernel
theorem dX12_pumps_16 : decode cX12_pumps 16 = .ok (.ireturn, 1) := by decide +kernel
theorem dX12_pumps_17 : decode cX12_pumps 17 = .ok (.iconst 0, 1) := by decide +kernel
theorem dX12_pumps_18 : decode cX12_pumps 18 = .ok (.istore_n 3, 1) := by decide +kernel
theorem dX12_pumps_19 : decode cX12_pumps 19 = .ok (.iconst 0, 1) := by decide +kernel
theorem dX12_pumps_20 : decode cX12_pumps 20 = .ok (.istore 4, 2) := by decide +kernel
theorem dX12_pumps_22 : decode cX12_pumps 22 = .ok (.iload 4, 2) := by decide +kernel
theorem dX12_pumps_24 : decode cX12_pumps 24 = .ok (.aload_n 0, 1) := by decide +kernel
theorem dX12_pumps_25 : decode cX12_pumps 25 = .ok (.getfield 359, 3) := by decide +kernel
theorem dX12_pumps_28 : decode cX12_pumps 28 = .ok (.if_icmp .ge 71, 3) := by decide +kernel
theorem dX12_pumps_31 : decode cX12_pumps 31 = .ok (.aload_n 0, 1) := by decide +kernel
theorem dX12_pumps_32 : decode cX12_pumps 32 = .ok (.iload_n 1, 1) := by decide +kernel
theorem dX12_pumps_33 : decode cX12_pumps 33 = .ok (.aload_n 0, 1) := by decide +kernel
theorem dX12_pumps_34 : decode cX12_pumps 34 = .ok (.getfield 179, 3) := by decide +kernel
theorem dX12_pumps_37 : decode cX12_pumps 37 = .ok (.iload 4, 2) := by decide +kernel
theorem dX12_pumps_39 : decode cX12_pumps 39 = .ok (.iaload, 1) := by decide +kernel
theorem dX12_pumps_40 : decode cX12_pumps 40 = .ok (.iload_n 2, 1) := by decide +kernel
theorem dX12_pumps_41 : decode cX12_pumps 41 = .ok (.invokevirtual 271, 3) := by decide +kernel
theorem dX12_pumps_44 : decode cX12_pumps 44 = .ok (.istore 5, 2) := by decide +kernel
theorem dX12_pumps_46 : decode cX12_pumps 46 = .ok (.aload_n 0, 1) := by decide +kernel
theorem dX12_pumps_47 : decode cX12_pumps 47 = .ok (.iload_n 1, 1) := by decide +kernel
theorem dX12_pumps_48 : decode cX12_pumps 48 = .ok (.aload_n 0, 1) := by decide +kernel
theorem dX12_pumps_49 : decode cX12_pumps 49 = .ok (.getfield 182, 3) := by decide +kernel
theorem dX12_pumps_52 : decode cX12_pumps 52 = .ok (.iload 4, 2) := by decide +kernel
theorem dX12_pumps_54 : decode cX12_pumps 54 = .ok (.iaload, 1) := by decide +kernel
theorem dX12_pumps_55 : decode cX12_pumps 55 = .ok (.iload_n 2, 1) := by decide +kernel
theorem dX12_pumps_56 : decode cX12_pumps 56 = .ok (.invokevirtual 271, 3) := by decide +kernel
theorem dX12_pumps_59 : decode cX12_pumps 59 = .ok (.istore 6, 2) := by decide +kernel
theorem dX12_pumps_61 : decode cX12_pumps 61 = .ok (.iload 5, 2) := by decide +kernel
theorem dX12_pumps_63 : decode cX12_pumps 63 = .ok (.iconst (-1), 1) := by decide +kernel
theorem dX12_pumps_64 : decode cX12_pumps 64 = .ok (.if_icmp .eq 29, 3) := by decide +kernel
theorem dX12_pumps_67 : decode cX12_pumps 67 = .ok (.iload 6, 2) := by decide +kernel
theorem dX12_pumps_69 : decode cX12_pumps 69 = .ok (.iconst (-1), 1) := by decide +kernel
theorem dX12_pumps_70 : decode cX12_pumps 70 = .ok (.if_icmp .eq 23, 3) := by decide +kernel
theorem dX12_pumps_73 : decode cX12_pumps 73 = .ok (.aload_n 0, 1) := by decide +kernel
theorem dX12_pumps_74 : decode cX12_pumps 74 = .ok (.iload 4, 2) := by decide +kernel
theorem dX12_pumps_76 : decode cX12_pumps 76 = .ok (.iload 5, 2) := by decide +kernel
theorem dX12_pumps_78 : decode cX12_pumps 78 = .ok (.iload 6, 2) := by decide +kernel
theorem dX12_pumps_80 : decode cX12_pumps 80 = .ok (.invokevirtual 362, 3) := by decide +kernel
theorem dX12_pumps_83 : decode cX12_pumps 83 = .ok (.ifCond .eq 10, 3) := by decide +kernel
theorem dX12_pumps_86 : decode cX12_pumps 86 = .ok (.iload_n 3, 1) := by decide +kernel
theorem dX12_pumps_87 : decode cX12_pumps 87 = .ok (.iconst 1, 1) := by decide +kernel
theorem dX12_pumps_88 : decode cX12_pumps 88 = .ok (.iload 4, 2) := by decide +kernel
theorem dX12_pumps_90 : decode cX12_pumps 90 = .ok (.ishl, 1) := by decide +kernel
theorem dX12_pumps_91 : decode cX12_pumps 91 = .ok (.ior, 1) := by decide +kernel
theorem dX12_pumps_92 : decode cX12_pumps 92 = .ok (.istore_n 3, 1) := by decide +kernel
theorem dX12_pumps_93 : decode cX12_pumps 93 = .ok (.iinc 4 1, 3) := by decide +kernel
theorem dX12_pumps_96 : decode cX12_pumps 96 = .ok (.goto (-74), 3) := by decide +kernel
theorem dX12_pumps_99 : decode cX12_pumps 99 = .ok (.iload_n 3, 1) := by decide +kernel
theorem dX12_pumps_100 : decode cX12_pumps 100 = .ok (.ireturn, 1) := by decide +kernel
theorem dX12_mendFrom_0 : decode cX12_mendFrom 0 = .ok (.iload_n 3, 1) := by decide +kernel
theorem dX12_mendFrom_1 : decode cX12_mendFrom 1 = .ok (.aload_n 0, 1) := by decide +kernel
theorem dX12_mendFrom_2 : decode cX12_mendFrom 2 = .ok (.getfield 365, 3) := by decide +kernel
theorem dX12_mendFrom_5 : decode cX12_mendFrom 5 = .ok (.if_icmp .lt 4, 3) := by decide +kernel
theorem dX12_mendFrom_8 : decode cX12_mendFrom 8 = .ok (.return_, 1) := by decide +kernel
theorem dX12_mendFrom_9 : decode cX12_mendFrom 9 = .ok (.iload_n 2, 1) := by decide +kernel
theorem dX12_mendFrom_10 : decode cX12_mendFrom 10 = .ok (.aload_n 0, 1) := by decide +kernel
theorem dX12_mendFrom_11 : decode cX12_mendFrom 11 = .ok (.getfield 252, 3) := by decide +kernel
theorem dX12_mendFrom_14 : decode cX12_mendFrom 14 = .ok (.if_icmp .ne 41, 3) := by decide +kernel
theorem dX12_mendFrom_17 : decode cX12_mendFrom 17 = .ok (.aload_n 0, 1) := by decide +kernel
theorem dX12_mendFrom_18 : decode cX12_mendFrom 18 = .ok (.iload_n 3, 1) := by decide +kernel
theorem dX12_mendFrom_19 : decode cX12_mendFrom 19 = .ok (.putfield 365, 3) := by decide +kernel
theorem dX12_mendFrom_22 : decode cX12_mendFrom 22 = .ok (.iconst 0, 1) := by decide +kernel
theorem dX12_mendFrom_23 : decode cX12_mendFrom 23 = .ok (.istore 4, 2) := by decide +kernel
theorem dX12_mendFrom_25 : decode cX12_mendFrom 25 = .ok (.iload 4, 2) := by decide +kernel
theorem dX12_mendFrom_27 : decode cX12_mendFrom 27 = .ok (.aload_n 0, 1) := by decide +kernel
theorem dX12_mendFrom_28 : decode cX12_mendFrom 28 = .ok (.getfield 252, 3) := by decide +kernel
theorem dX12_mendFrom_31 : decode cX12_mendFrom 31 = .ok (.if_icmp .ge 23, 3) := by decide +kernel
theorem dX12_mendFrom_34 : decode cX12_mendFrom 34 = .ok (.aload_n 0, 1) := by decide +kernel
theorem dX12_mendFrom_35 : decode cX12_mendFrom 35 = .ok (.getfield 228, 3) := by decide +kernel
theorem dX12_mendFrom_38 : decode cX12_mendFrom 38 = .ok (.iload 4, 2) := by decide +kernel
theorem dX12_mendFrom_40 : decode cX12_mendFrom 40 = .ok (.aload_n 0, 1) := by decide +kernel
theorem dX12_mendFrom_41 : decode cX12_mendFrom 41 = .ok (.getfield 222, 3) := by decide +kernel
theorem dX12_mendFrom_44 : decode cX12_mendFrom 44 = .ok (.iload 4, 2) := by decide +kernel
theorem dX12_mendFrom_46 : decode cX12_mendFrom 46 = .ok (.iaload, 1) := by decide +kernel
theorem dX12_mendFrom_47 : decode cX12_mendFrom 47 = .ok (.iastore, 1) := by decide +kernel
theorem dX12_mendFrom_48 : decode cX12_mendFrom 48 = .ok (.iinc 4 1, 3) := by decide +kernel
theorem dX12_mendFrom_51 : decode cX12_mendFrom 51 = .ok (.goto (-26), 3) := by decide +kernel
theorem dX12_mendFrom_54 : decode cX12_mendFrom 54 = .ok (.return_, 1) := by decide +kernel
theorem dX12_mendFrom_55 : decode cX12_mendFrom 55 = .ok (.iload_n 1, 1) := by decide +kernel
theorem dX12_mendFrom_56 : decode cX12_mendFrom 56 = .ok (.iload_n 2, 1) := by decide +kernel
theorem dX12_mendFrom_57 : decode cX12_mendFrom 57 = .ok (.ishr, 1) := by decide +kernel
theorem dX12_mendFrom_58 : decode cX12_mendFrom 58 = .ok (.iconst 1, 1) := by decide +kernel
theorem dX12_mendFrom_59 : decode cX12_mendFrom 59 = .ok (.iand, 1) := by decide +kernel
theorem dX12_mendFrom_60 : decode cX12_mendFrom 60 = .ok (.ifCond .ne 13, 3) := by decide +kernel
theorem dX12_mendFrom_63 : decode cX12_mendFrom 63 = .ok (.aload_n 0, 1) := by decide +kernel
theorem dX12_mendFrom_64 : decode cX12_mendFrom 64 = .ok (.iload_n 1, 1) := by decide +kernel
theorem dX12_mendFrom_65 : decode cX12_mendFrom 65 = .ok (.iload_n 2, 1) := by decide +kernel
theorem dX12_mendFrom_66 : decode cX12_mendFrom 66 = .ok (.iconst 1, 1) := by decide +kernel
theorem dX12_mendFrom_67 : decode cX12_mendFrom 67 = .ok (.iadd, 1) := by decide +kernel
theorem dX12_mendFrom_68 : decode cX12_mendFrom 68 = .ok (.iload_n 3, 1) := by decide +kernel
theorem dX12_mendFrom_69 : decode cX12_mendFrom 69 = .ok (.invokevirtual 368, 3) := by decide +kernel
theorem dX12_mendFrom_72 : decode cX12_mendFrom 72 = .ok (.return_, 1) := by decide +kernel
theorem dX12_mendFrom_73 : decode cX12_mendFrom 73 = .ok (.iconst 0, 1) := by decide +kernel
theorem dX12_mendFrom_74 : decode cX12_mendFrom 74 = .ok (.istore 4, 2) := by decide +kernel
theorem dX12_mendFrom_76 : decode cX12_mendFrom 76 = .ok (.iload 4, 2) := by decide +kernel
theorem dX12_mendFrom_78 : decode cX12_mendFrom 78 = .ok (.bipush 11, 2) := by decide +kernel
theorem dX12_mendFrom_80 : decode cX12_mendFrom 80 = .ok (.if_icmp .ge 48, 3) := by decide +kernel
theorem dX12_mendFrom_83 : decode cX12_mendFrom 83 = .ok (.aload_n 0, 1) := by decide +kernel
theorem dX12_mendFrom_84 : decode cX12_mendFrom 84 = .ok (.getfield 222, 3) := by decide +kernel
theorem dX12_mendFrom_87 : decode cX12_mendFrom 87 = .ok (.iload_n 2, 1) := by decide +kernel
theorem dX12_mendFrom_88 : decode cX12_mendFrom 88 = .ok (.iload 4, 2) := by decide +kernel
theorem dX12_mendFrom_90 : decode cX12_mendFrom 90 = .ok (.iastore, 1) := by decide +kernel
theorem dX12_mendFrom_91 : decode cX12_mendFrom 91 = .ok (.aload_n 0, 1) := by decide +kernel
theorem dX12_mendFrom_92 : decode cX12_mendFrom 92 = .ok (.iload_n 1, 1) := by decide +kernel
theorem dX12_mendFrom_93 : decode cX12_mendFrom 93 = .ok (.iload_n 2, 1) := by decide +kernel
theorem dX12_mendFrom_94 : decode cX12_mendFrom 94 = .ok (.invokevirtual 372, 3) := by decide +kernel
theorem dX12_mendFrom_97 : decode cX12_mendFrom 97 = .ok (.ifCond .eq 25, 3) := by decide +kernel
theorem dX12_mendFrom_100 : decode cX12_mendFrom 100 = .ok (.aload_n 0, 1) := by decide +kernel
theorem dX12_mendFrom_101 : decode cX12_mendFrom 101 = .ok (.iload_n 1, 1) := by decide +kernel
theorem dX12_mendFrom_102 : decode cX12_mendFrom 102 = .ok (.iload_n 2, 1) := by decide +kernel
theorem dX12_mendFrom_103 : decode cX12_mendFrom 103 = .ok (.iconst 1, 1) := by decide +kernel
theorem dX12_mendFrom_104 : decode cX12_mendFrom 104 = .ok (.iadd, 1) := by decide +kernel
theorem dX12_mendFrom_105 : decode cX12_mendFrom 105 = .ok (.iload_n 3, 1) := by decide +kernel
theorem dX12_mendFrom_106 : decode cX12_mendFrom 106 = .ok (.iload 4, 2) := by decide +kernel
theorem dX12_mendFrom_108 : decode cX12_mendFrom 108 = .ok (.aload_n 0, 1) := by decide +kernel
theorem dX12_mendFrom_109 : decode cX12_mendFrom 109 = .ok (.getfield 225, 3) := by decide +kernel
theorem dX12_mendFrom_112 : decode cX12_mendFrom 112 = .ok (.iload_n 2, 1) := by decide +kernel
theorem dX12_mendFrom_113 : decode cX12_mendFrom 113 = .ok (.iaload, 1) := by decide +kernel
theorem dX12_mendFrom_114 : decode cX12_mendFrom 114 = .ok (.isub, 1) := by decide +kernel
theorem dX12_mendFrom_115 : decode cX12_mendFrom 115 = .ok (.invokestatic 375, 3) := by decide +kernel
theorem dX12_mendFrom_118 : decode cX12_mendFrom 118 = .ok (.iadd, 1) := by decide +kernel
theorem dX12_mendFrom_119 : decode cX12_mendFrom 119 = .ok (.invokevirtual 368, 3) := by decide +kernel
theorem dX12_mendFrom_122 : decode cX12_mendFrom 122 = .ok (.iinc 4 1, 3) := by decide +kernel
theorem dX12_mendFrom_125 : decode cX12_mendFrom 125 = .ok (.goto (-49), 3) := by decide +kernel
theorem dX12_mendFrom_128 : decode cX12_mendFrom 128 = .ok (.return_, 1) := by decide +kernel
theorem dX12_mayBe_0 : decode cX12_mayBe 0 = .ok (.iconst 0, 1) := by decide +kernel
theorem dX12_mayBe_1 : decode cX12_mayBe 1 = .ok (.istore_n 3, 1) := by decide +kernel
theorem dX12_mayBe_2 : decode cX12_mayBe 2 = .ok (.iload_n 3, 1) := by decide +kernel
theorem dX12_mayBe_3 : decode cX12_mayBe 3 = .ok (.aload_n 0, 1) := by decide +kernel
theorem dX12_mayBe_4 : decode cX12_mayBe 4 = .ok (.getfield 359, 3) := by decide +kernel
theorem dX12_mayBe_7 : decode cX12_mayBe 7 = .ok (.if_icmp .ge 77, 3) := by decide +kernel
theorem dX12_mayBe_10 : decode cX12_mayBe 10 = .ok (.aload_n 0, 1) := by decide +kernel
theorem dX12_mayBe_11 : decode cX12_mayBe 11 = .ok (.getfield 179, 3) := by decide +kernel
theorem dX12_mayBe_14 : decode cX12_mayBe 14 = .ok (.iload_n 3, 1) := by decide +kernel
theorem dX12_mayBe_15 : decode cX12_mayBe 15 = .ok (.iaload, 1) := by decide +kernel
theorem dX12_mayBe_16 : decode cX12_mayBe 16 = .ok (.istore 4, 2) := by decide +kernel
theorem dX12_mayBe_18 : decode cX12_mayBe 18 = .ok (.aload_n 0, 1) := by decide +kernel
theorem dX12_mayBe_19 : decode cX12_mayBe 19 = .ok (.getfield 182, 3) := by decide +kernel
theorem dX12_mayBe_22 : decode cX12_mayBe 22 = .ok (.iload_n 3, 1) := by decide +kernel
theorem dX12_mayBe_23 : decode cX12_mayBe 23 = .ok (.iaload, 1) := by decide +kernel
theorem dX12_mayBe_24 : decode cX12_mayBe 24 = .ok (.istore 5, 2) := by decide +kernel
theorem dX12_mayBe_26 : decode cX12_mayBe 26 = .ok (.iload 4, 2) := by decide +kernel
theorem dX12_mayBe_28 : decode cX12_mayBe 28 = .ok (.iload 5, 2) := by decide +kernel
theorem dX12_mayBe_30 : decode cX12_mayBe 30 = .ok (.invokestatic 378, 3) := by decide +kernel
theorem dX12_mayBe_33 : decode cX12_mayBe 33 = .ok (.iload_n 2, 1) := by decide +kernel
theorem dX12_mayBe_34 : decode cX12_mayBe 34 = .ok (.if_icmp .ne 44, 3) := by decide +kernel
theorem dX12_mayBe_37 : decode cX12_mayBe 37 = .ok (.iload_n 1, 1) := by decide +kernel
theorem dX12_mayBe_38 : decode cX12_mayBe 38 = .ok (.iload 4, 2) := by decide +kernel
theorem dX12_mayBe_40 : decode cX12_mayBe 40 = .ok (.iload 5, 2) := by decide +kernel
theorem dX12_mayBe_42 : decode cX12_mayBe 42 = .ok (.invokestatic 278, 3) := by decide +kernel
theorem dX12_mayBe_45 : decode cX12_mayBe 45 = .ok (.ishr, 1) := by decide +kernel
theorem dX12_mayBe_46 : decode cX12_mayBe 46 = .ok (.iconst 1, 1) := by decide +kernel
theorem dX12_mayBe_47 : decode cX12_mayBe 47 = .ok (.iand, 1) := by decide +kernel
theorem dX12_mayBe_48 : decode cX12_mayBe 48 = .ok (.ifCond .ne 6, 3) := by decide +kernel
theorem dX12_mayBe_51 : decode cX12_mayBe 51 = .ok (.goto 27, 3) := by decide +kernel
theorem dX12_mayBe_54 : decode cX12_mayBe 54 = .ok (.aload_n 0, 1) := by decide +kernel
theorem dX12_mayBe_55 : decode cX12_mayBe 55 = .ok (.iload_n 3, 1) := by decide +kernel
theorem dX12_mayBe_56 : decode cX12_mayBe 56 = .ok (.aload_n 0, 1) := by decide +kernel
theorem dX12_mayBe_57 : decode cX12_mayBe 57 = .ok (.getfield 222, 3) := by decide +kernel
theorem dX12_mayBe_60 : decode cX12_mayBe 60 = .ok (.iload 4, 2) := by decide +kernel
theorem dX12_mayBe_62 : decode cX12_mayBe 62 = .ok (.iaload, 1) := by decide +kernel
theorem dX12_mayBe_63 : decode cX12_mayBe 63 = .ok (.aload_n 0, 1) := by decide +kernel
theorem dX12_mayBe_64 : decode cX12_mayBe 64 = .ok (.getfield 222, 3) := by decide +kernel
theorem dX12_mayBe_67 : decode cX12_mayBe 67 = .ok (.iload 5, 2) := by decide +kernel
theorem dX12_mayBe_69 : decode cX12_mayBe 69 = .ok (.iaload, 1) := by decide +kernel
theorem dX12_mayBe_70 : decode cX12_mayBe 70 = .ok (.invokevirtual 362, 3) := by decide +kernel
theorem dX12_mayBe_73 : decode cX12_mayBe 73 = .ok (.ifCond .eq 5, 3) := by decide +kernel
theorem dX12_mayBe_76 : decode cX12_mayBe 76 = .ok (.iconst 0, 1) := by decide +kernel
theorem dX12_mayBe_77 : decode cX12_mayBe 77 = .ok (.ireturn, 1) := by decide +kernel
theorem dX12_mayBe_78 : decode cX12_mayBe 78 = .ok (.iinc 3 1, 3) := by decide +kernel
theorem dX12_mayBe_81 : decode cX12_mayBe 81 = .ok (.goto (-79), 3) := by decide +kernel
theorem dX12_mayBe_84 : decode cX12_mayBe 84 = .ok (.iconst 1, 1) := by decide +kernel
theorem dX12_mayBe_85 : decode cX12_mayBe 85 = .ok (.ireturn, 1) := by decide +kernel
theorem dX12_mend_0 : decode cX12_mend 0 = .ok (.iload_n 1, 1) := by decide +kernel
theorem dX12_mend_1 : decode cX12_mend 1 = .ok (.invokestatic 265, 3) := by decide +kernel
theorem dX12_mend_4 : decode cX12_mend 4 = .ok (.ifCond .eq 27, 3) := by decide +kernel
theorem dX12_mend_7 : decode cX12_mend 7 = .ok (.iload_n 2, 1) := by decide +kernel
theorem dX12_mend_8 : decode cX12_mend 8 = .ok (.invokestatic 257, 3) := by decide +kernel
theorem dX12_mend_11 : decode cX12_mend 11 = .ok (.ifCond .eq 20, 3) := by decide +kernel
theorem dX12_mend_14 : decode cX12_mend 14 = .ok (.iload_n 3, 1) := by decide +kernel
theorem dX12_mend_15 : decode cX12_mend 15 = .ok (.i2l, 1) := by decide +kernel
theorem dX12_mend_16 : decode cX12_mend 16 = .ok (.lconst 1, 1) := by decide +kernel
theorem dX12_mend_17 : decode cX12_mend 17 = .ok (.lconst 1, 1) := by decide +kernel
theorem dX12_mend_18 : decode cX12_mend 18 = .ok (.aload_n 0, 1) := by decide +kernel
theorem dX12_mend_19 : decode cX12_mend 19 = .ok (.getfield 252, 3) := by decide +kernel
theorem dX12_mend_22 : decode cX12_mend 22 = .ok (.lshl, 1) := by decide +kernel
theorem dX12_mend_23 : decode cX12_mend 23 = .ok (.lconst 1, 1) := by decide +kernel
theorem dX12_mend_24 : decode cX12_mend 24 = .ok (.lsub, 1) := by decide +kernel
theorem dX12_mend_25 : decode cX12_mend 25 = .ok (.invokestatic 5, 3) := by decide +kernel
theorem dX12_mend_28 : decode cX12_mend 28 = .ok (.ifCond .ne 6, 3) := by decide +kernel
theorem dX12_mend_31 : decode cX12_mend 31 = .ok (.bipush (-2), 2) := by decide +kernel
theorem dX12_mend_33 : decode cX12_mend 33 = .ok (.ireturn, 1) := by decide +kernel
theorem dX12_mend_34 : decode cX12_mend 34 = .ok (.iconst 0, 1) := by decide +kernel
theorem dX12_mend_35 : decode cX12_mend 35 = .ok (.istore 4, 2) := by decide +kernel
theorem dX12_mend_37 : decode cX12_mend 37 = .ok (.iconst 1, 1) := by decide +kernel
theorem dX12_mend_38 : decode cX12_mend 38 = .ok (.istore 5, 2) := by decide +kernel
theorem dX12_mend_40 : decode cX12_mend 40 = .ok (.iconst 0, 1) := by decide +kernel
theorem dX12_mend_41 : decode cX12_mend 41 = .ok (.istore 6, 2) := by decide +kernel
theorem dX12_mend_43 : decode cX12_mend 43 = .ok (.iload 6, 2) := by decide +kernel
theorem dX12_mend_45 : decode cX12_mend 45 = .ok (.aload_n 0, 1) := by decide +kernel
theorem dX12_mend_46 : decode cX12_mend 46 = .ok (.getfield 252, 3) := by decide +kernel
theorem dX12_mend_49 : decode cX12_mend 49 = .ok (.if_icmp .ge 62, 3) := by decide +kernel
theorem dX12_mend_52 : decode cX12_mend 52 = .ok (.iload_n 3, 1) := by decide +kernel
theorem dX12_mend_53 : decode cX12_mend 53 = .ok (.iload 6, 2) := by decide +kernel
theorem dX12_mend_55 : decode cX12_mend 55 = .ok (.ishr, 1) := by decide +kernel
theorem dX12_mend_56 : decode cX12_mend 56 = .ok (.iconst 1, 1) := by decide +kernel
theorem dX12_mend_57 : decode cX12_mend 57 = .ok (.iand, 1) := by decide +kernel
theorem dX12_mend_58 : decode cX12_mend 58 = .ok (.ifCond .ne 6, 3) := by decide +kernel
theorem dX12_mend_61 : decode cX12_mend 61 = .ok (.goto 44, 3) := by decide +kernel
theorem dX12_mend_64 : decode cX12_mend 64 = .ok (.iinc 4 1, 3) := by decide +kernel
theorem dX12_mend_67 : decode cX12_mend 67 = .ok (.aload_n 0, 1) := by decide +kernel
theorem dX12_mend_68 : decode cX12_mend 68 = .ok (.getfield 225, 3) := by decide +kernel
theorem dX12_mend_71 : decode cX12_mend 71 = .ok (.iload 6, 2) := by decide +kernel
theorem dX12_mend_73 : decode cX12_mend 73 = .ok (.aload_n 0, 1) := by decide +kernel
theorem dX12_mend_74 : decode cX12_mend 74 = .ok (.iload_n 1, 1) := by decide +kernel
theorem dX12_mend_75 : decode cX12_mend 75 = .ok (.iload 6, 2) := by decide +kernel
theorem dX12_mend_77 : decode cX12_mend 77 = .ok (.iload_n 2, 1) := by decide +kernel
theorem dX12_mend_78 : decode cX12_mend 78 = .ok (.invokevirtual 271, 3) := by decide +kernel
theorem dX12_mend_81 : decode cX12_mend 81 = .ok (.iastore, 1) := by decide +kernel
theorem dX12_mend_82 : decode cX12_mend 82 = .ok (.iload 5, 2) := by decide +kernel
theorem dX12_mend_84 : decode cX12_mend 84 = .ok (.ifCond .eq 18, 3) := by decide +kernel
theorem dX12_mend_87 : decode cX12_mend 87 = .ok (.aload_n 0, 1) := by decide +kernel
theorem dX12_mend_88 : decode cX12_mend 88 = .ok (.getfield 225, 3) := by decide +kernel
theorem dX12_mend_91 : decode cX12_mend 91 = .ok (.iload 6, 2) := by decide +kernel
theorem dX12_mend_93 : decode cX12_mend 93 = .ok (.iaload, 1) := by decide +kernel
theorem dX12_mend_94 : decode cX12_mend 94 = .ok (.iconst (-1), 1) := by decide +kernel
theorem dX12_mend_95 : decode cX12_mend 95 = .ok (.if_icmp .eq 7, 3) := by decide +kernel
theorem dX12_mend_98 : decode cX12_mend 98 = .ok (.iconst 1, 1) := by decide +kernel
theorem dX12_mend_99 : decode cX12_mend 99 = .ok (.goto 4, 3) := by decide +kernel
theorem dX12_mend_102 : decode cX12_mend 102 = .ok (.iconst 0, 1) := by decide +kernel
theorem dX12_mend_103 : decode cX12_mend 103 = .ok (.istore 5, 2) := by decide +kernel
theorem dX12_mend_105 : decode cX12_mend 105 = .ok (.iinc 6 1, 3) := by decide +kernel
theorem dX12_mend_108 : decode cX12_mend 108 = .ok (.goto (-65), 3) := by decide +kernel
theorem dX12_mend_111 : decode cX12_mend 111 = .ok (.iload 4, 2) := by decide +kernel
theorem dX12_mend_113 : decode cX12_mend 113 = .ok (.iconst 4, 1) := by decide +kernel
theorem dX12_mend_114 : decode cX12_mend 114 = .ok (.if_icmp .le 6, 3) := by decide +kernel
theorem dX12_mend_117 : decode cX12_mend 117 = .ok (.bipush (-3), 2) := by decide +kernel
theorem dX12_mend_119 : decode cX12_mend 119 = .ok (.ireturn, 1) := by decide +kernel
theorem dX12_mend_120 : decode cX12_mend 120 = .ok (.iload 5, 2) := by decide +kernel
theorem dX12_mend_122 : decode cX12_mend 122 = .ok (.ifCond .ne 6, 3) := by decide +kernel
theorem dX12_mend_125 : decode cX12_mend 125 = .ok (.bipush (-4), 2) := by decide +kernel
theorem dX12_mend_127 : decode cX12_mend 127 = .ok (.ireturn, 1) := by decide +kernel
theorem dX12_mend_128 : decode cX12_mend 128 = .ok (.aload_n 0, 1) := by decide +kernel
theorem dX12_mend_129 : decode cX12_mend 129 = .ok (.sipush 1000, 3) := by decide +kernel
theorem dX12_mend_132 : decode cX12_mend 132 = .ok (.putfield 365, 3) := by decide +kernel
theorem dX12_mend_135 : decode cX12_mend 135 = .ok (.aload_n 0, 1) := by decide +kernel
theorem dX12_mend_136 : decode cX12_mend 136 = .ok (.iload_n 3, 1) := by decide +kernel
theorem dX12_mend_137 : decode cX12_mend 137 = .ok (.iconst 0, 1) := by decide +kernel
theorem dX12_mend_138 : decode cX12_mend 138 = .ok (.iconst 0, 1) := by decide +kernel
theorem dX12_mend_139 : decode cX12_mend 139 = .ok (.invokevirtual 368, 3) := by decide +kernel
theorem dX12_mend_142 : decode cX12_mend 142 = .ok (.iconst 0, 1) := by decide +kernel
theorem dX12_mend_143 : decode cX12_mend 143 = .ok (.istore 6, 2) := by decide +kernel
theorem dX12_mend_145 : decode cX12_mend 145 = .ok (.iload 6, 2) := by decide +kernel
theorem dX12_mend_147 : decode cX12_mend 147 = .ok (.bipush 20, 2) := by decide +kernel
theorem dX12_mend_149 : decode cX12_mend 149 = .ok (.if_icmp .ge 46, 3) := by decide +kernel
theorem dX12_mend_152 : decode cX12_mend 152 = .ok (.aload_n 0, 1) := by decide +kernel
theorem dX12_mend_153 : decode cX12_mend 153 = .ok (.getfield 219, 3) := by decide +kernel
theorem dX12_mend_156 : decode cX12_mend 156 = .ok (.iload 6, 2) := by decide +kernel
theorem dX12_mend_158 : decode cX12_mend 158 = .ok (.iload 6, 2) := by decide +kernel
theorem dX12_mend_160 : decode cX12_mend 160 = .ok (.aload_n 0, 1) := by decide +kernel
theorem dX12_mend_161 : decode cX12_mend 161 = .ok (.getfield 252, 3) := by decide +kernel
theorem dX12_mend_164 : decode cX12_mend 164 = .ok (.if_icmp .ge 23, 3) := by decide +kernel
theorem dX12_mend_167 : decode cX12_mend 167 = .ok (.iload_n 3, 1) := by decide +kernel
theorem dX12_mend_168 : decode cX12_mend 168 = .ok (.iload 6, 2) := by decide +kernel
theorem dX12_mend_170 : decode cX12_mend 170 = .ok (.ishr, 1) := by decide +kernel
theorem dX12_mend_171 : decode cX12_mend 171 = .ok (.iconst 1, 1) := by decide +kernel
theorem dX12_mend_172 : decode cX12_mend 172 = .ok (.iand, 1) := by decide +kernel
theorem dX12_mend_173 : decode cX12_mend 173 = .ok (.iconst 1, 1) := by decide +kernel
theorem dX12_mend_174 : decode cX12_mend 174 = .ok (.if_icmp .ne 13, 3) := by decide +kernel
theorem dX12_mend_177 : decode cX12_mend 177 = .ok (.aload_n 0, 1) := by decide +kernel
theorem dX12_mend_178 : decode cX12_mend 178 = .ok (.getfield 228, 3) := by decide +kernel
theorem dX12_mend_181 : decode cX12_mend 181 = .ok (.iload 6, 2) := by decide +kernel
theorem dX12_mend_183 : decode cX12_mend 183 = .ok (.iaload, 1) := by decide +kernel
theorem dX12_mend_184 : decode cX12_mend 184 = .ok (.goto 4, 3) := by decide +kernel
theorem dX12_mend_187 : decode cX12_mend 187 = .ok (.iconst (-1), 1) := by decide +kernel
theorem dX12_mend_188 : decode cX12_mend 188 = .ok (.iastore, 1) := by decide +kernel
theorem dX12_mend_189 : decode cX12_mend 189 = .ok (.iinc 6 1, 3) := by decide +kernel
theorem dX12_mend_192 : decode cX12_mend 192 = .ok (.goto (-47), 3) := by decide +kernel
theorem dX12_mend_195 : decode cX12_mend 195 = .ok (.aload_n 0, 1) := by decide +kernel
theorem dX12_mend_196 : decode cX12_mend 196 = .ok (.getfield 365, 3) := by decide +kernel
theorem dX12_mend_199 : decode cX12_mend 199 = .ok (.ireturn, 1) := by decide +kernel
theorem dX12_mended_0 : decode cX12_mended 0 = .ok (.iload_n 1, 1) := by decide +kernel
theorem dX12_mended_1 : decode cX12_mended 1 = .ok (.i2l, 1) := by decide +kernel
theorem dX12_mended_2 : decode cX12_mended 2 = .ok (.lconst 0, 1) := by decide +kernel
