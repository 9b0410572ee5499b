theorem dX6_readToken_15 : decode cX6_readToken 15 = .ok (.aload_n 0, 1) := by decide +kernel
theorem dX6_readToken_16 : decode cX6_readToken 16 = .ok (.getfield 48, 3) := by decide +kernel
theorem dX6_readToken_19 : decode cX6_readToken 19 = .ok (.invokevirtual 145, 3) := by decide +kernel
theorem dX6_readToken_22 : decode cX6_readToken 22 = .ok (.iconst 1, 1) := by decide +kernel
theorem dX6_readToken_23 : decode cX6_readToken 23 = .ok (.if_icmp .ne 16, 3) := by decide +kernel
theorem dX6_readToken_26 : decode cX6_readToken 26 = .ok (.aload_n 0, 1) := by decide +kernel
theorem dX6_readToken_27 : decode cX6_readToken 27 = .ok (.dup, 1) := by decide +kernel
theorem dX6_readToken_28 : decode cX6_readToken 28 = .ok (.getfield 48, 3) := by decide +kernel
theorem dX6_readToken_31 : decode cX6_readToken 31 = .ok (.iconst 1, 1) := by decide +kernel
theorem dX6_readToken_32 : decode cX6_readToken 32 = .ok (.iadd, 1) := by decide +kernel
theorem dX6_readToken_33 : decode cX6_readToken 33 = .ok (.putfield 48, 3) := by decide +kernel
theorem dX6_readToken_36 : decode cX6_readToken 36 = .ok (.goto (-36), 3) := by decide +kernel
theorem dX6_readToken_39 : decode cX6_readToken 39 = .ok (.aload_n 0, 1) := by decide +kernel
theorem dX6_readToken_40 : decode cX6_readToken 40 = .ok (.aload_n 0, 1) := by decide +kernel
theorem dX6_readToken_41 : decode cX6_readToken 41 = .ok (.getfield 48, 3) := by decide +kernel
theorem dX6_readToken_44 : decode cX6_readToken 44 = .ok (.putfield 133, 3) := by decide +kernel
theorem dX6_readToken_47 : decode cX6_readToken 47 = .ok (.aload_n 0, 1) := by decide +kernel
theorem dX6_readToken_48 : decode cX6_readToken 48 = .ok (.aload_n 0, 1) := by decide +kernel
theorem dX6_readToken_49 : decode cX6_readToken 49 = .ok (.aload_n 0, 1) := by decide +kernel
theorem dX6_readToken_50 : decode cX6_readToken 50 = .ok (.getfield 133, 3) := by decide +kernel
theorem dX6_readToken_53 : decode cX6_readToken 53 = .ok (.invokevirtual 145, 3) := by decide +kernel
theorem dX6_readToken_56 : decode cX6_readToken 56 = .ok (.putfield 70, 3) := by decide +kernel
theorem dX6_readToken_59 : decode cX6_readToken 59 = .ok (.aload_n 0, 1) := by decide +kernel
theorem dX6_readToken_60 : decode cX6_readToken 60 = .ok (.getfield 70, 3) := by decide +kernel
theorem dX6_readToken_63 : decode cX6_readToken 63 = .ok (.ifCond .ne 4, 3) := by decide +kernel
theorem dX6_readToken_66 : decode cX6_readToken 66 = .ok (.return_, 1) := by decide +kernel
theorem dX6_readToken_67 : decode cX6_readToken 67 = .ok (.aload_n 0, 1) := by decide +kernel
theorem dX6_readToken_68 : decode cX6_readToken 68 = .ok (.dup, 1) := by decide +kernel
theorem dX6_readToken_69 : decode cX6_readToken 69 = .ok (.getfield 48, 3) := by decide +kernel
theorem dX6_readToken_72 : decode cX6_readToken 72 = .ok (.iconst 1, 1) := by decide +kernel
theorem dX6_readToken_73 : decode cX6_readToken 73 = .ok (.iadd, 1) := by decide +kernel
theorem dX6_readToken_74 : decode cX6_readToken 74 = .ok (.putfield 48, 3) := by decide +kernel
theorem dX6_readToken_77 : decode cX6_readToken 77 = .ok (.aload_n 0, 1) := by decide +kernel
theorem dX6_readToken_78 : decode cX6_readToken 78 = .ok (.getfield 70, 3) := by decide +kernel
theorem dX6_readToken_81 : decode cX6_readToken 81 = .ok (.iconst 2, 1) := by decide +kernel
theorem dX6_readToken_82 : decode cX6_readToken 82 = .ok (.if_icmp .eq 11, 3) := by decide +kernel
theorem dX6_readToken_85 : decode cX6_readToken 85 = .ok (.aload_n 0, 1) := by decide +kernel
theorem dX6_readToken_86 : decode cX6_readToken 86 = .ok (.getfield 70, 3) := by decide +kernel
theorem dX6_readToken_89 : decode cX6_readToken 89 = .ok (.iconst 3, 1) := by decide +kernel
theorem dX6_readToken_90 : decode cX6_readToken 90 = .ok (.if_icmp .ne 7, 3) := by decide +kernel
theorem dX6_readToken_93 : decode cX6_readToken 93 = .ok (.iconst 1, 1) := by decide +kernel
theorem dX6_readToken_94 : decode cX6_readToken 94 = .ok (.goto 4, 3) := by decide +kernel
theorem dX6_readToken_97 : decode cX6_readToken 97 = .ok (.iconst 0, 1) := by decide +kernel
theorem dX6_readToken_98 : decode cX6_readToken 98 = .ok (.istore_n 1, 1) := by decide +kernel
theorem dX6_readToken_99 : decode cX6_readToken 99 = .ok (.iload_n 1, 1) := by decide +kernel
theorem dX6_readToken_100 : decode cX6_readToken 100 = .ok (.ifCond .eq 45, 3) := by decide +kernel
theorem dX6_readToken_103 : decode cX6_readToken 103 = .ok (.aload_n 0, 1) := by decide +kernel
theorem dX6_readToken_104 : decode cX6_readToken 104 = .ok (.getfield 48, 3) := by decide +kernel
theorem dX6_readToken_107 : decode cX6_readToken 107 = .ok (.aload_n 0, 1) := by decide +kernel
theorem dX6_readToken_108 : decode cX6_readToken 108 = .ok (.getfield 22, 3) := by decide +kernel
theorem dX6_readToken_111 : decode cX6_readToken 111 = .ok (.getfield 142, 3) := by decide +kernel
theorem dX6_readToken_114 : decode cX6_readToken 114 = .ok (.if_icmp .ge 31, 3) := by decide +kernel
theorem dX6_readToken_117 : decode cX6_readToken 117 = .ok (.aload_n 0, 1) := by decide +kernel
theorem dX6_readToken_118 : decode cX6_readToken 118 = .ok (.aload_n 0, 1) := by decide +kernel
theorem dX6_readToken_119 : decode cX6_readToken 119 = .ok (.getfield 48, 3) := by decide +kernel
theorem dX6_readToken_122 : decode cX6_readToken 122 = .ok (.invokevirtual 145, 3) := by decide +kernel
theorem dX6_readToken_125 : decode cX6_readToken 125 = .ok (.aload_n 0, 1) := by decide +kernel
theorem dX6_readToken_126 : decode cX6_readToken 126 = .ok (.getfield 70, 3) := by decide +kernel
theorem dX6_readToken_129 : decode cX6_readToken 129 = .ok (.if_icmp .ne 16, 3) := by decide +kernel
theorem dX6_readToken_132 : decode cX6_readToken 132 = .ok (.aload_n 0, 1) := by decide +kernel
theorem dX6_readToken_133 : decode cX6_readToken 133 = .ok (.dup, 1) := by decide +kernel
theorem dX6_readToken_134 : decode cX6_readToken 134 = .ok (.getfield 48, 3) := by decide +kernel
theorem dX6_readToken_137 : decode cX6_readToken 137 = .ok (.iconst 1, 1) := by decide +kernel
theorem dX6_readToken_138 : decode cX6_readToken 138 = .ok (.iadd, 1) := by decide +kernel
theorem dX6_readToken_139 : decode cX6_readToken 139 = .ok (.putfield 48, 3) := by decide +kernel
theorem dX6_readToken_142 : decode cX6_readToken 142 = .ok (.goto (-43), 3) := by decide +kernel
theorem dX6_readToken_145 : decode cX6_readToken 145 = .ok (.aload_n 0, 1) := by decide +kernel
theorem dX6_readToken_146 : decode cX6_readToken 146 = .ok (.getfield 70, 3) := by decide +kernel
theorem dX6_readToken_149 : decode cX6_readToken 149 = .ok (.iconst 3, 1) := by decide +kernel
theorem dX6_readToken_150 : decode cX6_readToken 150 = .ok (.if_icmp .ne 21, 3) := by decide +kernel
theorem dX6_readToken_153 : decode cX6_readToken 153 = .ok (.aload_n 0, 1) := by decide +kernel
theorem dX6_readToken_154 : decode cX6_readToken 154 = .ok (.getfield 48, 3) := by decide +kernel
theorem dX6_readToken_157 : decode cX6_readToken 157 = .ok (.aload_n 0, 1) := by decide +kernel
theorem dX6_readToken_158 : decode cX6_readToken 158 = .ok (.getfield 133, 3) := by decide +kernel
theorem dX6_readToken_161 : decode cX6_readToken 161 = .ok (.isub, 1) := by decide +kernel
theorem dX6_readToken_162 : decode cX6_readToken 162 = .ok (.iconst 4, 1) := by decide +kernel
theorem dX6_readToken_163 : decode cX6_readToken 163 = .ok (.if_icmp .le 8, 3) := by decide +kernel
theorem dX6_readToken_166 : decode cX6_readToken 166 = .ok (.aload_n 0, 1) := by decide +kernel
theorem dX6_readToken_167 : decode cX6_readToken 167 = .ok (.iconst 5, 1) := by decide +kernel
theorem dX6_readToken_168 : decode cX6_readToken 168 = .ok (.putfield 70, 3) := by decide +kernel
theorem dX6_readToken_171 : decode cX6_readToken 171 = .ok (.return_, 1) := by decide +kernel
theorem dX6_kindAt_0 : decode cX6_kindAt 0 = .ok (.iload_n 1, 1) := by decide +kernel
theorem dX6_kindAt_1 : decode cX6_kindAt 1 = .ok (.ifCond .lt 21, 3) := by decide +kernel
theorem dX6_kindAt_4 : decode cX6_kindAt 4 = .ok (.iload_n 1, 1) := by decide +kernel
theorem dX6_kindAt_5 : decode cX6_kindAt 5 = .ok (.aload_n 0, 1) := by decide +kernel
theorem dX6_kindAt_6 : decode cX6_kindAt 6 = .ok (.getfield 22, 3) := by decide +kernel
theorem dX6_kindAt_9 : decode cX6_kindAt 9 = .ok (.getfield 142, 3) := by decide +kernel
theorem dX6_kindAt_12 : decode cX6_kindAt 12 = .ok (.if_icmp .ge 10, 3) := by decide +kernel
theorem dX6_kindAt_15 : decode cX6_kindAt 15 = .ok (.iload_n 1, 1) := by decide +kernel
theorem dX6_kindAt_16 : decode cX6_kindAt 16 = .ok (.sipush 500, 3) := by decide +kernel
theorem dX6_kindAt_19 : decode cX6_kindAt 19 = .ok (.if_icmp .lt 5, 3) := by decide +kernel
theorem dX6_kindAt_22 : decode cX6_kindAt 22 = .ok (.iconst 0, 1) := by decide +kernel
theorem dX6_kindAt_23 : decode cX6_kindAt 23 = .ok (.ireturn, 1) := by decide +kernel
theorem dX6_kindAt_24 : decode cX6_kindAt 24 = .ok (.aload_n 0, 1) := by decide +kernel
theorem dX6_kindAt_25 : decode cX6_kindAt 25 = .ok (.getfield 22, 3) := by decide +kernel
theorem dX6_kindAt_28 : decode cX6_kindAt 28 = .ok (.getfield 136, 3) := by decide +kernel
theorem dX6_kindAt_31 : decode cX6_kindAt 31 = .ok (.iload_n 1, 1) := by decide +kernel
theorem dX6_kindAt_32 : decode cX6_kindAt 32 = .ok (.baload, 1) := by decide +kernel
theorem dX6_kindAt_33 : decode cX6_kindAt 33 = .ok (.istore_n 2, 1) := by decide +kernel
theorem dX6_kindAt_34 : decode cX6_kindAt 34 = .ok (.iload_n 2, 1) := by decide +kernel
theorem dX6_kindAt_35 : decode cX6_kindAt 35 = .ok (.bipush 32, 2) := by decide +kernel
theorem dX6_kindAt_37 : decode cX6_kindAt 37 = .ok (.if_icmp .eq 9, 3) := by decide +kernel
theorem dX6_kindAt_40 : decode cX6_kindAt 40 = .ok (.iload_n 2, 1) := by decide +kernel
theorem dX6_kindAt_41 : decode cX6_kindAt 41 = .ok (.bipush 10, 2) := by decide +kernel
theorem dX6_kindAt_43 : decode cX6_kindAt 43 = .ok (.if_icmp .ne 5, 3) := by decide +kernel
theorem dX6_kindAt_46 : decode cX6_kindAt 46 = .ok (.iconst 1, 1) := by decide +kernel
theorem dX6_kindAt_47 : decode cX6_kindAt 47 = .ok (.ireturn, 1) := by decide +kernel
theorem dX6_kindAt_48 : decode cX6_kindAt 48 = .ok (.iload_n 2, 1) := by decide +kernel
theorem dX6_kindAt_49 : decode cX6_kindAt 49 = .ok (.bipush 97, 2) := by decide +kernel
theorem dX6_kindAt_51 : decode cX6_kindAt 51 = .ok (.if_icmp .lt 11, 3) := by decide +kernel
theorem dX6_kindAt_54 : decode cX6_kindAt 54 = .ok (.iload_n 2, 1) := by decide +kernel
theorem dX6_kindAt_55 : decode cX6_kindAt 55 = .ok (.bipush 122, 2) := by decide +kernel
theorem dX6_kindAt_57 : decode cX6_kindAt 57 = .ok (.if_icmp .gt 5, 3) := by decide +kernel
theorem dX6_kindAt_60 : decode cX6_kindAt 60 = .ok (.iconst 2, 1) := by decide +kernel
theorem dX6_kindAt_61 : decode cX6_kindAt 61 = .ok (.ireturn, 1) := by decide +kernel
theorem dX6_kindAt_62 : decode cX6_kindAt 62 = .ok (.iload_n 2, 1) := by decide +kernel
theorem dX6_kindAt_63 : decode cX6_kindAt 63 = .ok (.bipush 48, 2) := by decide +kernel
theorem dX6_kindAt_65 : decode cX6_kindAt 65 = .ok (.if_icmp .lt 11, 3) := by decide +kernel
theorem dX6_kindAt_68 : decode cX6_kindAt 68 = .ok (.iload_n 2, 1) := by decide +kernel
theorem dX6_kindAt_69 : decode cX6_kindAt 69 = .ok (.bipush 57, 2) := by decide +kernel
theorem dX6_kindAt_71 : decode cX6_kindAt 71 = .ok (.if_icmp .gt 5, 3) := by decide +kernel
theorem dX6_kindAt_74 : decode cX6_kindAt 74 = .ok (.iconst 3, 1) := by decide +kernel
theorem dX6_kindAt_75 : decode cX6_kindAt 75 = .ok (.ireturn, 1) := by decide +kernel
theorem dX6_kindAt_76 : decode cX6_kindAt 76 = .ok (.iload_n 2, 1) := by decide +kernel
theorem dX6_kindAt_77 : decode cX6_kindAt 77 = .ok (.bipush 59, 2) := by decide +kernel
theorem dX6_kindAt_79 : decode cX6_kindAt 79 = .ok (.if_icmp .ne 7, 3) := by decide +kernel
theorem dX6_kindAt_82 : decode cX6_kindAt 82 = .ok (.iconst 4, 1) := by decide +kernel
theorem dX6_kindAt_83 : decode cX6_kindAt 83 = .ok (.goto 4, 3) := by decide +kernel
theorem dX6_kindAt_86 : decode cX6_kindAt 86 = .ok (.iconst 5, 1) := by decide +kernel
theorem dX6_kindAt_87 : decode cX6_kindAt 87 = .ok (.ireturn, 1) := by decide +kernel
theorem dX6_isWord_0 : decode cX6_isWord 0 = .ok (.aload_n 0, 1) := by decide +kernel
theorem dX6_isWord_1 : decode cX6_isWord 1 = .ok (.getfield 70, 3) := by decide +kernel
theorem dX6_isWord_4 : decode cX6_isWord 4 = .ok (.iconst 2, 1) := by decide +kernel
theorem dX6_isWord_5 : decode cX6_isWord 5 = .ok (.if_icmp .ne 19, 3) := by decide +kernel
theorem dX6_isWord_8 : decode cX6_isWord 8 = .ok (.aload_n 0, 1) := by decide +kernel
theorem dX6_isWord_9 : decode cX6_isWord 9 = .ok (.getfield 48, 3) := by decide +kernel
theorem dX6_isWord_12 : decode cX6_isWord 12 = .ok (.aload_n 0, 1) := by decide +kernel
theorem dX6_isWord_13 : decode cX6_isWord 13 = .ok (.getfield 133, 3) := by decide +kernel
theorem dX6_isWord_16 : decode cX6_isWord 16 = .ok (.isub, 1) := by decide +kernel
theorem dX6_isWord_17 : decode cX6_isWord 17 = .ok (.aload_n 1, 1) := by decide +kernel
theorem dX6_isWord_18 : decode cX6_isWord 18 = .ok (.invokevirtual 148, 3) := by decide +kernel
theorem dX6_isWord_21 : decode cX6_isWord 21 = .ok (.if_icmp .eq 5, 3) := by decide +kernel
theorem dX6_isWord_24 : decode cX6_isWord 24 = .ok (.iconst 0, 1) := by decide +kernel
theorem dX6_isWord_25 : decode cX6_isWord 25 = .ok (.ireturn, 1) := by decide +kernel
theorem dX6_isWord_26 : decode cX6_isWord 26 = .ok (.iconst 0, 1) := by decide +kernel
theorem dX6_isWord_27 : decode cX6_isWord 27 = .ok (.istore_n 2, 1) := by decide +kernel
theorem dX6_isWord_28 : decode cX6_isWord 28 = .ok (.iload_n 2, 1) := by decide +kernel
theorem dX6_isWord_29 : decode cX6_isWord 29 = .ok (.aload_n 1, 1) := by decide +kernel
theorem dX6_isWord_30 : decode cX6_isWord 30 = .ok (.invokevirtual 148, 3) := by decide +kernel
theorem dX6_isWord_33 : decode cX6_isWord 33 = .ok (.if_icmp .ge 33, 3) := by decide +kernel
theorem dX6_isWord_36 : decode cX6_isWord 36 = .ok (.aload_n 0, 1) := by decide +kernel
theorem dX6_isWord_37 : decode cX6_isWord 37 = .ok (.getfield 22, 3) := by decide +kernel
theorem dX6_isWord_40 : decode cX6_isWord 40 = .ok (.getfield 136, 3) := by decide +kernel
theorem dX6_isWord_43 : decode cX6_isWord 43 = .ok (.aload_n 0, 1) := by decide +kernel
theorem dX6_isWord_44 : decode cX6_isWord 44 = .ok (.getfield 133, 3) := by decide +kernel
theorem dX6_isWord_47 : decode cX6_isWord 47 = .ok (.iload_n 2, 1) := by decide +kernel
theorem dX6_isWord_48 : decode cX6_isWord 48 = .ok (.iadd, 1) := by decide +kernel
theorem dX6_isWord_49 : decode cX6_isWord 49 = .ok (.baload, 1) := by decide +kernel
theorem dX6_isWord_50 : decode cX6_isWord 50 = .ok (.aload_n 1, 1) := by decide +kernel
theorem dX6_isWord_51 : decode cX6_isWord 51 = .ok (.iload_n 2, 1) := by decide +kernel
theorem dX6_isWord_52 : decode cX6_isWord 52 = .ok (.invokevirtual 152, 3) := by decide +kernel
theorem dX6_isWord_55 : decode cX6_isWord 55 = .ok (.if_icmp .eq 5, 3) := by decide +kernel
theorem dX6_isWord_58 : decode cX6_isWord 58 = .ok (.iconst 0, 1) := by decide +kernel
theorem dX6_isWord_59 : decode cX6_isWord 59 = .ok (.ireturn, 1) := by decide +kernel
theorem dX6_isWord_60 : decode cX6_isWord 60 = .ok (.iinc 2 1, 3) := by decide +kernel
theorem dX6_isWord_63 : decode cX6_isWord 63 = .ok (.goto (-35), 3) := by decide +kernel
theorem dX6_isWord_66 : decode cX6_isWord 66 = .ok (.iconst 1, 1) := by decide +kernel
theorem dX6_isWord_67 : decode cX6_isWord 67 = .ok (.ireturn, 1) := by decide +kernel
theorem dX7_init_0 : decode cX7_init 0 = .ok (.aload_n 0, 1) := by decide +kernel
theorem dX7_init_1 : decode cX7_init 1 = .ok (.invokespecial 3, 3) := by decide +kernel
theorem dX7_init_4 : decode cX7_init 4 = .ok (.aload_n 0, 1) := by decide +kernel
theorem dX7_init_5 : decode cX7_init 5 = .ok (.bipush 11, 2) := by decide +kernel
theorem dX7_init_7 : decode cX7_init 7 = .ok (.newarray .int, 2) := by decide +kernel
theorem dX7_init_9 : decode cX7_init 9 = .ok (.putfield 9, 3) := by decide +kernel
theorem dX7_init_12 : decode cX7_init 12 = .ok (.aload_n 0, 1) := by decide +kernel
theorem dX7_init_13 : decode cX7_init 13 = .ok (.bipush 11, 2) := by decide +kernel
theorem dX7_init_15 : decode cX7_init 15 = .ok (.newarray .int, 2) := by decide +kernel
theorem dX7_init_17 : decode cX7_init 17 = .ok (.putfield 15, 3) := by decide +kernel
theorem dX7_init_20 : decode cX7_init 20 = .ok (.aload_n 0, 1) := by decide +kernel
theorem dX7_init_21 : decode cX7_init 21 = .ok (.invokevirtual 18, 3) := by decide +kernel
theorem dX7_init_24 : decode cX7_init 24 = .ok (.return_, 1) := by decide +kernel
theorem dX7_reset_0 : decode cX7_reset 0 = .ok (.iconst 0, 1) := by decide +kernel
theorem dX7_reset_1 : decode cX7_reset 1 = .ok (.istore_n 1, 1) := by decide +kernel
theorem dX7_reset_2 : decode cX7_reset 2 = .ok (.iload_n 1, 1) := by decide +kernel
theorem dX7_reset_3 : decode cX7_reset 3 = .ok (.bipush 11, 2) := by decide +kernel
theorem dX7_reset_5 : decode cX7_reset 5 = .ok (.if_icmp .ge 33, 3) := by decide +kernel
theorem dX7_reset_8 : decode cX7_reset 8 = .ok (.aload_n 0, 1) := by decide +kernel
theorem dX7_reset_9 : decode cX7_reset 9 = .ok (.getfield 9, 3) := by decide +kernel
theorem dX7_reset_12 : decode cX7_reset 12 = .ok (.iload_n 1, 1) := by decide +kernel
theorem dX7_reset_13 : decode cX7_reset 13 = .ok (.bipush 10, 2) := by decide +kernel
theorem dX7_reset_15 : decode cX7_reset 15 = .ok (.iload_n 1, 1) := by decide +kernel
theorem dX7_reset_16 : decode cX7_reset 16 = .ok (.isub, 1) := by decide +kernel
theorem dX7_reset_17 : decode cX7_reset 17 = .ok (.bipush 10, 2) := by decide +kernel
theorem dX7_reset_19 : decode cX7_reset 19 = .ok (.iload_n 1, 1) := by decide +kernel
theorem dX7_reset_20 : decode cX7_reset 20 = .ok (.isub, 1) := by decide +kernel
theorem dX7_reset_21 : decode cX7_reset 21 = .ok (.imul, 1) := by decide +kernel
theorem dX7_reset_22 : decode cX7_reset 22 = .ok (.iastore, 1) := by decide +kernel
theorem dX7_reset_23 : decode cX7_reset 23 = .ok (.aload_n 0, 1) := by decide +kernel
theorem dX7_reset_24 : decode cX7_reset 24 = .ok (.getfield 15, 3) := by decide +kernel
theorem dX7_reset_27 : decode cX7_reset 27 = .ok (.iload_n 1, 1) := by decide +kernel
theorem dX7_reset_28 : decode cX7_reset 28 = .ok (.iload_n 1, 1) := by decide +kernel
theorem dX7_reset_29 : decode cX7_reset 29 = .ok (.iload_n 1, 1) := by decide +kernel
theorem dX7_reset_30 : decode cX7_reset 30 = .ok (.imul, 1) := by decide +kernel
theorem dX7_reset_31 : decode cX7_reset 31 = .ok (.iastore, 1) := by decide +kernel
theorem dX7_reset_32 : decode cX7_reset 32 = .ok (.iinc 1 1, 3) := by decide +kernel
theorem dX7_reset_35 : decode cX7_reset 35 = .ok (.goto (-33), 3) := by decide +kernel
theorem dX7_reset_38 : decode cX7_reset 38 = .ok (.aload_n 0, 1) := by decide +kernel
theorem dX7_reset_39 : decode cX7_reset 39 = .ok (.iconst 0, 1) := by decide +kernel
theorem dX7_reset_40 : decode cX7_reset 40 = .ok (.putfield 21, 3) := by decide +kernel
theorem dX7_reset_43 : decode cX7_reset 43 = .ok (.aload_n 0, 1) := by decide +kernel
theorem dX7_reset_44 : decode cX7_reset 44 = .ok (.iconst 0, 1) := by decide +kernel
theorem dX7_reset_45 : decode cX7_reset 45 = .ok (.putfield 25, 3) := by decide +kernel
theorem dX7_reset_48 : decode cX7_reset 48 = .ok (.aload_n 0, 1) := by decide +kernel
theorem dX7_reset_49 : decode cX7_reset 49 = .ok (.iconst (-1), 1) := by decide +kernel
theorem dX7_reset_50 : decode cX7_reset 50 = .ok (.putfield 28, 3) := by decide +kernel
theorem dX7_reset_53 : decode cX7_reset 53 = .ok (.aload_n 0, 1) := by decide +kernel
theorem dX7_reset_54 : decode cX7_reset 54 = .ok (.iconst (-1), 1) := by decide +kernel
theorem dX7_reset_55 : decode cX7_reset 55 = .ok (.putfield 31, 3) := by decide +kernel
theorem dX7_reset_58 : decode cX7_reset 58 = .ok (.aload_n 0, 1) := by decide +kernel
theorem dX7_reset_59 : decode cX7_reset 59 = .ok (.iconst 1, 1) := by decide +kernel
theorem dX7_reset_60 : decode cX7_reset 60 = .ok (.putfield 34, 3) := by decide +kernel
theorem dX7_reset_63 : decode cX7_reset 63 = .ok (.return_, 1) := by decide +kernel
theorem dX7_copyFrom_0 : decode cX7_copyFrom 0 = .ok (.aload_n 1, 1) := by decide +kernel
theorem dX7_copyFrom_1 : decode cX7_copyFrom 1 = .ok (.getfield 9, 3) := by decide +kernel
theorem dX7_copyFrom_4 : decode cX7_copyFrom 4 = .ok (.iconst 0, 1) := by decide +kernel
theorem dX7_copyFrom_5 : decode cX7_copyFrom 5 = .ok (.aload_n 0, 1) := by decide +kernel
theorem dX7_copyFrom_6 : decode cX7_copyFrom 6 = .ok (.getfield 9, 3) := by decide +kernel
theorem dX7_copyFrom_9 : decode cX7_copyFrom 9 = .ok (.iconst 0, 1) := by decide +kernel
theorem dX7_copyFrom_10 : decode cX7_copyFrom 10 = .ok (.bipush 11, 2) := by decide +kernel
theorem dX7_copyFrom_12 : decode cX7_copyFrom 12 = .ok (.invokestatic 37, 3) := by decide +kernel
theorem dX7_copyFrom_15 : decode cX7_copyFrom 15 = .ok (.aload_n 1, 1) := by decide +kernel
theorem dX7_copyFrom_16 : decode cX7_copyFrom 16 = .ok (.getfield 15, 3) := by decide +kernel
theorem dX7_copyFrom_19 : decode cX7_copyFrom 19 = .ok (.iconst 0, 1) := by decide +kernel
theorem dX7_copyFrom_20 : decode cX7_copyFrom 20 = .ok (.aload_n 0, 1) := by decide +kernel
theorem dX7_copyFrom_21 : decode cX7_copyFrom 21 = .ok (.getfield 15, 3) := by decide +kernel
theorem dX7_copyFrom_24 : decode cX7_copyFrom 24 = .ok (.iconst 0, 1) := by decide +kernel
theorem dX7_copyFrom_25 : decode cX7_copyFrom 25 = .ok (.bipush 11, 2) := by decide +kernel
theorem dX7_copyFrom_27 : decode cX7_copyFrom 27 = .ok (.invokestatic 37, 3) := by decide +kernel
theorem dX7_copyFrom_30 : decode cX7_copyFrom 30 = .ok (.aload_n 0, 1) := by decide +kernel
theorem dX7_copyFrom_31 : decode cX7_copyFrom 31 = .ok (.aload_n 1, 1) := by decide +kernel
theorem dX7_copyFrom_32 : decode cX7_copyFrom 32 = .ok (.getfield 21, 3) := by decide +kernel
theorem dX7_copyFrom_35 : decode cX7_copyFrom 35 = .ok (.putfield 21, 3) := by decide +kernel
theorem dX7_copyFrom_38 : decode cX7_copyFrom 38 = .ok (.aload_n 0, 1) := by decide +kernel
theorem dX7_copyFrom_39 : decode cX7_copyFrom 39 = .ok (.aload_n 1, 1) := by decide +kernel
theorem dX7_copyFrom_40 : decode cX7_copyFrom 40 = .ok (.getfield 25, 3) := by decide +kernel
theorem dX7_copyFrom_43 : decode cX7_copyFrom 43 = .ok (.putfield 25, 3) := by decide +kernel
theorem dX7_copyFrom_46 : decode cX7_copyFrom 46 = .ok (.aload_n 0, 1) := by decide +kernel
theorem dX7_copyFrom_47 : decode cX7_copyFrom 47 = .ok (.aload_n 1, 1) := by decide +kernel
theorem dX7_copyFrom_48 : decode cX7_copyFrom 48 = .ok (.getfield 28, 3) := by decide +kernel
theorem dX7_copyFrom_51 : decode cX7_copyFrom 51 = .ok (.putfield 28, 3) := by decide +kernel
theorem dX7_copyFrom_54 : decode cX7_copyFrom 54 = .ok (.aload_n 0, 1) := by decide +kernel
theorem dX7_copyFrom_55 : decode cX7_copyFrom 55 = .ok (.aload_n 1, 1) := by decide +kernel
theorem dX7_copyFrom_56 : decode cX7_copyFrom 56 = .ok (.getfield 31, 3) := by decide +kernel
theorem dX7_copyFrom_59 : decode cX7_copyFrom 59 = .ok (.putfield 31, 3) := by decide +kernel
theorem dX7_copyFrom_62 : decode cX7_copyFrom 62 = .ok (.aload_n 0, 1) := by decide +kernel
theorem dX7_copyFrom_63 : decode cX7_copyFrom 63 = .ok (.aload_n 1, 1) := by decide +kernel
theorem dX7_copyFrom_64 : decode cX7_copyFrom 64 = .ok (.getfield 34, 3) := by decide +kernel
theorem dX7_copyFrom_67 : decode cX7_copyFrom 67 = .ok (.putfield 34, 3) := by decide +kernel
theorem dX7_copyFrom_70 : decode cX7_copyFrom 70 = .ok (.return_, 1) := by decide +kernel
theorem dX7_countsMissingAsHalf_0 : decode cX7_countsMissingAsHalf 0 = .ok (.aload_n 0, 1) := by decide +kernel
theorem dX7_countsMissingAsHalf_1 : decode cX7_countsMissingAsHalf 1 = .ok (.getfield 21, 3) := by decide +kernel
theorem dX7_countsMissingAsHalf_4 : decode cX7_countsMissingAsHalf 4 = .ok (.iconst 1, 1) := by decide +kernel
theorem dX7_countsMissingAsHalf_5 : decode cX7_countsMissingAsHalf 5 = .ok (.if_icmp .ne 7, 3) := by decide +kernel
theorem dX7_countsMissingAsHalf_8 : decode cX7_countsMissingAsHalf 8 = .ok (.iconst 1, 1) := by decide +kernel
theorem dX7_countsMissingAsHalf_9 : decode cX7_countsMissingAsHalf 9 = .ok (.goto 4, 3) := by decide +kernel
theorem dX7_countsMissingAsHalf_12 : decode cX7_countsMissingAsHalf 12 = .ok (.iconst 0, 1) := by decide +kernel
theorem dX7_countsMissingAsHalf_13 : decode cX7_countsMissingAsHalf 13 = .ok (.ireturn, 1) := by decide +kernel
theorem dX7_weighsByPast_0 : decode cX7_weighsByPast 0 = .ok (.aload_n 0, 1) := by decide +kernel
theorem dX7_weighsByPast_1 : decode cX7_weighsByPast 1 = .ok (.getfield 25, 3) := by decide +kernel
theorem dX7_weighsByPast_4 : decode cX7_weighsByPast 4 = .ok (.iconst 1, 1) := by decide +kernel
theorem dX7_weighsByPast_5 : decode cX7_weighsByPast 5 = .ok (.if_icmp .ne 7, 3) := by decide +kernel
theorem dX7_weighsByPast_8 : decode cX7_weighsByPast 8 = .ok (.iconst 1, 1) := by decide +kernel
theorem dX7_weighsByPast_9 : decode cX7_weighsByPast 9 = .ok (.goto 4, 3) := by decide +kernel
theorem dX7_weighsByPast_12 : decode cX7_weighsByPast 12 = .ok (.iconst 0, 1) := by decide +kernel
theorem dX7_weighsByPast_13 : decode cX7_weighsByPast 13 = .ok (.ireturn, 1) := by decide +kernel
theorem dX7_tellsCopy_0 : decode cX7_tellsCopy 0 = .ok (.aload_n 0, 1) := by decide +kernel
theorem dX7_tellsCopy_1 : decode cX7_tellsCopy 1 = .ok (.getfield 28, 3) := by decide +kernel
theorem dX7_tellsCopy_4 : decode cX7_tellsCopy 4 = .ok (.iconst (-1), 1) := by decide +kernel
theorem dX7_tellsCopy_5 : decode cX7_tellsCopy 5 = .ok (.if_icmp .eq 7, 3) := by decide +kernel
theorem dX7_tellsCopy_8 : decode cX7_tellsCopy 8 = .ok (.iconst 1, 1) := by decide +kernel
theorem dX7_tellsCopy_9 : decode cX7_tellsCopy 9 = .ok (.goto 4, 3) := by decide +kernel
theorem dX7_tellsCopy_12 : decode cX7_tellsCopy 12 = .ok (.iconst 0, 1) := by decide +kernel
theorem dX7_tellsCopy_13 : decode cX7_tellsCopy 13 = .ok (.ireturn, 1) := by decide +kernel
theorem dX7_cost_0 : decode cX7_cost 0 = .ok (.iload_n 1, 1) := by decide +kernel
theorem dX7_cost_1 : decode cX7_cost 1 = .ok (.iconst 1, 1) := by decide +kernel
theorem dX7_cost_2 : decode cX7_cost 2 = .ok (.if_icmp .ne 12, 3) := by decide +kernel
theorem dX7_cost_5 : decode cX7_cost 5 = .ok (.aload_n 0, 1) := by decide +kernel
theorem dX7_cost_6 : decode cX7_cost 6 = .ok (.getfield 9, 3) := by decide +kernel
theorem dX7_cost_9 : decode cX7_cost 9 = .ok (.iload_n 2, 1) := by decide +kernel
theorem dX7_cost_10 : decode cX7_cost 10 = .ok (.iaload, 1) := by decide +kernel
theorem dX7_cost_11 : decode cX7_cost 11 = .ok (.goto 9, 3) := by decide +kernel
theorem dX7_cost_14 : decode cX7_cost 14 = .ok (.aload_n 0, 1) := by decide +kernel
theorem dX7_cost_15 : decode cX7_cost 15 = .ok (.getfield 15, 3) := by decide +kernel
theorem dX7_cost_18 : decode cX7_cost 18 = .ok (.iload_n 2, 1) := by decide +kernel
theorem dX7_cost_19 : decode cX7_cost 19 = .ok (.iaload, 1) := by decide +kernel
theorem dX7_cost_20 : decode cX7_cost 20 = .ok (.ireturn, 1) := by decide +kernel
theorem dX8_init_0 : decode cX8_init 0 = .ok (.aload_n 0, 1) := by decide +kernel
theorem dX8_init_1 : decode cX8_init 1 = .ok (.invokespecial 3, 3) := by decide +kernel
theorem dX8_init_4 : decode cX8_init 4 = .ok (.aload_n 0, 1) := by decide +kernel
theorem dX8_init_5 : decode cX8_init 5 = .ok (.sipush 500, 3) := by decide +kernel
theorem dX8_init_8 : decode cX8_init 8 = .ok (.newarray .byte, 2) := by decide +kernel
theorem dX8_init_10 : decode cX8_init 10 = .ok (.putfield 9, 3) := by decide +kernel
theorem dX8_init_13 : decode cX8_init 13 = .ok (.return_, 1) := by decide +kernel
theorem dX8_append_0 : decode cX8_append 0 = .ok (.bipush 24, 2) := by decide +kernel
theorem dX8_append_2 : decode cX8_append 2 = .ok (.istore_n 2, 1) := by decide +kernel
theorem dX8_append_3 : decode cX8_append 3 = .ok (.iload_n 2, 1) := by decide +kernel
theorem dX8_append_4 : decode cX8_append 4 = .ok (.ifCond .lt 42, 3) := by decide +kernel
theorem dX8_append_7 : decode cX8_append 7 = .ok (.aload_n 0, 1) := by decide +kernel
theorem dX8_append_8 : decode cX8_append 8 = .ok (.getfield 15, 3) := by decide +kernel
theorem dX8_append_11 : decode cX8_append 11 = .ok (.sipush 500, 3) := by decide +kernel
theorem dX8_append_14 : decode cX8_append 14 = .ok (.if_icmp .ge 32, 3) := by decide +kernel
theorem dX8_append_17 : decode cX8_append 17 = .ok (.aload_n 0, 1) := by decide +kernel
theorem dX8_append_18 : decode cX8_append 18 = .ok (.getfield 9, 3) := by decide +kernel
theorem dX8_append_21 : decode cX8_append 21 = .ok (.aload_n 0, 1) := by decide +kernel
theorem dX8_append_22 : decode cX8_append 22 = .ok (.getfield 15, 3) := by decide +kernel
theorem dX8_append_25 : decode cX8_append 25 = .ok (.iload_n 1, 1) := by decide +kernel
theorem dX8_append_26 : decode cX8_append 26 = .ok (.iload_n 2, 1) := by decide +kernel
theorem dX8_append_27 : decode cX8_append 27 = .ok (.ishr, 1) := by decide +kernel
theorem dX8_append_28 : decode cX8_append 28 = .ok (.i2b, 1) := by decide +kernel
theorem dX8_append_29 : decode cX8_append 29 = .ok (.bastore, 1) := by decide +kernel
theorem dX8_append_30 : decode cX8_append 30 = .ok (.aload_n 0, 1) := by decide +kernel
theorem dX8_append_31 : decode cX8_append 31 = .ok (.dup, 1) := by decide +kernel
theorem dX8_append_32 : decode cX8_append 32 = .ok (.getfield 15, 3) := by decide +kernel
theorem dX8_append_35 : decode cX8_append 35 = .ok (.iconst 1, 1) := by decide +kernel
theorem dX8_append_36 : decode cX8_append 36 = .ok (.iadd, 1) := by decide +kernel
theorem dX8_append_37 : decode cX8_append 37 = .ok (.putfield 15, 3) := by decide +kernel
theorem dX8_append_40 : decode cX8_append 40 = .ok (.iinc 2 (-8), 3) := by decide +kernel
theorem dX8_append_43 : decode cX8_append 43 = .ok (.goto (-40), 3) := by decide +kernel
theorem dX8_append_46 : decode cX8_append 46 = .ok (.return_, 1) := by decide +kernel
theorem dX9_init_0 : decode cX9_init 0 = .ok (.aload_n 0, 1) := by decide +kernel
theorem dX9_init_1 : decode cX9_init 1 = .ok (.invokespecial 3, 3) := by decide +kernel
theorem dX9_init_4 : decode cX9_init 4 = .ok (.aload_n 0, 1) := by decide +kernel
theorem dX9_init_5 : decode cX9_init 5 = .ok (.bipush 30, 2) := by decide +kernel
theorem dX9_init_7 : decode cX9_init 7 = .ok (.newarray .int, 2) := by decide +kernel
theorem dX9_init_9 : decode cX9_init 9 = .ok (.putfield 9, 3) := by decide +kernel
theorem dX9_init_12 : decode cX9_init 12 = .ok (.aload_n 0, 1) := by decide +kernel
theorem dX9_init_13 : decode cX9_init 13 = .ok (.bipush 30, 2) := by decide +kernel
theorem dX9_init_15 : decode cX9_init 15 = .ok (.newarray .int, 2) := by decide +kernel
theorem dX9_init_17 : decode cX9_init 17 = .ok (.putfield 15, 3) := by decide +kernel
theorem dX9_init_20 : decode cX9_init 20 = .ok (.aload_n 0, 1) := by decide +kernel
theorem dX9_init_21 : decode cX9_init 21 = .ok (.bipush 30, 2) := by decide +kernel
theorem dX9_init_23 : decode cX9_init 23 = .ok (.newarray .int, 2) := by decide +kernel
theorem dX9_init_25 : decode cX9_init 25 = .ok (.putfield 18, 3) := by decide +kernel
theorem dX9_init_28 : decode cX9_init 28 = .ok (.aload_n 0, 1) := by decide +kernel
theorem dX9_init_29 : decode cX9_init 29 = .ok (.aload_n 1, 1) := by decide +kernel
theorem dX9_init_30 : decode cX9_init 30 = .ok (.putfield 21, 3) := by decide +kernel
theorem dX9_init_33 : decode cX9_init 33 = .ok (.return_, 1) := by decide +kernel
theorem dX9_append_0 : decode cX9_append 0 = .ok (.aload_n 0, 1) := by decide +kernel
theorem dX9_append_1 : decode cX9_append 1 = .ok (.getfield 25, 3) := by decide +kernel
theorem dX9_append_4 : decode cX9_append 4 = .ok (.istore 4, 2) := by decide +kernel
theorem dX9_append_6 : decode cX9_append 6 = .ok (.aload_n 0, 1) := by decide +kernel
theorem dX9_append_7 : decode cX9_append 7 = .ok (.getfield 9, 3) := by decide +kernel
theorem dX9_append_10 : decode cX9_append 10 = .ok (.iload 4, 2) := by decide +kernel
theorem dX9_append_12 : decode cX9_append 12 = .ok (.iload_n 1, 1) := by decide +kernel
theorem dX9_append_13 : decode cX9_append 13 = .ok (.iastore, 1) := by decide +kernel
theorem dX9_append_14 : decode cX9_append 14 = .ok (.aload_n 0, 1) := by decide +kernel
theorem dX9_append_15 : decode cX9_append 15 = .ok (.getfield 15, 3) := by decide +kernel
theorem dX9_append_18 : decode cX9_append 18 = .ok (.iload 4, 2) := by decide +kernel
theorem dX9_append_20 : decode cX9_append 20 = .ok (.iload_n 2, 1) := by decide +kernel
theorem dX9_append_21 : decode cX9_append 21 = .ok (.iastore, 1) := by decide +kernel
theorem dX9_append_22 : decode cX9_append 22 = .ok (.aload_n 0, 1) := by decide +kernel
theorem dX9_append_23 : decode cX9_append 23 = .ok (.getfield 18, 3) := by decide +kernel
theorem dX9_append_26 : decode cX9_append 26 = .ok (.iload 4, 2) := by decide +kernel
theorem dX9_append_28 : decode cX9_append 28 = .ok (.iload_n 3, 1) := by decide +kernel
theorem dX9_append_29 : decode cX9_append 29 = .ok (.iastore, 1) := by decide +kernel
theorem dX9_append_30 : decode cX9_append 30 = .ok (.aload_n 0, 1) := by decide +kernel
theorem dX9_append_31 : decode cX9_append 31 = .ok (.dup, 1) := by decide +kernel
theorem dX9_append_32 : decode cX9_append 32 = .ok (.getfield 25, 3) := by decide +kernel
theorem dX9_append_35 : decode cX9_append 35 = .ok (.iconst 1, 1) := by decide +kernel
theorem dX9_append_36 : decode cX9_append 36 = .ok (.iadd, 1) := by decide +kernel
theorem dX9_append_37 : decode cX9_append 37 = .ok (.putfield 25, 3) := by decide +kernel
theorem dX9_append_40 : decode cX9_append 40 = .ok (.iload 4, 2) := by decide +kernel
theorem dX9_append_42 : decode cX9_append 42 = .ok (.ireturn, 1) := by decide +kernel
theorem dX9_brokenBits_0 : decode cX9_brokenBits 0 = .ok (.iconst 0, 1) := by decide +kernel
theorem dX9_brokenBits_1 : decode cX9_brokenBits 1 = .ok (.istore_n 3, 1) := by decide +kernel
theorem dX9_brokenBits_2 : decode cX9_brokenBits 2 = .ok (.iconst 0, 1) := by decide +kernel
theorem dX9_brokenBits_3 : decode cX9_brokenBits 3 = .ok (.istore 4, 2) := by decide +kernel
theorem dX9_brokenBits_5 : decode cX9_brokenBits 5 = .ok (.iload 4, 2) := by decide +kernel
theorem dX9_brokenBits_7 : decode cX9_brokenBits 7 = .ok (.aload_n 0, 1) := by decide +kernel
theorem dX9_brokenBits_8 : decode cX9_brokenBits 8 = .ok (.getfield 25, 3) := by decide +kernel
theorem dX9_brokenBits_11 : decode cX9_brokenBits 11 = .ok (.if_icmp .ge 81, 3) := by decide +kernel
theorem dX9_brokenBits_14 : decode cX9_brokenBits 14 = .ok (.aload_n 0, 1) := by decide +kernel
theorem dX9_brokenBits_15 : decode cX9_brokenBits 15 = .ok (.getfield 21, 3) := by decide +kernel
theorem dX9_brokenBits_18 : decode cX9_brokenBits 18 = .ok (.iload_n 1, 1) := by decide +kernel
theorem dX9_brokenBits_19 : decode cX9_brokenBits 19 = .ok (.aload_n 0, 1) := by decide +kernel
theorem dX9_brokenBits_20 : decode cX9_brokenBits 20 = .ok (.getfield 9, 3) := by decide +kernel
theorem dX9_brokenBits_23 : decode cX9_brokenBits 23 = .ok (.iload 4, 2) := by decide +kernel
theorem dX9_brokenBits_25 : decode cX9_brokenBits 25 = .ok (.iaload, 1) := by decide +kernel
theorem dX9_brokenBits_26 : decode cX9_brokenBits 26 = .ok (.iload_n 2, 1) := by decide +kernel
theorem dX9_brokenBits_27 : decode cX9_brokenBits 27 = .ok (.invokevirtual 29, 3) := by decide +kernel
theorem dX9_brokenBits_30 : decode cX9_brokenBits 30 = .ok (.istore 5, 2) := by decide +kernel
theorem dX9_brokenBits_32 : decode cX9_brokenBits 32 = .ok (.aload_n 0, 1) := by decide +kernel
theorem dX9_brokenBits_33 : decode cX9_brokenBits 33 = .ok (.getfield 21, 3) := by decide +kernel
theorem dX9_brokenBits_36 : decode cX9_brokenBits 36 = .ok (.iload_n 1, 1) := by decide +kernel
theorem dX9_brokenBits_37 : decode cX9_brokenBits 37 = .ok (.aload_n 0, 1) := by decide +kernel
theorem dX9_brokenBits_38 : decode cX9_brokenBits 38 = .ok (.getfield 15, 3) := by decide +kernel
theorem dX9_brokenBits_41 : decode cX9_brokenBits 41 = .ok (.iload 4, 2) := by decide +kernel
theorem dX9_brokenBits_43 : decode cX9_brokenBits 43 = .ok (.iaload, 1) := by decide +kernel
theorem dX9_brokenBits_44 : decode cX9_brokenBits 44 = .ok (.iload_n 2, 1) := by decide +kernel
theorem dX9_brokenBits_45 : decode cX9_brokenBits 45 = .ok (.invokevirtual 29, 3) := by decide +kernel
theorem dX9_brokenBits_48 : decode cX9_brokenBits 48 = .ok (.istore 6, 2) := by decide +kernel
theorem dX9_brokenBits_50 : decode cX9_brokenBits 50 = .ok (.iload 5, 2) := by decide +kernel
theorem dX9_brokenBits_52 : decode cX9_brokenBits 52 = .ok (.iconst (-1), 1) := by decide +kernel
theorem dX9_brokenBits_53 : decode cX9_brokenBits 53 = .ok (.if_icmp .eq 33, 3) := by decide +kernel
theorem dX9_brokenBits_56 : decode cX9_brokenBits 56 = .ok (.iload 6, 2) := by decide +kernel
theorem dX9_brokenBits_58 : decode cX9_brokenBits 58 = .ok (.iconst (-1), 1) := by decide +kernel
theorem dX9_brokenBits_59 : decode cX9_brokenBits 59 = .ok (.if_icmp .eq 27, 3) := by decide +kernel
theorem dX9_brokenBits_62 : decode cX9_brokenBits 62 = .ok (.aload_n 0, 1) := by decide +kernel
theorem dX9_brokenBits_63 : decode cX9_brokenBits 63 = .ok (.getfield 18, 3) := by decide +kernel
theorem dX9_brokenBits_66 : decode cX9_brokenBits 66 = .ok (.iload 4, 2) := by decide +kernel
theorem dX9_brokenBits_68 : decode cX9_brokenBits 68 = .ok (.iaload, 1) := by decide +kernel
theorem dX9_brokenBits_69 : decode cX9_brokenBits 69 = .ok (.iload 5, 2) := by decide +kernel
theorem dX9_brokenBits_71 : decode cX9_brokenBits 71 = .ok (.iload 6, 2) := by decide +kernel
theorem dX9_brokenBits_73 : decode cX9_brokenBits 73 = .ok (.invokestatic 35, 3) := by decide +kernel
theorem dX9_brokenBits_76 : decode cX9_brokenBits 76 = .ok (.ifCond .eq 10, 3) := by decide +kernel
theorem dX9_brokenBits_79 : decode cX9_brokenBits 79 = .ok (.iload_n 3, 1) := by decide +kernel
theorem dX9_brokenBits_80 : decode cX9_brokenBits 80 = .ok (.iconst 1, 1) := by decide +kernel
theorem dX9_brokenBits_81 : decode cX9_brokenBits 81 = .ok (.iload 4, 2) := by decide +kernel
theorem dX9_brokenBits_83 : decode cX9_brokenBits 83 = .ok (.ishl, 1) := by decide +kernel
theorem dX9_brokenBits_84 : decode cX9_brokenBits 84 = .ok (.ior, 1) := by decide +kernel
theorem dX9_brokenBits_85 : decode cX9_brokenBits 85 = .ok (.istore_n 3, 1) := by decide +kernel
theorem dX9_brokenBits_86 : decode cX9_brokenBits 86 = .ok (.iinc 4 1, 3) := by decide +kernel
theorem dX9_brokenBits_89 : decode cX9_brokenBits 89 = .ok (.goto (-84), 3) := by decide +kernel
theorem dX9_brokenBits_92 : decode cX9_brokenBits 92 = .ok (.iload_n 3, 1) := by decide +kernel
theorem dX9_brokenBits_93 : decode cX9_brokenBits 93 = .ok (.ireturn, 1) := by decide +kernel
theorem dX9_isBroken_0 : decode cX9_isBroken 0 = .ok (.iload_n 0, 1) := by decide +kernel
theorem dX9_isBroken_1 : decode cX9_isBroken 1 = .ok (.lookupswitch 52 #[(0, 27), (1, 38)], 27) := by decide +kernel
theorem dX9_isBroken_28 : decode cX9_isBroken 28 = .ok (.iload_n 1, 1) := by decide +kernel
theorem dX9_isBroken_29 : decode cX9_isBroken 29 = .ok (.iload_n 2, 1) := by decide +kernel
theorem dX9_isBroken_30 : decode cX9_isBroken 30 = .ok (.if_icmp .le 7, 3) := by decide +kernel
theorem dX9_isBroken_33 : decode cX9_isBroken 33 = .ok (.iconst 1, 1) := by decide +kernel
theorem dX9_isBroken_34 : decode cX9_isBroken 34 = .ok (.goto 4, 3) := by decide +kernel
theorem dX9_isBroken_37 : decode cX9_isBroken 37 = .ok (.iconst 0, 1) := by decide +kernel
theorem dX9_isBroken_38 : decode cX9_isBroken 38 = .ok (.ireturn, 1) := by decide +kernel
theorem dX9_isBroken_39 : decode cX9_isBroken 39 = .ok (.iload_n 1, 1) := by decide +kernel
theorem dX9_isBroken_40 : decode cX9_isBroken 40 = .ok (.iload_n 2, 1) := by decide +kernel
theorem dX9_isBroken_41 : decode cX9_isBroken 41 = .ok (.iadd, 1) := by decide +kernel
theorem dX9_isBroken_42 : decode cX9_isBroken 42 = .ok (.bipush 10, 2) := by decide +kernel
theorem dX9_isBroken_44 : decode cX9_isBroken 44 = .ok (.if_icmp .le 7, 3) := by decide +kernel
theorem dX9_isBroken_47 : decode cX9_isBroken 47 = .ok (.iconst 1, 1) := by decide +kernel
theorem dX9_isBroken_48 : decode cX9_isBroken 48 = .ok (.goto 4, 3) := by decide +kernel
theorem dX9_isBroken_51 : decode cX9_isBroken 51 = .ok (.iconst 0, 1) := by decide +kernel
theorem dX9_isBroken_52 : decode cX9_isBroken 52 = .ok (.ireturn, 1) := by decide +kernel
theorem dX9_isBroken_53 : decode cX9_isBroken 53 = .ok (.iload_n 1, 1) := by decide +kernel
theorem dX9_isBroken_54 : decode cX9_isBroken 54 = .ok (.iload_n 2, 1) := by decide +kernel
theorem dX9_isBroken_55 : decode cX9_isBroken 55 = .ok (.iadd, 1) := by decide +kernel
theorem dX9_isBroken_56 : decode cX9_isBroken 56 = .ok (.bipush 10, 2) := by decide +kernel
theorem dX9_isBroken_58 : decode cX9_isBroken 58 = .ok (.if_icmp .ge 7, 3) := by decide +kernel
theorem dX9_isBroken_61 : decode cX9_isBroken 61 = .ok (.iconst 1, 1) := by decide +kernel
theorem dX9_isBroken_62 : decode cX9_isBroken 62 = .ok (.goto 4, 3) := by decide +kernel
theorem dX9_isBroken_65 : decode cX9_isBroken 65 = .ok (.iconst 0, 1) := by decide +kernel
theorem dX9_isBroken_66 : decode cX9_isBroken 66 = .ok (.ireturn, 1) := by decide +kernel
theorem dX10_init_0 : decode cX10_init 0 = .ok (.aload_n 0, 1) := by decide +kernel
theorem dX10_init_1 : decode cX10_init 1 = .ok (.invokespecial 1, 3) := by decide +kernel
theorem dX10_init_4 : decode cX10_init 4 = .ok (.aload_n 0, 1) := by decide +kernel
theorem dX10_init_5 : decode cX10_init 5 = .ok (.new 7, 3) := by decide +kernel
theorem dX10_init_8 : decode cX10_init 8 = .ok (.dup, 1) := by decide +kernel
theorem dX10_init_9 : decode cX10_init 9 = .ok (.invokespecial 9, 3) := by decide +kernel
theorem dX10_init_12 : decode cX10_init 12 = .ok (.putfield 10, 3) := by decide +kernel
theorem dX10_init_15 : decode cX10_init 15 = .ok (.aload_n 0, 1) := by decide +kernel
theorem dX10_init_16 : decode cX10_init 16 = .ok (.new 16, 3) := by decide +kernel
theorem dX10_init_19 : decode cX10_init 19 = .ok (.dup, 1) := by decide +kernel
theorem dX10_init_20 : decode cX10_init 20 = .ok (.aload_n 0, 1) := by decide +kernel
theorem dX10_init_21 : decode cX10_init 21 = .ok (.getfield 10, 3) := by decide +kernel
theorem dX10_init_24 : decode cX10_init 24 = .ok (.invokespecial 18, 3) := by decide +kernel
theorem dX10_init_27 : decode cX10_init 27 = .ok (.putfield 21, 3) := by decide +kernel
theorem dX10_init_30 : decode cX10_init 30 = .ok (.aload_n 0, 1) := by decide +kernel
theorem dX10_init_31 : decode cX10_init 31 = .ok (.new 25, 3) := by decide +kernel
theorem dX10_init_34 : decode cX10_init 34 = .ok (.dup, 1) := by decide +kernel
theorem dX10_init_35 : decode cX10_init 35 = .ok (.invokespecial 27, 3) := by decide +kernel
theorem dX10_init_38 : decode cX10_init 38 = .ok (.putfield 28, 3) := by decide +kernel
theorem dX10_init_41 : decode cX10_init 41 = .ok (.aload_n 0, 1) := by decide +kernel
theorem dX10_init_42 : decode cX10_init 42 = .ok (.new 32, 3) := by decide +kernel
theorem dX10_init_45 : decode cX10_init 45 = .ok (.dup, 1) := by decide +kernel
theorem dX10_init_46 : decode cX10_init 46 = .ok (.invokespecial 34, 3) := by decide +kernel
theorem dX10_init_49 : decode cX10_init 49 = .ok (.putfield 35, 3) := by decide +kernel
theorem dX10_init_52 : decode cX10_init 52 = .ok (.aload_n 0, 1) := by decide +kernel
theorem dX10_init_53 : decode cX10_init 53 = .ok (.new 39, 3) := by decide +kernel
theorem dX10_init_56 : decode cX10_init 56 = .ok (.dup, 1) := by decide +kernel
theorem dX10_init_57 : decode cX10_init 57 = .ok (.aload_n 0, 1) := by decide +kernel
theorem dX10_init_58 : decode cX10_init 58 = .ok (.getfield 35, 3) := by decide +kernel
theorem dX10_init_61 : decode cX10_init 61 = .ok (.aload_n 0, 1) := by decide +kernel
theorem dX10_init_62 : decode cX10_init 62 = .ok (.getfield 28, 3) := by decide +kernel
theorem dX10_init_65 : decode cX10_init 65 = .ok (.invokespecial 41, 3) := by decide +kernel
theorem dX10_init_68 : decode cX10_init 68 = .ok (.putfield 44, 3) := by decide +kernel
theorem dX10_init_71 : decode cX10_init 71 = .ok (.aload_n 0, 1) := by decide +kernel
theorem dX10_init_72 : decode cX10_init 72 = .ok (.new 48, 3) := by decide +kernel
theorem dX10_init_75 : decode cX10_init 75 = .ok (.dup, 1) := by decide +kernel
theorem dX10_init_76 : decode cX10_init 76 = .ok (.aload_n 0, 1) := by decide +kernel
theorem dX10_init_77 : decode cX10_init 77 = .ok (.getfield 35, 3) := by decide +kernel
theorem dX10_init_80 : decode cX10_init 80 = .ok (.aload_n 0, 1) := by decide +kernel
theorem dX10_init_81 : decode cX10_init 81 = .ok (.getfield 28, 3) := by decide +kernel
theorem dX10_init_84 : decode cX10_init 84 = .ok (.aload_n 0, 1) := by decide +kernel
theorem dX10_init_85 : decode cX10_init 85 = .ok (.getfield 44, 3) := by decide +kernel
theorem dX10_init_88 : decode cX10_init 88 = .ok (.invokespecial 50, 3) := by decide +kernel
theorem dX10_init_91 : decode cX10_init 91 = .ok (.putfield 53, 3) := by decide +kernel
theorem dX10_init_94 : decode cX10_init 94 = .ok (.aload_n 0, 1) := by decide +kernel
theorem dX10_init_95 : decode cX10_init 95 = .ok (.new 57, 3) := by decide +kernel
theorem dX10_init_98 : decode cX10_init 98 = .ok (.dup, 1) := by decide +kernel
theorem dX10_init_99 : decode cX10_init 99 = .ok (.aload_n 0, 1) := by decide +kernel
theorem dX10_init_100 : decode cX10_init 100 = .ok (.getfield 35, 3) := by decide +kernel
theorem dX10_init_103 : decode cX10_init 103 = .ok (.invokespecial 59, 3) := by decide +kernel
theorem dX10_init_106 : decode cX10_init 106 = .ok (.putfield 62, 3) := by decide +kernel
theorem dX10_init_109 : decode cX10_init 109 = .ok (.aload_n 0, 1) := by decide +kernel
theorem dX10_init_110 : decode cX10_init 110 = .ok (.new 66, 3) := by decide +kernel
theorem dX10_init_113 : decode cX10_init 113 = .ok (.dup, 1) := by decide +kernel
theorem dX10_init_114 : decode cX10_init 114 = .ok (.aload_n 0, 1) := by decide +kernel
theorem dX10_init_115 : decode cX10_init 115 = .ok (.getfield 35, 3) := by decide +kernel
theorem dX10_init_118 : decode cX10_init 118 = .ok (.aload_n 0, 1) := by decide +kernel
theorem dX10_init_119 : decode cX10_init 119 = .ok (.getfield 62, 3) := by decide +kernel
theorem dX10_init_122 : decode cX10_init 122 = .ok (.invokespecial 68, 3) := by decide +kernel
theorem dX10_init_125 : decode cX10_init 125 = .ok (.putfield 71, 3) := by decide +kernel
theorem dX10_init_128 : decode cX10_init 128 = .ok (.return_, 1) := by decide +kernel
theorem dX10_feed_0 : decode cX10_feed 0 = .ok (.aload_n 0, 1) := by decide +kernel
theorem dX10_feed_1 : decode cX10_feed 1 = .ok (.getfield 10, 3) := by decide +kernel
theorem dX10_feed_4 : decode cX10_feed 4 = .ok (.getfield 75, 3) := by decide +kernel
theorem dX10_feed_7 : decode cX10_feed 7 = .ok (.bipush 20, 2) := by decide +kernel
theorem dX10_feed_9 : decode cX10_feed 9 = .ok (.iadd, 1) := by decide +kernel
theorem dX10_feed_10 : decode cX10_feed 10 = .ok (.sipush 500, 3) := by decide +kernel
theorem dX10_feed_13 : decode cX10_feed 13 = .ok (.if_icmp .le 6, 3) := by decide +kernel
theorem dX10_feed_16 : decode cX10_feed 16 = .ok (.bipush (-3), 2) := by decide +kernel
theorem dX10_feed_18 : decode cX10_feed 18 = .ok (.ireturn, 1) := by decide +kernel
theorem dX10_feed_19 : decode cX10_feed 19 = .ok (.aload_n 0, 1) := by decide +kernel
theorem dX10_feed_20 : decode cX10_feed 20 = .ok (.getfield 10, 3) := by decide +kernel
theorem dX10_feed_23 : decode cX10_feed 23 = .ok (.iload_n 1, 1) := by decide +kernel
theorem dX10_feed_24 : decode cX10_feed 24 = .ok (.invokevirtual 79, 3) := by decide +kernel
theorem dX10_feed_27 : decode cX10_feed 27 = .ok (.aload_n 0, 1) := by decide +kernel
theorem dX10_feed_28 : decode cX10_feed 28 = .ok (.getfield 10, 3) := by decide +kernel
theorem dX10_feed_31 : decode cX10_feed 31 = .ok (.iload_n 2, 1) := by decide +kernel
theorem dX10_feed_32 : decode cX10_feed 32 = .ok (.invokevirtual 79, 3) := by decide +kernel
theorem dX10_feed_35 : decode cX10_feed 35 = .ok (.aload_n 0, 1) := by decide +kernel
theorem dX10_feed_36 : decode cX10_feed 36 = .ok (.getfield 10, 3) := by decide +kernel
theorem dX10_feed_39 : decode cX10_feed 39 = .ok (.iload_n 3, 1) := by decide +kernel
theorem dX10_feed_40 : decode cX10_feed 40 = .ok (.invokevirtual 79, 3) := by decide +kernel
theorem dX10_feed_43 : decode cX10_feed 43 = .ok (.aload_n 0, 1) := by decide +kernel
theorem dX10_feed_44 : decode cX10_feed 44 = .ok (.getfield 10, 3) := by decide +kernel
theorem dX10_feed_47 : decode cX10_feed 47 = .ok (.iload 4, 2) := by decide +kernel
theorem dX10_feed_49 : decode cX10_feed 49 = .ok (.invokevirtual 79, 3) := by decide +kernel
theorem dX10_feed_52 : decode cX10_feed 52 = .ok (.aload_n 0, 1) := by decide +kernel
theorem dX10_feed_53 : decode cX10_feed 53 = .ok (.getfield 10, 3) := by decide +kernel
theorem dX10_feed_56 : decode cX10_feed 56 = .ok (.iload 5, 2) := by decide +kernel
theorem dX10_feed_58 : decode cX10_feed 58 = .ok (.invokevirtual 79, 3) := by decide +kernel
theorem dX10_feed_61 : decode cX10_feed 61 = .ok (.aload_n 0, 1) := by decide +kernel
theorem dX10_feed_62 : decode cX10_feed 62 = .ok (.getfield 10, 3) := by decide +kernel
theorem dX10_feed_65 : decode cX10_feed 65 = .ok (.getfield 75, 3) := by decide +kernel
theorem dX10_feed_68 : decode cX10_feed 68 = .ok (.ireturn, 1) := by decide +kernel
theorem dX10_end_0 : decode cX10_end 0 = .ok (.iload_n 1, 1) := by decide +kernel
theorem dX10_end_1 : decode cX10_end 1 = .ok (.ifCond .lt 14, 3) := by decide +kernel
theorem dX10_end_4 : decode cX10_end 4 = .ok (.iload_n 1, 1) := by decide +kernel
theorem dX10_end_5 : decode cX10_end 5 = .ok (.aload_n 0, 1) := by decide +kernel
theorem dX10_end_6 : decode cX10_end 6 = .ok (.getfield 10, 3) := by decide +kernel
theorem dX10_end_9 : decode cX10_end 9 = .ok (.getfield 75, 3) := by decide +kernel
theorem dX10_end_12 : decode cX10_end 12 = .ok (.if_icmp .le 5, 3) := by decide +kernel
theorem dX10_end_15 : decode cX10_end 15 = .ok (.iconst (-1), 1) := by decide +kernel
theorem dX10_end_16 : decode cX10_end 16 = .ok (.ireturn, 1) := by decide +kernel
theorem dX10_end_17 : decode cX10_end 17 = .ok (.aload_n 0, 1) := by decide +kernel
theorem dX10_end_18 : decode cX10_end 18 = .ok (.getfield 10, 3) := by decide +kernel
theorem dX10_end_21 : decode cX10_end 21 = .ok (.iload_n 1, 1) := by decide +kernel
theorem dX10_end_22 : decode cX10_end 22 = .ok (.putfield 75, 3) := by decide +kernel
theorem dX10_end_25 : decode cX10_end 25 = .ok (.iload_n 1, 1) := by decide +kernel
theorem dX10_end_26 : decode cX10_end 26 = .ok (.ireturn, 1) := by decide +kernel
theorem dX10_rules_0 : decode cX10_rules 0 = .ok (.aload_n 0, 1) := by decide +kernel
theorem dX10_rules_1 : decode cX10_rules 1 = .ok (.getfield 21, 3) := by decide +kernel
theorem dX10_rules_4 : decode cX10_rules 4 = .ok (.invokevirtual 83, 3) := by decide +kernel
theorem dX10_rules_7 : decode cX10_rules 7 = .ok (.istore_n 1, 1) := by decide +kernel
theorem dX10_rules_8 : decode cX10_rules 8 = .ok (.aload_n 0, 1) := by decide +kernel
theorem dX10_rules_9 : decode cX10_rules 9 = .ok (.getfield 10, 3) := by decide +kernel
theorem dX10_rules_12 : decode cX10_rules 12 = .ok (.iconst 0, 1) := by decide +kernel
theorem dX10_rules_13 : decode cX10_rules 13 = .ok (.putfield 75, 3) := by decide +kernel
theorem dX10_rules_16 : decode cX10_rules 16 = .ok (.iload_n 1, 1) := by decide +kernel
theorem dX10_rules_17 : decode cX10_rules 17 = .ok (.iconst (-1), 1) := by decide +kernel
theorem dX10_rules_18 : decode cX10_rules 18 = .ok (.if_icmp .eq 30, 3) := by decide +kernel
theorem dX10_rules_21 : decode cX10_rules 21 = .ok (.aload_n 0, 1) := by decide +kernel
theorem dX10_rules_22 : decode cX10_rules 22 = .ok (.getfield 28, 3) := by decide +kernel
theorem dX10_rules_25 : decode cX10_rules 25 = .ok (.aload_n 0, 1) := by decide +kernel
theorem dX10_rules_26 : decode cX10_rules 26 = .ok (.getfield 21, 3) := by decide +kernel
theorem dX10_rules_29 : decode cX10_rules 29 = .ok (.getfield 87, 3) := by decide +kernel
theorem dX10_rules_32 : decode cX10_rules 32 = .ok (.invokevirtual 90, 3) := by decide +kernel
theorem dX10_rules_35 : decode cX10_rules 35 = .ok (.aload_n 0, 1) := by decide +kernel
theorem dX10_rules_36 : decode cX10_rules 36 = .ok (.getfield 35, 3) := by decide +kernel
theorem dX10_rules_39 : decode cX10_rules 39 = .ok (.dup, 1) := by decide +kernel
theorem dX10_rules_40 : decode cX10_rules 40 = .ok (.getfield 94, 3) := by decide +kernel
theorem dX10_rules_43 : decode cX10_rules 43 = .ok (.iconst 1, 1) := by decide +kernel
theorem dX10_rules_44 : decode cX10_rules 44 = .ok (.iadd, 1) := by decide +kernel
theorem dX10_rules_45 : decode cX10_rules 45 = .ok (.putfield 94, 3) := by decide +kernel
theorem dX10_rules_48 : decode cX10_rules 48 = .ok (.iload_n 1, 1) := by decide +kernel
theorem dX10_rules_49 : decode cX10_rules 49 = .ok (.ireturn, 1) := by decide +kernel
theorem dX10_fault_0 : decode cX10_fault 0 = .ok (.iload_n 1, 1) := by decide +kernel
theorem dX10_fault_1 : decode cX10_fault 1 = .ok (.lookupswitch 43 #[(0, 27), (1, 35)], 27) := by decide +kernel
theorem dX10_fault_28 : decode cX10_fault 28 = .ok (.aload_n 0, 1) := by decide +kernel
theorem dX10_fault_29 : decode cX10_fault 29 = .ok (.getfield 21, 3) := by decide +kernel
theorem dX10_fault_32 : decode cX10_fault 32 = .ok (.getfield 97, 3) := by decide +kernel
theorem dX10_fault_35 : decode cX10_fault 35 = .ok (.ireturn, 1) := by decide +kernel
theorem dX10_fault_36 : decode cX10_fault 36 = .ok (.aload_n 0, 1) := by decide +kernel
theorem dX10_fault_37 : decode cX10_fault 37 = .ok (.getfield 21, 3) := by decide +kernel
theorem dX10_fault_40 : decode cX10_fault 40 = .ok (.getfield 100, 3) := by decide +kernel
theorem dX10_fault_43 : decode cX10_fault 43 = .ok (.ireturn, 1) := by decide +kernel
theorem dX10_fault_44 : decode cX10_fault 44 = .ok (.iconst (-1), 1) := by decide +kernel
theorem dX10_fault_45 : decode cX10_fault 45 = .ok (.ireturn, 1) := by decide +kernel
theorem dX10_rule_0 : decode cX10_rule 0 = .ok (.iload_n 1, 1) := by decide +kernel
theorem dX10_rule_1 : decode cX10_rule 1 = .ok (.bipush 10, 2) := by decide +kernel
theorem dX10_rule_3 : decode cX10_rule 3 = .ok (.if_icmp .lt 22, 3) := by decide +kernel
theorem dX10_rule_6 : decode cX10_rule 6 = .ok (.iload_n 1, 1) := by decide +kernel
theorem dX10_rule_7 : decode cX10_rule 7 = .ok (.bipush 21, 2) := by decide +kernel
theorem dX10_rule_9 : decode cX10_rule 9 = .ok (.if_icmp .ge 16, 3) := by decide +kernel
theorem dX10_rule_12 : decode cX10_rule 12 = .ok (.aload_n 0, 1) := by decide +kernel
theorem dX10_rule_13 : decode cX10_rule 13 = .ok (.getfield 28, 3) := by decide +kernel
theorem dX10_rule_16 : decode cX10_rule 16 = .ok (.getfield 103, 3) := by decide +kernel
theorem dX10_rule_19 : decode cX10_rule 19 = .ok (.iload_n 1, 1) := by decide +kernel
theorem dX10_rule_20 : decode cX10_rule 20 = .ok (.bipush 10, 2) := by decide +kernel
theorem dX10_rule_22 : decode cX10_rule 22 = .ok (.isub, 1) := by decide +kernel
theorem dX10_rule_23 : decode cX10_rule 23 = .ok (.iaload, 1) := by decide +kernel
theorem dX10_rule_24 : decode cX10_rule 24 = .ok (.ireturn, 1) := by decide +kernel
theorem dX10_rule_25 : decode cX10_rule 25 = .ok (.iload_n 1, 1) := by decide +kernel
theorem dX10_rule_26 : decode cX10_rule 26 = .ok (.bipush 30, 2) := by decide +kernel
theorem dX10_rule_28 : decode cX10_rule 28 = .ok (.if_icmp .lt 22, 3) := by decide +kernel
theorem dX10_rule_31 : decode cX10_rule 31 = .ok (.iload_n 1, 1) := by decide +kernel
theorem dX10_rule_32 : decode cX10_rule 32 = .ok (.bipush 41, 2) := by decide +kernel
theorem dX10_rule_34 : decode cX10_rule 34 = .ok (.if_icmp .ge 16, 3) := by decide +kernel
theorem dX10_rule_37 : decode cX10_rule 37 = .ok (.aload_n 0, 1) := by decide +kernel
theorem dX10_rule_38 : decode cX10_rule 38 = .ok (.getfield 28, 3) := by decide +kernel
theorem dX10_rule_41 : decode cX10_rule 41 = .ok (.getfield 107, 3) := by decide +kernel
theorem dX10_rule_44 : decode cX10_rule 44 = .ok (.iload_n 1, 1) := by decide +kernel
theorem dX10_rule_45 : decode cX10_rule 45 = .ok (.bipush 30, 2) := by decide +kernel
theorem dX10_rule_47 : decode cX10_rule 47 = .ok (.isub, 1) := by decide +kernel
theorem dX10_rule_48 : decode cX10_rule 48 = .ok (.iaload, 1) := by decide +kernel
theorem dX10_rule_49 : decode cX10_rule 49 = .ok (.ireturn, 1) := by decide +kernel
theorem dX10_rule_50 : decode cX10_rule 50 = .ok (.iload_n 1, 1) := by decide +kernel
theorem dX10_rule_51 : decode cX10_rule 51 = .ok (.tableswitch 73 0 4 #[33, 41, 49, 57, 65], 33) := by decide +kernel
theorem dX10_rule_84 : decode cX10_rule 84 = .ok (.aload_n 0, 1) := by decide +kernel
theorem dX10_rule_85 : decode cX10_rule 85 = .ok (.getfield 28, 3) := by decide +kernel
theorem dX10_rule_88 : decode cX10_rule 88 = .ok (.getfield 110, 3) := by decide +kernel
theorem dX10_rule_91 : decode cX10_rule 91 = .ok (.ireturn, 1) := by decide +kernel
theorem dX10_rule_92 : decode cX10_rule 92 = .ok (.aload_n 0, 1) := by decide +kernel
theorem dX10_rule_93 : decode cX10_rule 93 = .ok (.getfield 28, 3) := by decide +kernel
theorem dX10_rule_96 : decode cX10_rule 96 = .ok (.getfield 113, 3) := by decide +kernel
theorem dX10_rule_99 : decode cX10_rule 99 = .ok (.ireturn, 1) := by decide +kernel
theorem dX10_rule_100 : decode cX10_rule 100 = .ok (.aload_n 0, 1) := by decide +kernel
theorem dX10_rule_101 : decode cX10_rule 101 = .ok (.getfield 28, 3) := by decide +kernel
theorem dX10_rule_104 : decode cX10_rule 104 = .ok (.getfield 116, 3) := by decide +kernel
theorem dX10_rule_107 : decode cX10_rule 107 = .ok (.ireturn, 1) := by decide +kernel
theorem dX10_rule_108 : decode cX10_rule 108 = .ok (.aload_n 0, 1) := by decide +kernel
theorem dX10_rule_109 : decode cX10_rule 109 = .ok (.getfield 28, 3) := by decide +kernel
theorem dX10_rule_112 : decode cX10_rule 112 = .ok (.getfield 119, 3) := by decide +kernel
theorem dX10_rule_115 : decode cX10_rule 115 = .ok (.ireturn, 1) := by decide +kernel
theorem dX10_rule_116 : decode cX10_rule 116 = .ok (.aload_n 0, 1) := by decide +kernel
theorem dX10_rule_117 : decode cX10_rule 117 = .ok (.getfield 28, 3) := by decide +kernel
theorem dX10_rule_120 : decode cX10_rule 120 = .ok (.getfield 122, 3) := by decide +kernel
theorem dX10_rule_123 : decode cX10_rule 123 = .ok (.ireturn, 1) := by decide +kernel
theorem dX10_rule_124 : decode cX10_rule 124 = .ok (.bipush (-9), 2) := by decide +kernel
theorem dX10_rule_126 : decode cX10_rule 126 = .ok (.ireturn, 1) := by decide +kernel
theorem dX10_question_0 : decode cX10_question 0 = .ok (.iload_n 1, 1) := by decide +kernel
theorem dX10_question_1 : decode cX10_question 1 = .ok (.invokestatic 125, 3) := by decide +kernel
theorem dX10_question_4 : decode cX10_question 4 = .ok (.ifCond .eq 23, 3) := by decide +kernel
theorem dX10_question_7 : decode cX10_question 7 = .ok (.iload_n 2, 1) := by decide +kernel
theorem dX10_question_8 : decode cX10_question 8 = .ok (.invokestatic 125, 3) := by decide +kernel
theorem dX10_question_11 : decode cX10_question 11 = .ok (.ifCond .eq 16, 3) := by decide +kernel
theorem dX10_question_14 : decode cX10_question 14 = .ok (.iload_n 2, 1) := by decide +kernel
theorem dX10_question_15 : decode cX10_question 15 = .ok (.iload_n 1, 1) := by decide +kernel
theorem dX10_question_16 : decode cX10_question 16 = .ok (.if_icmp .lt 11, 3) := by decide +kernel
theorem dX10_question_19 : decode cX10_question 19 = .ok (.iload_n 2, 1) := by decide +kernel
theorem dX10_question_20 : decode cX10_question 20 = .ok (.iload_n 1, 1) := by decide +kernel
theorem dX10_question_21 : decode cX10_question 21 = .ok (.isub, 1) := by decide +kernel
theorem dX10_question_22 : decode cX10_question 22 = .ok (.bipush 60, 2) := by decide +kernel
theorem dX10_question_24 : decode cX10_question 24 = .ok (.if_icmp .lt 6, 3) := by decide +kernel
theorem dX10_question_27 : decode cX10_question 27 = .ok (.bipush (-2), 2) := by decide +kernel
theorem dX10_question_29 : decode cX10_question 29 = .ok (.ireturn, 1) := by decide +kernel
theorem dX10_question_30 : decode cX10_question 30 = .ok (.aload_n 0, 1) := by decide +kernel
theorem dX10_question_31 : decode cX10_question 31 = .ok (.getfield 35, 3) := by decide +kernel
theorem dX10_question_34 : decode cX10_question 34 = .ok (.getfield 129, 3) := by decide +kernel
theorem dX10_question_37 : decode cX10_question 37 = .ok (.bipush 20, 2) := by decide +kernel
theorem dX10_question_39 : decode cX10_question 39 = .ok (.if_icmp .lt 6, 3) := by decide +kernel
theorem dX10_question_42 : decode cX10_question 42 = .ok (.bipush (-3), 2) := by decide +kernel
theorem dX10_question_44 : decode cX10_question 44 = .ok (.ireturn, 1) := by decide +kernel
theorem dX10_question_45 : decode cX10_question 45 = .ok (.aload_n 0, 1) := by decide +kernel
theorem dX10_question_46 : decode cX10_question 46 = .ok (.getfield 35, 3) := by decide +kernel
theorem dX10_question_49 : decode cX10_question 49 = .ok (.iload_n 1, 1) := by decide +kernel
theorem dX10_question_50 : decode cX10_question 50 = .ok (.iload_n 2, 1) := by decide +kernel
theorem dX10_question_51 : decode cX10_question 51 = .ok (.invokevirtual 132, 3) := by decide +kernel
theorem dX10_question_54 : decode cX10_question 54 = .ok (.ireturn, 1) := by decide +kernel
theorem dX10_tell_0 : decode cX10_tell 0 = .ok (.aload_n 0, 1) := by decide +kernel
theorem dX10_tell_1 : decode cX10_tell 1 = .ok (.getfield 35, 3) := by decide +kernel
theorem dX10_tell_4 : decode cX10_tell 4 = .ok (.iload_n 1, 1) := by decide +kernel
theorem dX10_tell_5 : decode cX10_tell 5 = .ok (.invokevirtual 136, 3) := by decide +kernel
theorem dX10_tell_8 : decode cX10_tell 8 = .ok (.ifCond .ne 6, 3) := by decide +kernel
theorem dX10_tell_11 : decode cX10_tell 11 = .ok (.bipush (-2), 2) := by decide +kernel
theorem dX10_tell_13 : decode cX10_tell 13 = .ok (.ireturn, 1) := by decide +kernel
theorem dX10_tell_14 : decode cX10_tell 14 = .ok (.aload_n 0, 1) := by decide +kernel
theorem dX10_tell_15 : decode cX10_tell 15 = .ok (.getfield 35, 3) := by decide +kernel
theorem dX10_tell_18 : decode cX10_tell 18 = .ok (.getfield 139, 3) := by decide +kernel
theorem dX10_tell_21 : decode cX10_tell 21 = .ok (.iload_n 1, 1) := by decide +kernel
theorem dX10_tell_22 : decode cX10_tell 22 = .ok (.aaload, 1) := by decide +kernel
theorem dX10_tell_23 : decode cX10_tell 23 = .ok (.astore 4, 2) := by decide +kernel
theorem dX10_tell_25 : decode cX10_tell 25 = .ok (.iload_n 2, 1) := by decide +kernel
theorem dX10_tell_26 : decode cX10_tell 26 = .ok (.ifCond .eq 8, 3) := by decide +kernel
theorem dX10_tell_29 : decode cX10_tell 29 = .ok (.iload_n 2, 1) := by decide +kernel
theorem dX10_tell_30 : decode cX10_tell 30 = .ok (.iconst 1, 1) := by decide +kernel
theorem dX10_tell_31 : decode cX10_tell 31 = .ok (.if_icmp .ne 7, 3) := by decide +kernel
theorem dX10_tell_34 : decode cX10_tell 34 = .ok (.iconst 1, 1) := by decide +kernel
theorem dX10_tell_35 : decode cX10_tell 35 = .ok (.goto 4, 3) := by decide +kernel
