theorem dX12_prepare_189 : decode cX12_prepare 189 = .ok (.iload_n 2, 1) := by decide +kernel
theorem dX12_prepare_190 : decode cX12_prepare 190 = .ok (.invokevirtual 292, 3) := by decide +kernel
theorem dX12_prepare_193 : decode cX12_prepare 193 = .ok (.iinc 2 1, 3) := by decide +kernel
theorem dX12_prepare_196 : decode cX12_prepare 196 = .ok (.goto (-25), 3) := by decide +kernel
theorem dX12_prepare_199 : decode cX12_prepare 199 = .ok (.iinc 1 1, 3) := by decide +kernel
theorem dX12_prepare_202 : decode cX12_prepare 202 = .ok (.goto (-39), 3) := by decide +kernel
theorem dX12_prepare_205 : decode cX12_prepare 205 = .ok (.return_, 1) := by decide +kernel
theorem dX12_sumRows_0 : decode cX12_sumRows 0 = .ok (.iload_n 1, 1) := by decide +kernel
theorem dX12_sumRows_1 : decode cX12_sumRows 1 = .ok (.iload_n 2, 1) := by decide +kernel
theorem dX12_sumRows_2 : decode cX12_sumRows 2 = .ok (.invokestatic 275, 3) := by decide +kernel
theorem dX12_sumRows_5 : decode cX12_sumRows 5 = .ok (.istore_n 3, 1) := by decide +kernel
theorem dX12_sumRows_6 : decode cX12_sumRows 6 = .ok (.aload_n 0, 1) := by decide +kernel
theorem dX12_sumRows_7 : decode cX12_sumRows 7 = .ok (.getfield 155, 3) := by decide +kernel
theorem dX12_sumRows_10 : decode cX12_sumRows 10 = .ok (.iload_n 2, 1) := by decide +kernel
theorem dX12_sumRows_11 : decode cX12_sumRows 11 = .ok (.iaload, 1) := by decide +kernel
theorem dX12_sumRows_12 : decode cX12_sumRows 12 = .ok (.istore 4, 2) := by decide +kernel
theorem dX12_sumRows_14 : decode cX12_sumRows 14 = .ok (.iload 4, 2) := by decide +kernel
theorem dX12_sumRows_16 : decode cX12_sumRows 16 = .ok (.aload_n 0, 1) := by decide +kernel
theorem dX12_sumRows_17 : decode cX12_sumRows 17 = .ok (.iload_n 2, 1) := by decide +kernel
theorem dX12_sumRows_18 : decode cX12_sumRows 18 = .ok (.invokevirtual 296, 3) := by decide +kernel
theorem dX12_sumRows_21 : decode cX12_sumRows 21 = .ok (.if_icmp .gt 64, 3) := by decide +kernel
theorem dX12_sumRows_24 : decode cX12_sumRows 24 = .ok (.aload_n 0, 1) := by decide +kernel
theorem dX12_sumRows_25 : decode cX12_sumRows 25 = .ok (.iload_n 1, 1) := by decide +kernel
theorem dX12_sumRows_26 : decode cX12_sumRows 26 = .ok (.iload_n 2, 1) := by decide +kernel
theorem dX12_sumRows_27 : decode cX12_sumRows 27 = .ok (.iload 4, 2) := by decide +kernel
theorem dX12_sumRows_29 : decode cX12_sumRows 29 = .ok (.invokevirtual 299, 3) := by decide +kernel
theorem dX12_sumRows_32 : decode cX12_sumRows 32 = .ok (.istore 5, 2) := by decide +kernel
theorem dX12_sumRows_34 : decode cX12_sumRows 34 = .ok (.iload 5, 2) := by decide +kernel
theorem dX12_sumRows_36 : decode cX12_sumRows 36 = .ok (.iconst (-1), 1) := by decide +kernel
theorem dX12_sumRows_37 : decode cX12_sumRows 37 = .ok (.if_icmp .ne 6, 3) := by decide +kernel
theorem dX12_sumRows_40 : decode cX12_sumRows 40 = .ok (.goto 39, 3) := by decide +kernel
theorem dX12_sumRows_43 : decode cX12_sumRows 43 = .ok (.aload_n 0, 1) := by decide +kernel
theorem dX12_sumRows_44 : decode cX12_sumRows 44 = .ok (.getfield 191, 3) := by decide +kernel
theorem dX12_sumRows_47 : decode cX12_sumRows 47 = .ok (.iload_n 3, 1) := by decide +kernel
theorem dX12_sumRows_48 : decode cX12_sumRows 48 = .ok (.dup2, 1) := by decide +kernel
theorem dX12_sumRows_49 : decode cX12_sumRows 49 = .ok (.iaload, 1) := by decide +kernel
theorem dX12_sumRows_50 : decode cX12_sumRows 50 = .ok (.iconst 1, 1) := by decide +kernel
theorem dX12_sumRows_51 : decode cX12_sumRows 51 = .ok (.iadd, 1) := by decide +kernel
theorem dX12_sumRows_52 : decode cX12_sumRows 52 = .ok (.iastore, 1) := by decide +kernel
theorem dX12_sumRows_53 : decode cX12_sumRows 53 = .ok (.aload_n 0, 1) := by decide +kernel
theorem dX12_sumRows_54 : decode cX12_sumRows 54 = .ok (.getfield 194, 3) := by decide +kernel
theorem dX12_sumRows_57 : decode cX12_sumRows 57 = .ok (.iload_n 3, 1) := by decide +kernel
theorem dX12_sumRows_58 : decode cX12_sumRows 58 = .ok (.dup2, 1) := by decide +kernel
theorem dX12_sumRows_59 : decode cX12_sumRows 59 = .ok (.iaload, 1) := by decide +kernel
theorem dX12_sumRows_60 : decode cX12_sumRows 60 = .ok (.iload 5, 2) := by decide +kernel
theorem dX12_sumRows_62 : decode cX12_sumRows 62 = .ok (.iadd, 1) := by decide +kernel
theorem dX12_sumRows_63 : decode cX12_sumRows 63 = .ok (.iastore, 1) := by decide +kernel
theorem dX12_sumRows_64 : decode cX12_sumRows 64 = .ok (.aload_n 0, 1) := by decide +kernel
theorem dX12_sumRows_65 : decode cX12_sumRows 65 = .ok (.getfield 197, 3) := by decide +kernel
theorem dX12_sumRows_68 : decode cX12_sumRows 68 = .ok (.iload_n 3, 1) := by decide +kernel
theorem dX12_sumRows_69 : decode cX12_sumRows 69 = .ok (.dup2, 1) := by decide +kernel
theorem dX12_sumRows_70 : decode cX12_sumRows 70 = .ok (.iaload, 1) := by decide +kernel
theorem dX12_sumRows_71 : decode cX12_sumRows 71 = .ok (.aload_n 0, 1) := by decide +kernel
theorem dX12_sumRows_72 : decode cX12_sumRows 72 = .ok (.iload_n 2, 1) := by decide +kernel
theorem dX12_sumRows_73 : decode cX12_sumRows 73 = .ok (.iconst 5, 1) := by decide +kernel
theorem dX12_sumRows_74 : decode cX12_sumRows 74 = .ok (.invokevirtual 286, 3) := by decide +kernel
theorem dX12_sumRows_77 : decode cX12_sumRows 77 = .ok (.iadd, 1) := by decide +kernel
theorem dX12_sumRows_78 : decode cX12_sumRows 78 = .ok (.iastore, 1) := by decide +kernel
theorem dX12_sumRows_79 : decode cX12_sumRows 79 = .ok (.iinc 4 1, 3) := by decide +kernel
theorem dX12_sumRows_82 : decode cX12_sumRows 82 = .ok (.goto (-68), 3) := by decide +kernel
theorem dX12_sumRows_85 : decode cX12_sumRows 85 = .ok (.return_, 1) := by decide +kernel
theorem dX12_counts_0 : decode cX12_counts 0 = .ok (.aload_n 0, 1) := by decide +kernel
theorem dX12_counts_1 : decode cX12_counts 1 = .ok (.iload_n 2, 1) := by decide +kernel
theorem dX12_counts_2 : decode cX12_counts 2 = .ok (.invokevirtual 289, 3) := by decide +kernel
theorem dX12_counts_5 : decode cX12_counts 5 = .ok (.ifCond .eq 24, 3) := by decide +kernel
theorem dX12_counts_8 : decode cX12_counts 8 = .ok (.aload_n 0, 1) := by decide +kernel
theorem dX12_counts_9 : decode cX12_counts 9 = .ok (.getfield 191, 3) := by decide +kernel
theorem dX12_counts_12 : decode cX12_counts 12 = .ok (.iload_n 1, 1) := by decide +kernel
theorem dX12_counts_13 : decode cX12_counts 13 = .ok (.iload_n 2, 1) := by decide +kernel
theorem dX12_counts_14 : decode cX12_counts 14 = .ok (.invokestatic 275, 3) := by decide +kernel
theorem dX12_counts_17 : decode cX12_counts 17 = .ok (.iaload, 1) := by decide +kernel
theorem dX12_counts_18 : decode cX12_counts 18 = .ok (.aload_n 0, 1) := by decide +kernel
theorem dX12_counts_19 : decode cX12_counts 19 = .ok (.getfield 144, 3) := by decide +kernel
theorem dX12_counts_22 : decode cX12_counts 22 = .ok (.if_icmp .lt 7, 3) := by decide +kernel
theorem dX12_counts_25 : decode cX12_counts 25 = .ok (.iconst 1, 1) := by decide +kernel
theorem dX12_counts_26 : decode cX12_counts 26 = .ok (.goto 4, 3) := by decide +kernel
theorem dX12_counts_29 : decode cX12_counts 29 = .ok (.iconst 0, 1) := by decide +kernel
theorem dX12_counts_30 : decode cX12_counts 30 = .ok (.ireturn, 1) := by decide +kernel
theorem dX12_findCopies_0 : decode cX12_findCopies 0 = .ok (.iconst 0, 1) := by decide +kernel
theorem dX12_findCopies_1 : decode cX12_findCopies 1 = .ok (.istore_n 1, 1) := by decide +kernel
theorem dX12_findCopies_2 : decode cX12_findCopies 2 = .ok (.iload_n 1, 1) := by decide +kernel
theorem dX12_findCopies_3 : decode cX12_findCopies 3 = .ok (.aload_n 0, 1) := by decide +kernel
theorem dX12_findCopies_4 : decode cX12_findCopies 4 = .ok (.getfield 268, 3) := by decide +kernel
theorem dX12_findCopies_7 : decode cX12_findCopies 7 = .ok (.if_icmp .ge 176, 3) := by decide +kernel
theorem dX12_findCopies_10 : decode cX12_findCopies 10 = .ok (.iconst 0, 1) := by decide +kernel
theorem dX12_findCopies_11 : decode cX12_findCopies 11 = .ok (.istore_n 2, 1) := by decide +kernel
theorem dX12_findCopies_12 : decode cX12_findCopies 12 = .ok (.iload_n 2, 1) := by decide +kernel
theorem dX12_findCopies_13 : decode cX12_findCopies 13 = .ok (.bipush 20, 2) := by decide +kernel
theorem dX12_findCopies_15 : decode cX12_findCopies 15 = .ok (.if_icmp .ge 162, 3) := by decide +kernel
theorem dX12_findCopies_18 : decode cX12_findCopies 18 = .ok (.iconst (-1), 1) := by decide +kernel
theorem dX12_findCopies_19 : decode cX12_findCopies 19 = .ok (.istore_n 3, 1) := by decide +kernel
theorem dX12_findCopies_20 : decode cX12_findCopies 20 = .ok (.iconst 0, 1) := by decide +kernel
theorem dX12_findCopies_21 : decode cX12_findCopies 21 = .ok (.istore 4, 2) := by decide +kernel
theorem dX12_findCopies_23 : decode cX12_findCopies 23 = .ok (.iload 4, 2) := by decide +kernel
theorem dX12_findCopies_25 : decode cX12_findCopies 25 = .ok (.aload_n 0, 1) := by decide +kernel
theorem dX12_findCopies_26 : decode cX12_findCopies 26 = .ok (.getfield 268, 3) := by decide +kernel
theorem dX12_findCopies_29 : decode cX12_findCopies 29 = .ok (.if_icmp .ge 86, 3) := by decide +kernel
theorem dX12_findCopies_32 : decode cX12_findCopies 32 = .ok (.iload_n 2, 1) := by decide +kernel
theorem dX12_findCopies_33 : decode cX12_findCopies 33 = .ok (.aload_n 0, 1) := by decide +kernel
theorem dX12_findCopies_34 : decode cX12_findCopies 34 = .ok (.getfield 167, 3) := by decide +kernel
theorem dX12_findCopies_37 : decode cX12_findCopies 37 = .ok (.iload_n 1, 1) := by decide +kernel
theorem dX12_findCopies_38 : decode cX12_findCopies 38 = .ok (.iaload, 1) := by decide +kernel
theorem dX12_findCopies_39 : decode cX12_findCopies 39 = .ok (.if_icmp .eq 76, 3) := by decide +kernel
theorem dX12_findCopies_42 : decode cX12_findCopies 42 = .ok (.aload_n 0, 1) := by decide +kernel
theorem dX12_findCopies_43 : decode cX12_findCopies 43 = .ok (.getfield 167, 3) := by decide +kernel
theorem dX12_findCopies_46 : decode cX12_findCopies 46 = .ok (.iload 4, 2) := by decide +kernel
theorem dX12_findCopies_48 : decode cX12_findCopies 48 = .ok (.iaload, 1) := by decide +kernel
theorem dX12_findCopies_49 : decode cX12_findCopies 49 = .ok (.iload_n 2, 1) := by decide +kernel
theorem dX12_findCopies_50 : decode cX12_findCopies 50 = .ok (.if_icmp .ne 59, 3) := by decide +kernel
theorem dX12_findCopies_53 : decode cX12_findCopies 53 = .ok (.aload_n 0, 1) := by decide +kernel
theorem dX12_findCopies_54 : decode cX12_findCopies 54 = .ok (.getfield 170, 3) := by decide +kernel
theorem dX12_findCopies_57 : decode cX12_findCopies 57 = .ok (.iload 4, 2) := by decide +kernel
theorem dX12_findCopies_59 : decode cX12_findCopies 59 = .ok (.iaload, 1) := by decide +kernel
theorem dX12_findCopies_60 : decode cX12_findCopies 60 = .ok (.aload_n 0, 1) := by decide +kernel
theorem dX12_findCopies_61 : decode cX12_findCopies 61 = .ok (.getfield 170, 3) := by decide +kernel
theorem dX12_findCopies_64 : decode cX12_findCopies 64 = .ok (.iload_n 1, 1) := by decide +kernel
theorem dX12_findCopies_65 : decode cX12_findCopies 65 = .ok (.iaload, 1) := by decide +kernel
theorem dX12_findCopies_66 : decode cX12_findCopies 66 = .ok (.if_icmp .ne 43, 3) := by decide +kernel
theorem dX12_findCopies_69 : decode cX12_findCopies 69 = .ok (.aload_n 0, 1) := by decide +kernel
theorem dX12_findCopies_70 : decode cX12_findCopies 70 = .ok (.getfield 173, 3) := by decide +kernel
theorem dX12_findCopies_73 : decode cX12_findCopies 73 = .ok (.iload 4, 2) := by decide +kernel
theorem dX12_findCopies_75 : decode cX12_findCopies 75 = .ok (.iaload, 1) := by decide +kernel
theorem dX12_findCopies_76 : decode cX12_findCopies 76 = .ok (.aload_n 0, 1) := by decide +kernel
theorem dX12_findCopies_77 : decode cX12_findCopies 77 = .ok (.getfield 173, 3) := by decide +kernel
theorem dX12_findCopies_80 : decode cX12_findCopies 80 = .ok (.iload_n 1, 1) := by decide +kernel
theorem dX12_findCopies_81 : decode cX12_findCopies 81 = .ok (.iaload, 1) := by decide +kernel
theorem dX12_findCopies_82 : decode cX12_findCopies 82 = .ok (.if_icmp .ge 27, 3) := by decide +kernel
theorem dX12_findCopies_85 : decode cX12_findCopies 85 = .ok (.iload_n 3, 1) := by decide +kernel
theorem dX12_findCopies_86 : decode cX12_findCopies 86 = .ok (.iconst (-1), 1) := by decide +kernel
theorem dX12_findCopies_87 : decode cX12_findCopies 87 = .ok (.if_icmp .eq 19, 3) := by decide +kernel
theorem dX12_findCopies_90 : decode cX12_findCopies 90 = .ok (.aload_n 0, 1) := by decide +kernel
theorem dX12_findCopies_91 : decode cX12_findCopies 91 = .ok (.getfield 173, 3) := by decide +kernel
theorem dX12_findCopies_94 : decode cX12_findCopies 94 = .ok (.iload 4, 2) := by decide +kernel
theorem dX12_findCopies_96 : decode cX12_findCopies 96 = .ok (.iaload, 1) := by decide +kernel
theorem dX12_findCopies_97 : decode cX12_findCopies 97 = .ok (.aload_n 0, 1) := by decide +kernel
theorem dX12_findCopies_98 : decode cX12_findCopies 98 = .ok (.getfield 173, 3) := by decide +kernel
theorem dX12_findCopies_101 : decode cX12_findCopies 101 = .ok (.iload_n 3, 1) := by decide +kernel
theorem dX12_findCopies_102 : decode cX12_findCopies 102 = .ok (.iaload, 1) := by decide +kernel
theorem dX12_findCopies_103 : decode cX12_findCopies 103 = .ok (.if_icmp .lt 6, 3) := by decide +kernel
theorem dX12_findCopies_106 : decode cX12_findCopies 106 = .ok (.iload 4, 2) := by decide +kernel
theorem dX12_findCopies_108 : decode cX12_findCopies 108 = .ok (.istore_n 3, 1) := by decide +kernel
theorem dX12_findCopies_109 : decode cX12_findCopies 109 = .ok (.iinc 4 1, 3) := by decide +kernel
theorem dX12_findCopies_112 : decode cX12_findCopies 112 = .ok (.goto (-89), 3) := by decide +kernel
theorem dX12_findCopies_115 : decode cX12_findCopies 115 = .ok (.aload_n 0, 1) := by decide +kernel
theorem dX12_findCopies_116 : decode cX12_findCopies 116 = .ok (.getfield 203, 3) := by decide +kernel
theorem dX12_findCopies_119 : decode cX12_findCopies 119 = .ok (.bipush 20, 2) := by decide +kernel
theorem dX12_findCopies_121 : decode cX12_findCopies 121 = .ok (.iload_n 1, 1) := by decide +kernel
theorem dX12_findCopies_122 : decode cX12_findCopies 122 = .ok (.imul, 1) := by decide +kernel
theorem dX12_findCopies_123 : decode cX12_findCopies 123 = .ok (.iload_n 2, 1) := by decide +kernel
theorem dX12_findCopies_124 : decode cX12_findCopies 124 = .ok (.iadd, 1) := by decide +kernel
theorem dX12_findCopies_125 : decode cX12_findCopies 125 = .ok (.iload_n 3, 1) := by decide +kernel
theorem dX12_findCopies_126 : decode cX12_findCopies 126 = .ok (.iconst (-1), 1) := by decide +kernel
theorem dX12_findCopies_127 : decode cX12_findCopies 127 = .ok (.if_icmp .eq 42, 3) := by decide +kernel
theorem dX12_findCopies_130 : decode cX12_findCopies 130 = .ok (.aload_n 0, 1) := by decide +kernel
theorem dX12_findCopies_131 : decode cX12_findCopies 131 = .ok (.getfield 176, 3) := by decide +kernel
theorem dX12_findCopies_134 : decode cX12_findCopies 134 = .ok (.iload_n 3, 1) := by decide +kernel
theorem dX12_findCopies_135 : decode cX12_findCopies 135 = .ok (.iaload, 1) := by decide +kernel
theorem dX12_findCopies_136 : decode cX12_findCopies 136 = .ok (.aload_n 0, 1) := by decide +kernel
theorem dX12_findCopies_137 : decode cX12_findCopies 137 = .ok (.getfield 176, 3) := by decide +kernel
theorem dX12_findCopies_140 : decode cX12_findCopies 140 = .ok (.iload_n 1, 1) := by decide +kernel
theorem dX12_findCopies_141 : decode cX12_findCopies 141 = .ok (.iaload, 1) := by decide +kernel
theorem dX12_findCopies_142 : decode cX12_findCopies 142 = .ok (.if_icmp .ne 27, 3) := by decide +kernel
theorem dX12_findCopies_145 : decode cX12_findCopies 145 = .ok (.aload_n 0, 1) := by decide +kernel
theorem dX12_findCopies_146 : decode cX12_findCopies 146 = .ok (.getfield 173, 3) := by decide +kernel
theorem dX12_findCopies_149 : decode cX12_findCopies 149 = .ok (.iload_n 1, 1) := by decide +kernel
theorem dX12_findCopies_150 : decode cX12_findCopies 150 = .ok (.iaload, 1) := by decide +kernel
theorem dX12_findCopies_151 : decode cX12_findCopies 151 = .ok (.aload_n 0, 1) := by decide +kernel
theorem dX12_findCopies_152 : decode cX12_findCopies 152 = .ok (.getfield 173, 3) := by decide +kernel
theorem dX12_findCopies_155 : decode cX12_findCopies 155 = .ok (.iload_n 3, 1) := by decide +kernel
theorem dX12_findCopies_156 : decode cX12_findCopies 156 = .ok (.iaload, 1) := by decide +kernel
theorem dX12_findCopies_157 : decode cX12_findCopies 157 = .ok (.isub, 1) := by decide +kernel
theorem dX12_findCopies_158 : decode cX12_findCopies 158 = .ok (.aload_n 0, 1) := by decide +kernel
theorem dX12_findCopies_159 : decode cX12_findCopies 159 = .ok (.getfield 138, 3) := by decide +kernel
theorem dX12_findCopies_162 : decode cX12_findCopies 162 = .ok (.if_icmp .gt 7, 3) := by decide +kernel
theorem dX12_findCopies_165 : decode cX12_findCopies 165 = .ok (.iconst 1, 1) := by decide +kernel
theorem dX12_findCopies_166 : decode cX12_findCopies 166 = .ok (.goto 4, 3) := by decide +kernel
theorem dX12_findCopies_169 : decode cX12_findCopies 169 = .ok (.iconst 0, 1) := by decide +kernel
theorem dX12_findCopies_170 : decode cX12_findCopies 170 = .ok (.bastore, 1) := by decide +kernel
theorem dX12_findCopies_171 : decode cX12_findCopies 171 = .ok (.iinc 2 1, 3) := by decide +kernel
theorem dX12_findCopies_174 : decode cX12_findCopies 174 = .ok (.goto (-162), 3) := by decide +kernel
theorem dX12_findCopies_177 : decode cX12_findCopies 177 = .ok (.iinc 1 1, 3) := by decide +kernel
theorem dX12_findCopies_180 : decode cX12_findCopies 180 = .ok (.goto (-178), 3) := by decide +kernel
theorem dX12_findCopies_183 : decode cX12_findCopies 183 = .ok (.return_, 1) := by decide +kernel
theorem dX12_copiesOf_0 : decode cX12_copiesOf 0 = .ok (.iconst 0, 1) := by decide +kernel
theorem dX12_copiesOf_1 : decode cX12_copiesOf 1 = .ok (.istore 4, 2) := by decide +kernel
theorem dX12_copiesOf_3 : decode cX12_copiesOf 3 = .ok (.iconst 0, 1) := by decide +kernel
theorem dX12_copiesOf_4 : decode cX12_copiesOf 4 = .ok (.istore 5, 2) := by decide +kernel
theorem dX12_copiesOf_6 : decode cX12_copiesOf 6 = .ok (.iload 5, 2) := by decide +kernel
theorem dX12_copiesOf_8 : decode cX12_copiesOf 8 = .ok (.aload_n 0, 1) := by decide +kernel
theorem dX12_copiesOf_9 : decode cX12_copiesOf 9 = .ok (.getfield 268, 3) := by decide +kernel
theorem dX12_copiesOf_12 : decode cX12_copiesOf 12 = .ok (.if_icmp .ge 56, 3) := by decide +kernel
theorem dX12_copiesOf_15 : decode cX12_copiesOf 15 = .ok (.iload 4, 2) := by decide +kernel
theorem dX12_copiesOf_17 : decode cX12_copiesOf 17 = .ok (.aload_n 0, 1) := by decide +kernel
theorem dX12_copiesOf_18 : decode cX12_copiesOf 18 = .ok (.getfield 167, 3) := by decide +kernel
theorem dX12_copiesOf_21 : decode cX12_copiesOf 21 = .ok (.iload 5, 2) := by decide +kernel
theorem dX12_copiesOf_23 : decode cX12_copiesOf 23 = .ok (.iaload, 1) := by decide +kernel
theorem dX12_copiesOf_24 : decode cX12_copiesOf 24 = .ok (.iload_n 1, 1) := by decide +kernel
theorem dX12_copiesOf_25 : decode cX12_copiesOf 25 = .ok (.if_icmp .ne 33, 3) := by decide +kernel
theorem dX12_copiesOf_28 : decode cX12_copiesOf 28 = .ok (.aload_n 0, 1) := by decide +kernel
theorem dX12_copiesOf_29 : decode cX12_copiesOf 29 = .ok (.getfield 173, 3) := by decide +kernel
theorem dX12_copiesOf_32 : decode cX12_copiesOf 32 = .ok (.iload 5, 2) := by decide +kernel
theorem dX12_copiesOf_34 : decode cX12_copiesOf 34 = .ok (.iaload, 1) := by decide +kernel
theorem dX12_copiesOf_35 : decode cX12_copiesOf 35 = .ok (.iload_n 3, 1) := by decide +kernel
theorem dX12_copiesOf_36 : decode cX12_copiesOf 36 = .ok (.if_icmp .gt 22, 3) := by decide +kernel
theorem dX12_copiesOf_39 : decode cX12_copiesOf 39 = .ok (.aload_n 0, 1) := by decide +kernel
theorem dX12_copiesOf_40 : decode cX12_copiesOf 40 = .ok (.getfield 203, 3) := by decide +kernel
theorem dX12_copiesOf_43 : decode cX12_copiesOf 43 = .ok (.bipush 20, 2) := by decide +kernel
theorem dX12_copiesOf_45 : decode cX12_copiesOf 45 = .ok (.iload 5, 2) := by decide +kernel
theorem dX12_copiesOf_47 : decode cX12_copiesOf 47 = .ok (.imul, 1) := by decide +kernel
theorem dX12_copiesOf_48 : decode cX12_copiesOf 48 = .ok (.iload_n 2, 1) := by decide +kernel
theorem dX12_copiesOf_49 : decode cX12_copiesOf 49 = .ok (.iadd, 1) := by decide +kernel
theorem dX12_copiesOf_50 : decode cX12_copiesOf 50 = .ok (.baload, 1) := by decide +kernel
theorem dX12_copiesOf_51 : decode cX12_copiesOf 51 = .ok (.ifCond .eq 7, 3) := by decide +kernel
theorem dX12_copiesOf_54 : decode cX12_copiesOf 54 = .ok (.iconst 1, 1) := by decide +kernel
theorem dX12_copiesOf_55 : decode cX12_copiesOf 55 = .ok (.goto 4, 3) := by decide +kernel
theorem dX12_copiesOf_58 : decode cX12_copiesOf 58 = .ok (.iconst 0, 1) := by decide +kernel
theorem dX12_copiesOf_59 : decode cX12_copiesOf 59 = .ok (.iadd, 1) := by decide +kernel
theorem dX12_copiesOf_60 : decode cX12_copiesOf 60 = .ok (.istore 4, 2) := by decide +kernel
theorem dX12_copiesOf_62 : decode cX12_copiesOf 62 = .ok (.iinc 5 1, 3) := by decide +kernel
theorem dX12_copiesOf_65 : decode cX12_copiesOf 65 = .ok (.goto (-59), 3) := by decide +kernel
theorem dX12_copiesOf_68 : decode cX12_copiesOf 68 = .ok (.iload 4, 2) := by decide +kernel
theorem dX12_copiesOf_70 : decode cX12_copiesOf 70 = .ok (.ireturn, 1) := by decide +kernel
theorem dX12_rows_0 : decode cX12_rows 0 = .ok (.iload_n 1, 1) := by decide +kernel
theorem dX12_rows_1 : decode cX12_rows 1 = .ok (.invokestatic 265, 3) := by decide +kernel
theorem dX12_rows_4 : decode cX12_rows 4 = .ok (.ifCond .eq 21, 3) := by decide +kernel
theorem dX12_rows_7 : decode cX12_rows 7 = .ok (.aload_n 0, 1) := by decide +kernel
theorem dX12_rows_8 : decode cX12_rows 8 = .ok (.iload_n 2, 1) := by decide +kernel
theorem dX12_rows_9 : decode cX12_rows 9 = .ok (.invokevirtual 260, 3) := by decide +kernel
theorem dX12_rows_12 : decode cX12_rows 12 = .ok (.ifCond .eq 13, 3) := by decide +kernel
theorem dX12_rows_15 : decode cX12_rows 15 = .ok (.iload_n 3, 1) := by decide +kernel
theorem dX12_rows_16 : decode cX12_rows 16 = .ok (.i2l, 1) := by decide +kernel
theorem dX12_rows_17 : decode cX12_rows 17 = .ok (.lconst 0, 1) := by decide +kernel
theorem dX12_rows_18 : decode cX12_rows 18 = .ok (.lconst 1, 1) := by decide +kernel
theorem dX12_rows_19 : decode cX12_rows 19 = .ok (.invokestatic 5, 3) := by decide +kernel
theorem dX12_rows_22 : decode cX12_rows 22 = .ok (.ifCond .ne 6, 3) := by decide +kernel
theorem dX12_rows_25 : decode cX12_rows 25 = .ok (.bipush (-2), 2) := by decide +kernel
theorem dX12_rows_27 : decode cX12_rows 27 = .ok (.ireturn, 1) := by decide +kernel
theorem dX12_rows_28 : decode cX12_rows 28 = .ok (.aload_n 0, 1) := by decide +kernel
theorem dX12_rows_29 : decode cX12_rows 29 = .ok (.invokevirtual 302, 3) := by decide +kernel
theorem dX12_rows_32 : decode cX12_rows 32 = .ok (.iload_n 3, 1) := by decide +kernel
theorem dX12_rows_33 : decode cX12_rows 33 = .ok (.ifCond .ne 16, 3) := by decide +kernel
theorem dX12_rows_36 : decode cX12_rows 36 = .ok (.aload_n 0, 1) := by decide +kernel
theorem dX12_rows_37 : decode cX12_rows 37 = .ok (.getfield 191, 3) := by decide +kernel
theorem dX12_rows_40 : decode cX12_rows 40 = .ok (.iload_n 1, 1) := by decide +kernel
theorem dX12_rows_41 : decode cX12_rows 41 = .ok (.iload_n 2, 1) := by decide +kernel
theorem dX12_rows_42 : decode cX12_rows 42 = .ok (.invokestatic 275, 3) := by decide +kernel
theorem dX12_rows_45 : decode cX12_rows 45 = .ok (.iaload, 1) := by decide +kernel
theorem dX12_rows_46 : decode cX12_rows 46 = .ok (.goto 13, 3) := by decide +kernel
theorem dX12_rows_49 : decode cX12_rows 49 = .ok (.aload_n 0, 1) := by decide +kernel
theorem dX12_rows_50 : decode cX12_rows 50 = .ok (.getfield 194, 3) := by decide +kernel
theorem dX12_rows_53 : decode cX12_rows 53 = .ok (.iload_n 1, 1) := by decide +kernel
theorem dX12_rows_54 : decode cX12_rows 54 = .ok (.iload_n 2, 1) := by decide +kernel
theorem dX12_rows_55 : decode cX12_rows 55 = .ok (.invokestatic 275, 3) := by decide +kernel
theorem dX12_rows_58 : decode cX12_rows 58 = .ok (.iaload, 1) := by decide +kernel
theorem dX12_rows_59 : decode cX12_rows 59 = .ok (.ireturn, 1) := by decide +kernel
theorem dX12_findMean_0 : decode cX12_findMean 0 = .ok (.aload_n 0, 1) := by decide +kernel
theorem dX12_findMean_1 : decode cX12_findMean 1 = .ok (.iconst 0, 1) := by decide +kernel
theorem dX12_findMean_2 : decode cX12_findMean 2 = .ok (.putfield 305, 3) := by decide +kernel
theorem dX12_findMean_5 : decode cX12_findMean 5 = .ok (.aload_n 0, 1) := by decide +kernel
theorem dX12_findMean_6 : decode cX12_findMean 6 = .ok (.iconst 0, 1) := by decide +kernel
theorem dX12_findMean_7 : decode cX12_findMean 7 = .ok (.putfield 308, 3) := by decide +kernel
theorem dX12_findMean_10 : decode cX12_findMean 10 = .ok (.iconst 0, 1) := by decide +kernel
theorem dX12_findMean_11 : decode cX12_findMean 11 = .ok (.istore_n 2, 1) := by decide +kernel
theorem dX12_findMean_12 : decode cX12_findMean 12 = .ok (.iload_n 2, 1) := by decide +kernel
theorem dX12_findMean_13 : decode cX12_findMean 13 = .ok (.aload_n 0, 1) := by decide +kernel
theorem dX12_findMean_14 : decode cX12_findMean 14 = .ok (.getfield 252, 3) := by decide +kernel
theorem dX12_findMean_17 : decode cX12_findMean 17 = .ok (.if_icmp .ge 59, 3) := by decide +kernel
theorem dX12_findMean_20 : decode cX12_findMean 20 = .ok (.aload_n 0, 1) := by decide +kernel
theorem dX12_findMean_21 : decode cX12_findMean 21 = .ok (.iload_n 1, 1) := by decide +kernel
theorem dX12_findMean_22 : decode cX12_findMean 22 = .ok (.iload_n 2, 1) := by decide +kernel
theorem dX12_findMean_23 : decode cX12_findMean 23 = .ok (.invokevirtual 311, 3) := by decide +kernel
theorem dX12_findMean_26 : decode cX12_findMean 26 = .ok (.ifCond .ne 6, 3) := by decide +kernel
theorem dX12_findMean_29 : decode cX12_findMean 29 = .ok (.goto 41, 3) := by decide +kernel
theorem dX12_findMean_32 : decode cX12_findMean 32 = .ok (.aload_n 0, 1) := by decide +kernel
theorem dX12_findMean_33 : decode cX12_findMean 33 = .ok (.dup, 1) := by decide +kernel
theorem dX12_findMean_34 : decode cX12_findMean 34 = .ok (.getfield 305, 3) := by decide +kernel
theorem dX12_findMean_37 : decode cX12_findMean 37 = .ok (.aload_n 0, 1) := by decide +kernel
theorem dX12_findMean_38 : decode cX12_findMean 38 = .ok (.getfield 194, 3) := by decide +kernel
theorem dX12_findMean_41 : decode cX12_findMean 41 = .ok (.iload_n 1, 1) := by decide +kernel
theorem dX12_findMean_42 : decode cX12_findMean 42 = .ok (.iload_n 2, 1) := by decide +kernel
theorem dX12_findMean_43 : decode cX12_findMean 43 = .ok (.invokestatic 275, 3) := by decide +kernel
theorem dX12_findMean_46 : decode cX12_findMean 46 = .ok (.iaload, 1) := by decide +kernel
theorem dX12_findMean_47 : decode cX12_findMean 47 = .ok (.iadd, 1) := by decide +kernel
theorem dX12_findMean_48 : decode cX12_findMean 48 = .ok (.putfield 305, 3) := by decide +kernel
theorem dX12_findMean_51 : decode cX12_findMean 51 = .ok (.aload_n 0, 1) := by decide +kernel
theorem dX12_findMean_52 : decode cX12_findMean 52 = .ok (.dup, 1) := by decide +kernel
theorem dX12_findMean_53 : decode cX12_findMean 53 = .ok (.getfield 308, 3) := by decide +kernel
theorem dX12_findMean_56 : decode cX12_findMean 56 = .ok (.aload_n 0, 1) := by decide +kernel
theorem dX12_findMean_57 : decode cX12_findMean 57 = .ok (.getfield 191, 3) := by decide +kernel
theorem dX12_findMean_60 : decode cX12_findMean 60 = .ok (.iload_n 1, 1) := by decide +kernel
theorem dX12_findMean_61 : decode cX12_findMean 61 = .ok (.iload_n 2, 1) := by decide +kernel
theorem dX12_findMean_62 : decode cX12_findMean 62 = .ok (.invokestatic 275, 3) := by decide +kernel
theorem dX12_findMean_65 : decode cX12_findMean 65 = .ok (.iaload, 1) := by decide +kernel
theorem dX12_findMean_66 : decode cX12_findMean 66 = .ok (.iadd, 1) := by decide +kernel
theorem dX12_findMean_67 : decode cX12_findMean 67 = .ok (.putfield 308, 3) := by decide +kernel
theorem dX12_findMean_70 : decode cX12_findMean 70 = .ok (.iinc 2 1, 3) := by decide +kernel
theorem dX12_findMean_73 : decode cX12_findMean 73 = .ok (.goto (-61), 3) := by decide +kernel
theorem dX12_findMean_76 : decode cX12_findMean 76 = .ok (.return_, 1) := by decide +kernel
theorem dX12_common_0 : decode cX12_common 0 = .ok (.iload_n 0, 1) := by decide +kernel
theorem dX12_common_1 : decode cX12_common 1 = .ok (.istore_n 2, 1) := by decide +kernel
theorem dX12_common_2 : decode cX12_common 2 = .ok (.iload_n 1, 1) := by decide +kernel
theorem dX12_common_3 : decode cX12_common 3 = .ok (.istore_n 3, 1) := by decide +kernel
theorem dX12_common_4 : decode cX12_common 4 = .ok (.iload_n 3, 1) := by decide +kernel
theorem dX12_common_5 : decode cX12_common 5 = .ok (.ifCond .eq 16, 3) := by decide +kernel
theorem dX12_common_8 : decode cX12_common 8 = .ok (.iload_n 2, 1) := by decide +kernel
theorem dX12_common_9 : decode cX12_common 9 = .ok (.iload_n 3, 1) := by decide +kernel
theorem dX12_common_10 : decode cX12_common 10 = .ok (.irem, 1) := by decide +kernel
theorem dX12_common_11 : decode cX12_common 11 = .ok (.istore 4, 2) := by decide +kernel
theorem dX12_common_13 : decode cX12_common 13 = .ok (.iload_n 3, 1) := by decide +kernel
theorem dX12_common_14 : decode cX12_common 14 = .ok (.istore_n 2, 1) := by decide +kernel
theorem dX12_common_15 : decode cX12_common 15 = .ok (.iload 4, 2) := by decide +kernel
theorem dX12_common_17 : decode cX12_common 17 = .ok (.istore_n 3, 1) := by decide +kernel
theorem dX12_common_18 : decode cX12_common 18 = .ok (.goto (-14), 3) := by decide +kernel
theorem dX12_common_21 : decode cX12_common 21 = .ok (.iload_n 2, 1) := by decide +kernel
theorem dX12_common_22 : decode cX12_common 22 = .ok (.ireturn, 1) := by decide +kernel
theorem dX12_mean_0 : decode cX12_mean 0 = .ok (.iload_n 1, 1) := by decide +kernel
theorem dX12_mean_1 : decode cX12_mean 1 = .ok (.invokestatic 265, 3) := by decide +kernel
theorem dX12_mean_4 : decode cX12_mean 4 = .ok (.ifCond .eq 13, 3) := by decide +kernel
theorem dX12_mean_7 : decode cX12_mean 7 = .ok (.iload_n 2, 1) := by decide +kernel
theorem dX12_mean_8 : decode cX12_mean 8 = .ok (.i2l, 1) := by decide +kernel
theorem dX12_mean_9 : decode cX12_mean 9 = .ok (.lconst 0, 1) := by decide +kernel
theorem dX12_mean_10 : decode cX12_mean 10 = .ok (.lconst 1, 1) := by decide +kernel
theorem dX12_mean_11 : decode cX12_mean 11 = .ok (.invokestatic 5, 3) := by decide +kernel
theorem dX12_mean_14 : decode cX12_mean 14 = .ok (.ifCond .ne 6, 3) := by decide +kernel
theorem dX12_mean_17 : decode cX12_mean 17 = .ok (.bipush (-2), 2) := by decide +kernel
theorem dX12_mean_19 : decode cX12_mean 19 = .ok (.ireturn, 1) := by decide +kernel
theorem dX12_mean_20 : decode cX12_mean 20 = .ok (.aload_n 0, 1) := by decide +kernel
theorem dX12_mean_21 : decode cX12_mean 21 = .ok (.invokevirtual 302, 3) := by decide +kernel
theorem dX12_mean_24 : decode cX12_mean 24 = .ok (.aload_n 0, 1) := by decide +kernel
theorem dX12_mean_25 : decode cX12_mean 25 = .ok (.iload_n 1, 1) := by decide +kernel
theorem dX12_mean_26 : decode cX12_mean 26 = .ok (.invokevirtual 315, 3) := by decide +kernel
theorem dX12_mean_29 : decode cX12_mean 29 = .ok (.aload_n 0, 1) := by decide +kernel
theorem dX12_mean_30 : decode cX12_mean 30 = .ok (.getfield 308, 3) := by decide +kernel
theorem dX12_mean_33 : decode cX12_mean 33 = .ok (.ifCond .ne 5, 3) := by decide +kernel
theorem dX12_mean_36 : decode cX12_mean 36 = .ok (.iconst 0, 1) := by decide +kernel
theorem dX12_mean_37 : decode cX12_mean 37 = .ok (.ireturn, 1) := by decide +kernel
theorem dX12_mean_38 : decode cX12_mean 38 = .ok (.aload_n 0, 1) := by decide +kernel
theorem dX12_mean_39 : decode cX12_mean 39 = .ok (.getfield 305, 3) := by decide +kernel
theorem dX12_mean_42 : decode cX12_mean 42 = .ok (.aload_n 0, 1) := by decide +kernel
theorem dX12_mean_43 : decode cX12_mean 43 = .ok (.getfield 308, 3) := by decide +kernel
theorem dX12_mean_46 : decode cX12_mean 46 = .ok (.invokestatic 318, 3) := by decide +kernel
theorem dX12_mean_49 : decode cX12_mean 49 = .ok (.istore_n 3, 1) := by decide +kernel
theorem dX12_mean_50 : decode cX12_mean 50 = .ok (.iload_n 2, 1) := by decide +kernel
theorem dX12_mean_51 : decode cX12_mean 51 = .ok (.ifCond .ne 12, 3) := by decide +kernel
theorem dX12_mean_54 : decode cX12_mean 54 = .ok (.aload_n 0, 1) := by decide +kernel
theorem dX12_mean_55 : decode cX12_mean 55 = .ok (.getfield 305, 3) := by decide +kernel
theorem dX12_mean_58 : decode cX12_mean 58 = .ok (.iload_n 3, 1) := by decide +kernel
theorem dX12_mean_59 : decode cX12_mean 59 = .ok (.idiv, 1) := by decide +kernel
theorem dX12_mean_60 : decode cX12_mean 60 = .ok (.goto 9, 3) := by decide +kernel
theorem dX12_mean_63 : decode cX12_mean 63 = .ok (.aload_n 0, 1) := by decide +kernel
theorem dX12_mean_64 : decode cX12_mean 64 = .ok (.getfield 308, 3) := by decide +kernel
theorem dX12_mean_67 : decode cX12_mean 67 = .ok (.iload_n 3, 1) := by decide +kernel
theorem dX12_mean_68 : decode cX12_mean 68 = .ok (.idiv, 1) := by decide +kernel
theorem dX12_mean_69 : decode cX12_mean 69 = .ok (.ireturn, 1) := by decide +kernel
theorem dX12_findMeans_0 : decode cX12_findMeans 0 = .ok (.aload_n 0, 1) := by decide +kernel
theorem dX12_findMeans_1 : decode cX12_findMeans 1 = .ok (.invokevirtual 302, 3) := by decide +kernel
theorem dX12_findMeans_4 : decode cX12_findMeans 4 = .ok (.iconst 0, 1) := by decide +kernel
theorem dX12_findMeans_5 : decode cX12_findMeans 5 = .ok (.istore_n 1, 1) := by decide +kernel
theorem dX12_findMeans_6 : decode cX12_findMeans 6 = .ok (.iload_n 1, 1) := by decide +kernel
theorem dX12_findMeans_7 : decode cX12_findMeans 7 = .ok (.bipush 20, 2) := by decide +kernel
theorem dX12_findMeans_9 : decode cX12_findMeans 9 = .ok (.if_icmp .ge 34, 3) := by decide +kernel
theorem dX12_findMeans_12 : decode cX12_findMeans 12 = .ok (.aload_n 0, 1) := by decide +kernel
theorem dX12_findMeans_13 : decode cX12_findMeans 13 = .ok (.iload_n 1, 1) := by decide +kernel
theorem dX12_findMeans_14 : decode cX12_findMeans 14 = .ok (.invokevirtual 315, 3) := by decide +kernel
theorem dX12_findMeans_17 : decode cX12_findMeans 17 = .ok (.aload_n 0, 1) := by decide +kernel
theorem dX12_findMeans_18 : decode cX12_findMeans 18 = .ok (.getfield 206, 3) := by decide +kernel
theorem dX12_findMeans_21 : decode cX12_findMeans 21 = .ok (.iload_n 1, 1) := by decide +kernel
theorem dX12_findMeans_22 : decode cX12_findMeans 22 = .ok (.aload_n 0, 1) := by decide +kernel
theorem dX12_findMeans_23 : decode cX12_findMeans 23 = .ok (.getfield 305, 3) := by decide +kernel
theorem dX12_findMeans_26 : decode cX12_findMeans 26 = .ok (.iastore, 1) := by decide +kernel
theorem dX12_findMeans_27 : decode cX12_findMeans 27 = .ok (.aload_n 0, 1) := by decide +kernel
theorem dX12_findMeans_28 : decode cX12_findMeans 28 = .ok (.getfield 209, 3) := by decide +kernel
theorem dX12_findMeans_31 : decode cX12_findMeans 31 = .ok (.iload_n 1, 1) := by decide +kernel
theorem dX12_findMeans_32 : decode cX12_findMeans 32 = .ok (.aload_n 0, 1) := by decide +kernel
theorem dX12_findMeans_33 : decode cX12_findMeans 33 = .ok (.getfield 308, 3) := by decide +kernel
theorem dX12_findMeans_36 : decode cX12_findMeans 36 = .ok (.iastore, 1) := by decide +kernel
theorem dX12_findMeans_37 : decode cX12_findMeans 37 = .ok (.iinc 1 1, 3) := by decide +kernel
theorem dX12_findMeans_40 : decode cX12_findMeans 40 = .ok (.goto (-34), 3) := by decide +kernel
theorem dX12_findMeans_43 : decode cX12_findMeans 43 = .ok (.return_, 1) := by decide +kernel
theorem dX12_ranked_0 : decode cX12_ranked 0 = .ok (.aload_n 0, 1) := by decide +kernel
theorem dX12_ranked_1 : decode cX12_ranked 1 = .ok (.invokevirtual 321, 3) := by decide +kernel
theorem dX12_ranked_4 : decode cX12_ranked 4 = .ok (.iconst 0, 1) := by decide +kernel
theorem dX12_ranked_5 : decode cX12_ranked 5 = .ok (.istore_n 2, 1) := by decide +kernel
theorem dX12_ranked_6 : decode cX12_ranked 6 = .ok (.iload_n 2, 1) := by decide +kernel
theorem dX12_ranked_7 : decode cX12_ranked 7 = .ok (.bipush 20, 2) := by decide +kernel
theorem dX12_ranked_9 : decode cX12_ranked 9 = .ok (.if_icmp .ge 131, 3) := by decide +kernel
theorem dX12_ranked_12 : decode cX12_ranked 12 = .ok (.aload_n 0, 1) := by decide +kernel
theorem dX12_ranked_13 : decode cX12_ranked 13 = .ok (.getfield 209, 3) := by decide +kernel
theorem dX12_ranked_16 : decode cX12_ranked 16 = .ok (.iload_n 2, 1) := by decide +kernel
theorem dX12_ranked_17 : decode cX12_ranked 17 = .ok (.iaload, 1) := by decide +kernel
theorem dX12_ranked_18 : decode cX12_ranked 18 = .ok (.ifCond .ne 6, 3) := by decide +kernel
theorem dX12_ranked_21 : decode cX12_ranked 21 = .ok (.goto 113, 3) := by decide +kernel
theorem dX12_ranked_24 : decode cX12_ranked 24 = .ok (.iconst 0, 1) := by decide +kernel
theorem dX12_ranked_25 : decode cX12_ranked 25 = .ok (.istore_n 3, 1) := by decide +kernel
theorem dX12_ranked_26 : decode cX12_ranked 26 = .ok (.iconst 0, 1) := by decide +kernel
theorem dX12_ranked_27 : decode cX12_ranked 27 = .ok (.istore 4, 2) := by decide +kernel
theorem dX12_ranked_29 : decode cX12_ranked 29 = .ok (.iload 4, 2) := by decide +kernel
theorem dX12_ranked_31 : decode cX12_ranked 31 = .ok (.bipush 20, 2) := by decide +kernel
theorem dX12_ranked_33 : decode cX12_ranked 33 = .ok (.if_icmp .ge 94, 3) := by decide +kernel
theorem dX12_ranked_36 : decode cX12_ranked 36 = .ok (.aload_n 0, 1) := by decide +kernel
theorem dX12_ranked_37 : decode cX12_ranked 37 = .ok (.getfield 209, 3) := by decide +kernel
theorem dX12_ranked_40 : decode cX12_ranked 40 = .ok (.iload 4, 2) := by decide +kernel
theorem dX12_ranked_42 : decode cX12_ranked 42 = .ok (.iaload, 1) := by decide +kernel
theorem dX12_ranked_43 : decode cX12_ranked 43 = .ok (.ifCond .eq 78, 3) := by decide +kernel
theorem dX12_ranked_46 : decode cX12_ranked 46 = .ok (.iload 4, 2) := by decide +kernel
theorem dX12_ranked_48 : decode cX12_ranked 48 = .ok (.iload_n 2, 1) := by decide +kernel
theorem dX12_ranked_49 : decode cX12_ranked 49 = .ok (.if_icmp .ne 6, 3) := by decide +kernel
theorem dX12_ranked_52 : decode cX12_ranked 52 = .ok (.goto 69, 3) := by decide +kernel
theorem dX12_ranked_55 : decode cX12_ranked 55 = .ok (.aload_n 0, 1) := by decide +kernel
theorem dX12_ranked_56 : decode cX12_ranked 56 = .ok (.getfield 206, 3) := by decide +kernel
theorem dX12_ranked_59 : decode cX12_ranked 59 = .ok (.iload 4, 2) := by decide +kernel
theorem dX12_ranked_61 : decode cX12_ranked 61 = .ok (.iaload, 1) := by decide +kernel
theorem dX12_ranked_62 : decode cX12_ranked 62 = .ok (.i2l, 1) := by decide +kernel
theorem dX12_ranked_63 : decode cX12_ranked 63 = .ok (.aload_n 0, 1) := by decide +kernel
theorem dX12_ranked_64 : decode cX12_ranked 64 = .ok (.getfield 209, 3) := by decide +kernel
theorem dX12_ranked_67 : decode cX12_ranked 67 = .ok (.iload_n 2, 1) := by decide +kernel
theorem dX12_ranked_68 : decode cX12_ranked 68 = .ok (.iaload, 1) := by decide +kernel
theorem dX12_ranked_69 : decode cX12_ranked 69 = .ok (.i2l, 1) := by decide +kernel
theorem dX12_ranked_70 : decode cX12_ranked 70 = .ok (.lmul, 1) := by decide +kernel
theorem dX12_ranked_71 : decode cX12_ranked 71 = .ok (.lstore 5, 2) := by decide +kernel
theorem dX12_ranked_73 : decode cX12_ranked 73 = .ok (.aload_n 0, 1) := by decide +kernel
theorem dX12_ranked_74 : decode cX12_ranked 74 = .ok (.getfield 206, 3) := by decide +kernel
theorem dX12_ranked_77 : decode cX12_ranked 77 = .ok (.iload_n 2, 1) := by decide +kernel
theorem dX12_ranked_78 : decode cX12_ranked 78 = .ok (.iaload, 1) := by decide +kernel
theorem dX12_ranked_79 : decode cX12_ranked 79 = .ok (.i2l, 1) := by decide +kernel
theorem dX12_ranked_80 : decode cX12_ranked 80 = .ok (.aload_n 0, 1) := by decide +kernel
theorem dX12_ranked_81 : decode cX12_ranked 81 = .ok (.getfield 209, 3) := by decide +kernel
theorem dX12_ranked_84 : decode cX12_ranked 84 = .ok (.iload 4, 2) := by decide +kernel
theorem dX12_ranked_86 : decode cX12_ranked 86 = .ok (.iaload, 1) := by decide +kernel
theorem dX12_ranked_87 : decode cX12_ranked 87 = .ok (.i2l, 1) := by decide +kernel
theorem dX12_ranked_88 : decode cX12_ranked 88 = .ok (.lmul, 1) := by decide +kernel
theorem dX12_ranked_89 : decode cX12_ranked 89 = .ok (.lstore 7, 2) := by decide +kernel
theorem dX12_ranked_91 : decode cX12_ranked 91 = .ok (.iload_n 3, 1) := by decide +kernel
theorem dX12_ranked_92 : decode cX12_ranked 92 = .ok (.lload 5, 2) := by decide +kernel
theorem dX12_ranked_94 : decode cX12_ranked 94 = .ok (.lload 7, 2) := by decide +kernel
theorem dX12_ranked_96 : decode cX12_ranked 96 = .ok (.lcmp, 1) := by decide +kernel
theorem dX12_ranked_97 : decode cX12_ranked 97 = .ok (.ifCond .lt 17, 3) := by decide +kernel
theorem dX12_ranked_100 : decode cX12_ranked 100 = .ok (.lload 5, 2) := by decide +kernel
theorem dX12_ranked_102 : decode cX12_ranked 102 = .ok (.lload 7, 2) := by decide +kernel
theorem dX12_ranked_104 : decode cX12_ranked 104 = .ok (.lcmp, 1) := by decide +kernel
theorem dX12_ranked_105 : decode cX12_ranked 105 = .ok (.ifCond .ne 13, 3) := by decide +kernel
theorem dX12_ranked_108 : decode cX12_ranked 108 = .ok (.iload 4, 2) := by decide +kernel
theorem dX12_ranked_110 : decode cX12_ranked 110 = .ok (.iload_n 2, 1) := by decide +kernel
theorem dX12_ranked_111 : decode cX12_ranked 111 = .ok (.if_icmp .ge 7, 3) := by decide +kernel
theorem dX12_ranked_114 : decode cX12_ranked 114 = .ok (.iconst 1, 1) := by decide +kernel
theorem dX12_ranked_115 : decode cX12_ranked 115 = .ok (.goto 4, 3) := by decide +kernel
theorem dX12_ranked_118 : decode cX12_ranked 118 = .ok (.iconst 0, 1) := by decide +kernel
theorem dX12_ranked_119 : decode cX12_ranked 119 = .ok (.iadd, 1) := by decide +kernel
theorem dX12_ranked_120 : decode cX12_ranked 120 = .ok (.istore_n 3, 1) := by decide +kernel
theorem dX12_ranked_121 : decode cX12_ranked 121 = .ok (.iinc 4 1, 3) := by decide +kernel
theorem dX12_ranked_124 : decode cX12_ranked 124 = .ok (.goto (-95), 3) := by decide +kernel
theorem dX12_ranked_127 : decode cX12_ranked 127 = .ok (.iload_n 3, 1) := by decide +kernel
theorem dX12_ranked_128 : decode cX12_ranked 128 = .ok (.iload_n 1, 1) := by decide +kernel
theorem dX12_ranked_129 : decode cX12_ranked 129 = .ok (.if_icmp .ne 5, 3) := by decide +kernel
theorem dX12_ranked_132 : decode cX12_ranked 132 = .ok (.iload_n 2, 1) := by decide +kernel
theorem dX12_ranked_133 : decode cX12_ranked 133 = .ok (.ireturn, 1) := by decide +kernel
theorem dX12_ranked_134 : decode cX12_ranked 134 = .ok (.iinc 2 1, 3) := by decide +kernel
theorem dX12_ranked_137 : decode cX12_ranked 137 = .ok (.goto (-131), 3) := by decide +kernel
theorem dX12_ranked_140 : decode cX12_ranked 140 = .ok (.iconst (-1), 1) := by decide +kernel
theorem dX12_ranked_141 : decode cX12_ranked 141 = .ok (.ireturn, 1) := by decide +kernel
theorem dX12_expects_0 : decode cX12_expects 0 = .ok (.iload_n 1, 1) := by decide +kernel
theorem dX12_expects_1 : decode cX12_expects 1 = .ok (.aload_n 0, 1) := by decide +kernel
theorem dX12_expects_2 : decode cX12_expects 2 = .ok (.getfield 146, 3) := by decide +kernel
theorem dX12_expects_5 : decode cX12_expects 5 = .ok (.iload_n 2, 1) := by decide +kernel
theorem dX12_expects_6 : decode cX12_expects 6 = .ok (.iaload, 1) := by decide +kernel
theorem dX12_expects_7 : decode cX12_expects 7 = .ok (.imul, 1) := by decide +kernel
theorem dX12_expects_8 : decode cX12_expects 8 = .ok (.bipush 10, 2) := by decide +kernel
theorem dX12_expects_10 : decode cX12_expects 10 = .ok (.iload_n 1, 1) := by decide +kernel
theorem dX12_expects_11 : decode cX12_expects 11 = .ok (.isub, 1) := by decide +kernel
theorem dX12_expects_12 : decode cX12_expects 12 = .ok (.aload_n 0, 1) := by decide +kernel
theorem dX12_expects_13 : decode cX12_expects 13 = .ok (.getfield 149, 3) := by decide +kernel
theorem dX12_expects_16 : decode cX12_expects 16 = .ok (.iload_n 2, 1) := by decide +kernel
theorem dX12_expects_17 : decode cX12_expects 17 = .ok (.iaload, 1) := by decide +kernel
theorem dX12_expects_18 : decode cX12_expects 18 = .ok (.imul, 1) := by decide +kernel
theorem dX12_expects_19 : decode cX12_expects 19 = .ok (.iadd, 1) := by decide +kernel
theorem dX12_expects_20 : decode cX12_expects 20 = .ok (.ireturn, 1) := by decide +kernel
theorem dX12_paysFor_0 : decode cX12_paysFor 0 = .ok (.iconst 0, 1) := by decide +kernel
theorem dX12_paysFor_1 : decode cX12_paysFor 1 = .ok (.istore_n 2, 1) := by decide +kernel
theorem dX12_paysFor_2 : decode cX12_paysFor 2 = .ok (.iconst 1, 1) := by decide +kernel
theorem dX12_paysFor_3 : decode cX12_paysFor 3 = .ok (.istore_n 3, 1) := by decide +kernel
theorem dX12_paysFor_4 : decode cX12_paysFor 4 = .ok (.iload_n 3, 1) := by decide +kernel
theorem dX12_paysFor_5 : decode cX12_paysFor 5 = .ok (.bipush 11, 2) := by decide +kernel
theorem dX12_paysFor_7 : decode cX12_paysFor 7 = .ok (.if_icmp .ge 26, 3) := by decide +kernel
theorem dX12_paysFor_10 : decode cX12_paysFor 10 = .ok (.aload_n 0, 1) := by decide +kernel
theorem dX12_paysFor_11 : decode cX12_paysFor 11 = .ok (.iload_n 1, 1) := by decide +kernel
theorem dX12_paysFor_12 : decode cX12_paysFor 12 = .ok (.iload_n 3, 1) := by decide +kernel
theorem dX12_paysFor_13 : decode cX12_paysFor 13 = .ok (.invokevirtual 324, 3) := by decide +kernel
theorem dX12_paysFor_16 : decode cX12_paysFor 16 = .ok (.aload_n 0, 1) := by decide +kernel
theorem dX12_paysFor_17 : decode cX12_paysFor 17 = .ok (.iload_n 1, 1) := by decide +kernel
theorem dX12_paysFor_18 : decode cX12_paysFor 18 = .ok (.iload_n 2, 1) := by decide +kernel
theorem dX12_paysFor_19 : decode cX12_paysFor 19 = .ok (.invokevirtual 324, 3) := by decide +kernel
theorem dX12_paysFor_22 : decode cX12_paysFor 22 = .ok (.if_icmp .ge 5, 3) := by decide +kernel
theorem dX12_paysFor_25 : decode cX12_paysFor 25 = .ok (.iload_n 3, 1) := by decide +kernel
theorem dX12_paysFor_26 : decode cX12_paysFor 26 = .ok (.istore_n 2, 1) := by decide +kernel
theorem dX12_paysFor_27 : decode cX12_paysFor 27 = .ok (.iinc 3 1, 3) := by decide +kernel
theorem dX12_paysFor_30 : decode cX12_paysFor 30 = .ok (.goto (-26), 3) := by decide +kernel
theorem dX12_paysFor_33 : decode cX12_paysFor 33 = .ok (.iload_n 2, 1) := by decide +kernel
theorem dX12_paysFor_34 : decode cX12_paysFor 34 = .ok (.ireturn, 1) := by decide +kernel
theorem dX12_pays_0 : decode cX12_pays 0 = .ok (.iload_n 1, 1) := by decide +kernel
theorem dX12_pays_1 : decode cX12_pays 1 = .ok (.i2l, 1) := by decide +kernel
theorem dX12_pays_2 : decode cX12_pays 2 = .ok (.lconst 0, 1) := by decide +kernel
theorem dX12_pays_3 : decode cX12_pays 3 = .ok (.ldc2_w 244, 3) := by decide +kernel
theorem dX12_pays_6 : decode cX12_pays 6 = .ok (.invokestatic 5, 3) := by decide +kernel
theorem dX12_pays_9 : decode cX12_pays 9 = .ok (.ifCond .eq 11, 3) := by decide +kernel
theorem dX12_pays_12 : decode cX12_pays 12 = .ok (.aload_n 0, 1) := by decide +kernel
theorem dX12_pays_13 : decode cX12_pays 13 = .ok (.iload_n 1, 1) := by decide +kernel
theorem dX12_pays_14 : decode cX12_pays 14 = .ok (.invokevirtual 327, 3) := by decide +kernel
theorem dX12_pays_17 : decode cX12_pays 17 = .ok (.goto 5, 3) := by decide +kernel
theorem dX12_pays_20 : decode cX12_pays 20 = .ok (.bipush (-2), 2) := by decide +kernel
theorem dX12_pays_22 : decode cX12_pays 22 = .ok (.ireturn, 1) := by decide +kernel
theorem dX12_honest_0 : decode cX12_honest 0 = .ok (.iconst 0, 1) := by decide +kernel
theorem dX12_honest_1 : decode cX12_honest 1 = .ok (.istore_n 1, 1) := by decide +kernel
theorem dX12_honest_2 : decode cX12_honest 2 = .ok (.iload_n 1, 1) := by decide +kernel
theorem dX12_honest_3 : decode cX12_honest 3 = .ok (.bipush 11, 2) := by decide +kernel
theorem dX12_honest_5 : decode cX12_honest 5 = .ok (.if_icmp .ge 45, 3) := by decide +kernel
theorem dX12_honest_8 : decode cX12_honest 8 = .ok (.iconst 0, 1) := by decide +kernel
theorem dX12_honest_9 : decode cX12_honest 9 = .ok (.istore_n 2, 1) := by decide +kernel
theorem dX12_honest_10 : decode cX12_honest 10 = .ok (.iload_n 2, 1) := by decide +kernel
theorem dX12_honest_11 : decode cX12_honest 11 = .ok (.bipush 11, 2) := by decide +kernel
theorem dX12_honest_13 : decode cX12_honest 13 = .ok (.if_icmp .ge 31, 3) := by decide +kernel
theorem dX12_honest_16 : decode cX12_honest 16 = .ok (.iload_n 2, 1) := by decide +kernel
theorem dX12_honest_17 : decode cX12_honest 17 = .ok (.iload_n 1, 1) := by decide +kernel
theorem dX12_honest_18 : decode cX12_honest 18 = .ok (.if_icmp .eq 20, 3) := by decide +kernel
theorem dX12_honest_21 : decode cX12_honest 21 = .ok (.aload_n 0, 1) := by decide +kernel
theorem dX12_honest_22 : decode cX12_honest 22 = .ok (.iload_n 1, 1) := by decide +kernel
theorem dX12_honest_23 : decode cX12_honest 23 = .ok (.iload_n 2, 1) := by decide +kernel
theorem dX12_honest_24 : decode cX12_honest 24 = .ok (.invokevirtual 324, 3) := by decide +kernel
theorem dX12_honest_27 : decode cX12_honest 27 = .ok (.aload_n 0, 1) := by decide +kernel
theorem dX12_honest_28 : decode cX12_honest 28 = .ok (.iload_n 1, 1) := by decide +kernel
theorem dX12_honest_29 : decode cX12_honest 29 = .ok (.iload_n 1, 1) := by decide +kernel
theorem dX12_honest_30 : decode cX12_honest 30 = .ok (.invokevirtual 324, 3) := by decide +kernel
theorem dX12_honest_33 : decode cX12_honest 33 = .ok (.if_icmp .gt 5, 3) := by decide +kernel
theorem dX12_honest_36 : decode cX12_honest 36 = .ok (.iload_n 1, 1) := by decide +kernel
theorem dX12_honest_37 : decode cX12_honest 37 = .ok (.ireturn, 1) := by decide +kernel
theorem dX12_honest_38 : decode cX12_honest 38 = .ok (.iinc 2 1, 3) := by decide +kernel
theorem dX12_honest_41 : decode cX12_honest 41 = .ok (.goto (-31), 3) := by decide +kernel
theorem dX12_honest_44 : decode cX12_honest 44 = .ok (.iinc 1 1, 3) := by decide +kernel
theorem dX12_honest_47 : decode cX12_honest 47 = .ok (.goto (-45), 3) := by decide +kernel
theorem dX12_honest_50 : decode cX12_honest 50 = .ok (.iconst (-1), 1) := by decide +kernel
theorem dX12_honest_51 : decode cX12_honest 51 = .ok (.ireturn, 1) := by decide +kernel
theorem dX12_copies_0 : decode cX12_copies 0 = .ok (.iload_n 1, 1) := by decide +kernel
theorem dX12_copies_1 : decode cX12_copies 1 = .ok (.invokestatic 265, 3) := by decide +kernel
theorem dX12_copies_4 : decode cX12_copies 4 = .ok (.ifCond .eq 15, 3) := by decide +kernel
theorem dX12_copies_7 : decode cX12_copies 7 = .ok (.iload_n 2, 1) := by decide +kernel
theorem dX12_copies_8 : decode cX12_copies 8 = .ok (.invokestatic 265, 3) := by decide +kernel
theorem dX12_copies_11 : decode cX12_copies 11 = .ok (.ifCond .eq 8, 3) := by decide +kernel
theorem dX12_copies_14 : decode cX12_copies 14 = .ok (.iload_n 1, 1) := by decide +kernel
theorem dX12_copies_15 : decode cX12_copies 15 = .ok (.iload_n 2, 1) := by decide +kernel
theorem dX12_copies_16 : decode cX12_copies 16 = .ok (.if_icmp .ne 6, 3) := by decide +kernel
theorem dX12_copies_19 : decode cX12_copies 19 = .ok (.bipush (-2), 2) := by decide +kernel
theorem dX12_copies_21 : decode cX12_copies 21 = .ok (.ireturn, 1) := by decide +kernel
theorem dX12_copies_22 : decode cX12_copies 22 = .ok (.aload_n 0, 1) := by decide +kernel
theorem dX12_copies_23 : decode cX12_copies 23 = .ok (.getfield 138, 3) := by decide +kernel
theorem dX12_copies_26 : decode cX12_copies 26 = .ok (.iconst (-1), 1) := by decide +kernel
theorem dX12_copies_27 : decode cX12_copies 27 = .ok (.if_icmp .ne 6, 3) := by decide +kernel
theorem dX12_copies_30 : decode cX12_copies 30 = .ok (.bipush (-4), 2) := by decide +kernel
theorem dX12_copies_32 : decode cX12_copies 32 = .ok (.ireturn, 1) := by decide +kernel
theorem dX12_copies_33 : decode cX12_copies 33 = .ok (.aload_n 0, 1) := by decide +kernel
theorem dX12_copies_34 : decode cX12_copies 34 = .ok (.invokevirtual 330, 3) := by decide +kernel
theorem dX12_copies_37 : decode cX12_copies 37 = .ok (.aload_n 0, 1) := by decide +kernel
theorem dX12_copies_38 : decode cX12_copies 38 = .ok (.iload_n 1, 1) := by decide +kernel
theorem dX12_copies_39 : decode cX12_copies 39 = .ok (.iload_n 2, 1) := by decide +kernel
theorem dX12_copies_40 : decode cX12_copies 40 = .ok (.sipush 999, 3) := by decide +kernel
theorem dX12_copies_43 : decode cX12_copies 43 = .ok (.invokevirtual 333, 3) := by decide +kernel
theorem dX12_copies_46 : decode cX12_copies 46 = .ok (.ireturn, 1) := by decide +kernel
theorem dX12_weightOn_0 : decode cX12_weightOn 0 = .ok (.aload_n 0, 1) := by decide +kernel
theorem dX12_weightOn_1 : decode cX12_weightOn 1 = .ok (.getfield 242, 3) := by decide +kernel
theorem dX12_weightOn_4 : decode cX12_weightOn 4 = .ok (.ifCond .ne 5, 3) := by decide +kernel
theorem dX12_weightOn_7 : decode cX12_weightOn 7 = .ok (.iconst 1, 1) := by decide +kernel
theorem dX12_weightOn_8 : decode cX12_weightOn 8 = .ok (.ireturn, 1) := by decide +kernel
theorem dX12_weightOn_9 : decode cX12_weightOn 9 = .ok (.iconst 0, 1) := by decide +kernel
theorem dX12_weightOn_10 : decode cX12_weightOn 10 = .ok (.istore_n 3, 1) := by decide +kernel
theorem dX12_weightOn_11 : decode cX12_weightOn 11 = .ok (.iconst 0, 1) := by decide +kernel
theorem dX12_weightOn_12 : decode cX12_weightOn 12 = .ok (.istore 4, 2) := by decide +kernel
theorem dX12_weightOn_14 : decode cX12_weightOn 14 = .ok (.iconst 0, 1) := by decide +kernel
theorem dX12_weightOn_15 : decode cX12_weightOn 15 = .ok (.istore 5, 2) := by decide +kernel
theorem dX12_weightOn_17 : decode cX12_weightOn 17 = .ok (.iload 5, 2) := by decide +kernel
theorem dX12_weightOn_19 : decode cX12_weightOn 19 = .ok (.aload_n 0, 1) := by decide +kernel
theorem dX12_weightOn_20 : decode cX12_weightOn 20 = .ok (.getfield 252, 3) := by decide +kernel
theorem dX12_weightOn_23 : decode cX12_weightOn 23 = .ok (.if_icmp .ge 63, 3) := by decide +kernel
theorem dX12_weightOn_26 : decode cX12_weightOn 26 = .ok (.aload_n 0, 1) := by decide +kernel
theorem dX12_weightOn_27 : decode cX12_weightOn 27 = .ok (.iload_n 1, 1) := by decide +kernel
theorem dX12_weightOn_28 : decode cX12_weightOn 28 = .ok (.iload 5, 2) := by decide +kernel
theorem dX12_weightOn_30 : decode cX12_weightOn 30 = .ok (.invokevirtual 311, 3) := by decide +kernel
theorem dX12_weightOn_33 : decode cX12_weightOn 33 = .ok (.ifCond .eq 47, 3) := by decide +kernel
theorem dX12_weightOn_36 : decode cX12_weightOn 36 = .ok (.aload_n 0, 1) := by decide +kernel
theorem dX12_weightOn_37 : decode cX12_weightOn 37 = .ok (.getfield 164, 3) := by decide +kernel
theorem dX12_weightOn_40 : decode cX12_weightOn 40 = .ok (.iload 5, 2) := by decide +kernel
theorem dX12_weightOn_42 : decode cX12_weightOn 42 = .ok (.iaload, 1) := by decide +kernel
theorem dX12_weightOn_43 : decode cX12_weightOn 43 = .ok (.iload_n 2, 1) := by decide +kernel
theorem dX12_weightOn_44 : decode cX12_weightOn 44 = .ok (.if_icmp .lt 6, 3) := by decide +kernel
theorem dX12_weightOn_47 : decode cX12_weightOn 47 = .ok (.goto 33, 3) := by decide +kernel
theorem dX12_weightOn_50 : decode cX12_weightOn 50 = .ok (.iload_n 3, 1) := by decide +kernel
theorem dX12_weightOn_51 : decode cX12_weightOn 51 = .ok (.aload_n 0, 1) := by decide +kernel
theorem dX12_weightOn_52 : decode cX12_weightOn 52 = .ok (.getfield 197, 3) := by decide +kernel
theorem dX12_weightOn_55 : decode cX12_weightOn 55 = .ok (.iload_n 1, 1) := by decide +kernel
theorem dX12_weightOn_56 : decode cX12_weightOn 56 = .ok (.iload 5, 2) := by decide +kernel
theorem dX12_weightOn_58 : decode cX12_weightOn 58 = .ok (.invokestatic 275, 3) := by decide +kernel
theorem dX12_weightOn_61 : decode cX12_weightOn 61 = .ok (.iaload, 1) := by decide +kernel
theorem dX12_weightOn_62 : decode cX12_weightOn 62 = .ok (.iadd, 1) := by decide +kernel
theorem dX12_weightOn_63 : decode cX12_weightOn 63 = .ok (.istore_n 3, 1) := by decide +kernel
theorem dX12_weightOn_64 : decode cX12_weightOn 64 = .ok (.iload 4, 2) := by decide +kernel
theorem dX12_weightOn_66 : decode cX12_weightOn 66 = .ok (.aload_n 0, 1) := by decide +kernel
theorem dX12_weightOn_67 : decode cX12_weightOn 67 = .ok (.getfield 194, 3) := by decide +kernel
theorem dX12_weightOn_70 : decode cX12_weightOn 70 = .ok (.iload_n 1, 1) := by decide +kernel
theorem dX12_weightOn_71 : decode cX12_weightOn 71 = .ok (.iload 5, 2) := by decide +kernel
theorem dX12_weightOn_73 : decode cX12_weightOn 73 = .ok (.invokestatic 275, 3) := by decide +kernel
theorem dX12_weightOn_76 : decode cX12_weightOn 76 = .ok (.iaload, 1) := by decide +kernel
theorem dX12_weightOn_77 : decode cX12_weightOn 77 = .ok (.iadd, 1) := by decide +kernel
theorem dX12_weightOn_78 : decode cX12_weightOn 78 = .ok (.istore 4, 2) := by decide +kernel
theorem dX12_weightOn_80 : decode cX12_weightOn 80 = .ok (.iinc 5 1, 3) := by decide +kernel
theorem dX12_weightOn_83 : decode cX12_weightOn 83 = .ok (.goto (-66), 3) := by decide +kernel
theorem dX12_weightOn_86 : decode cX12_weightOn 86 = .ok (.iload_n 3, 1) := by decide +kernel
theorem dX12_weightOn_87 : decode cX12_weightOn 87 = .ok (.ifCond .eq 9, 3) := by decide +kernel
theorem dX12_weightOn_90 : decode cX12_weightOn 90 = .ok (.iload 4, 2) := by decide +kernel
theorem dX12_weightOn_92 : decode cX12_weightOn 92 = .ok (.iload_n 3, 1) := by decide +kernel
theorem dX12_weightOn_93 : decode cX12_weightOn 93 = .ok (.if_icmp .le 7, 3) := by decide +kernel
theorem dX12_weightOn_96 : decode cX12_weightOn 96 = .ok (.iconst 1, 1) := by decide +kernel
theorem dX12_weightOn_97 : decode cX12_weightOn 97 = .ok (.goto 18, 3) := by decide +kernel
theorem dX12_weightOn_100 : decode cX12_weightOn 100 = .ok (.iconst 1, 1) := by decide +kernel
theorem dX12_weightOn_101 : decode cX12_weightOn 101 = .ok (.ldc2_w 336, 3) := by decide +kernel
theorem dX12_weightOn_104 : decode cX12_weightOn 104 = .ok (.iload_n 3, 1) := by decide +kernel
theorem dX12_weightOn_105 : decode cX12_weightOn 105 = .ok (.iload 4, 2) := by decide +kernel
theorem dX12_weightOn_107 : decode cX12_weightOn 107 = .ok (.isub, 1) := by decide +kernel
theorem dX12_weightOn_108 : decode cX12_weightOn 108 = .ok (.i2l, 1) := by decide +kernel
theorem dX12_weightOn_109 : decode cX12_weightOn 109 = .ok (.lmul, 1) := by decide +kernel
theorem dX12_weightOn_110 : decode cX12_weightOn 110 = .ok (.iload_n 3, 1) := by decide +kernel
theorem dX12_weightOn_111 : decode cX12_weightOn 111 = .ok (.i2l, 1) := by decide +kernel
theorem dX12_weightOn_112 : decode cX12_weightOn 112 = .ok (.ldiv, 1) := by decide +kernel
theorem dX12_weightOn_113 : decode cX12_weightOn 113 = .ok (.l2i, 1) := by decide +kernel
theorem dX12_weightOn_114 : decode cX12_weightOn 114 = .ok (.iadd, 1) := by decide +kernel
theorem dX12_weightOn_115 : decode cX12_weightOn 115 = .ok (.ireturn, 1) := by decide +kernel
theorem dX12_weight_0 : decode cX12_weight 0 = .ok (.iload_n 1, 1) := by decide +kernel
theorem dX12_weight_1 : decode cX12_weight 1 = .ok (.invokestatic 265, 3) := by decide +kernel
theorem dX12_weight_4 : decode cX12_weight 4 = .ok (.ifCond .eq 10, 3) := by decide +kernel
theorem dX12_weight_7 : decode cX12_weight 7 = .ok (.iload_n 2, 1) := by decide +kernel
theorem dX12_weight_8 : decode cX12_weight 8 = .ok (.invokestatic 257, 3) := by decide +kernel
theorem dX12_weight_11 : decode cX12_weight 11 = .ok (.ifCond .ne 6, 3) := by decide +kernel
theorem dX12_weight_14 : decode cX12_weight 14 = .ok (.bipush (-2), 2) := by decide +kernel
theorem dX12_weight_16 : decode cX12_weight 16 = .ok (.ireturn, 1) := by decide +kernel
theorem dX12_weight_17 : decode cX12_weight 17 = .ok (.aload_n 0, 1) := by decide +kernel
theorem dX12_weight_18 : decode cX12_weight 18 = .ok (.invokevirtual 302, 3) := by decide +kernel
theorem dX12_weight_21 : decode cX12_weight 21 = .ok (.aload_n 0, 1) := by decide +kernel
theorem dX12_weight_22 : decode cX12_weight 22 = .ok (.iload_n 1, 1) := by decide +kernel
theorem dX12_weight_23 : decode cX12_weight 23 = .ok (.iload_n 2, 1) := by decide +kernel
theorem dX12_weight_24 : decode cX12_weight 24 = .ok (.invokevirtual 338, 3) := by decide +kernel
theorem dX12_weight_27 : decode cX12_weight 27 = .ok (.ireturn, 1) := by decide +kernel
theorem dX12_isCopier_0 : decode cX12_isCopier 0 = .ok (.aload_n 0, 1) := by decide +kernel
theorem dX12_isCopier_1 : decode cX12_isCopier 1 = .ok (.getfield 138, 3) := by decide +kernel
theorem dX12_isCopier_4 : decode cX12_isCopier 4 = .ok (.iconst (-1), 1) := by decide +kernel
theorem dX12_isCopier_5 : decode cX12_isCopier 5 = .ok (.if_icmp .ne 5, 3) := by decide +kernel
theorem dX12_isCopier_8 : decode cX12_isCopier 8 = .ok (.iconst 0, 1) := by decide +kernel
theorem dX12_isCopier_9 : decode cX12_isCopier 9 = .ok (.ireturn, 1) := by decide +kernel
theorem dX12_isCopier_10 : decode cX12_isCopier 10 = .ok (.iconst 0, 1) := by decide +kernel
theorem dX12_isCopier_11 : decode cX12_isCopier 11 = .ok (.istore 4, 2) := by decide +kernel
theorem dX12_isCopier_13 : decode cX12_isCopier 13 = .ok (.iload 4, 2) := by decide +kernel
theorem dX12_isCopier_15 : decode cX12_isCopier 15 = .ok (.bipush 20, 2) := by decide +kernel
theorem dX12_isCopier_17 : decode cX12_isCopier 17 = .ok (.if_icmp .ge 44, 3) := by decide +kernel
theorem dX12_isCopier_20 : decode cX12_isCopier 20 = .ok (.iload 4, 2) := by decide +kernel
theorem dX12_isCopier_22 : decode cX12_isCopier 22 = .ok (.iload_n 1, 1) := by decide +kernel
theorem dX12_isCopier_23 : decode cX12_isCopier 23 = .ok (.if_icmp .eq 32, 3) := by decide +kernel
theorem dX12_isCopier_26 : decode cX12_isCopier 26 = .ok (.aload_n 0, 1) := by decide +kernel
theorem dX12_isCopier_27 : decode cX12_isCopier 27 = .ok (.iload 4, 2) := by decide +kernel
theorem dX12_isCopier_29 : decode cX12_isCopier 29 = .ok (.iload_n 2, 1) := by decide +kernel
theorem dX12_isCopier_30 : decode cX12_isCopier 30 = .ok (.iload_n 3, 1) := by decide +kernel
theorem dX12_isCopier_31 : decode cX12_isCopier 31 = .ok (.invokevirtual 283, 3) := by decide +kernel
theorem dX12_isCopier_34 : decode cX12_isCopier 34 = .ok (.iconst (-1), 1) := by decide +kernel
theorem dX12_isCopier_35 : decode cX12_isCopier 35 = .ok (.if_icmp .eq 20, 3) := by decide +kernel
theorem dX12_isCopier_38 : decode cX12_isCopier 38 = .ok (.aload_n 0, 1) := by decide +kernel
theorem dX12_isCopier_39 : decode cX12_isCopier 39 = .ok (.iload_n 1, 1) := by decide +kernel
theorem dX12_isCopier_40 : decode cX12_isCopier 40 = .ok (.iload 4, 2) := by decide +kernel
theorem dX12_isCopier_42 : decode cX12_isCopier 42 = .ok (.iload_n 3, 1) := by decide +kernel
theorem dX12_isCopier_43 : decode cX12_isCopier 43 = .ok (.invokevirtual 333, 3) := by decide +kernel
theorem dX12_isCopier_46 : decode cX12_isCopier 46 = .ok (.aload_n 0, 1) := by decide +kernel
theorem dX12_isCopier_47 : decode cX12_isCopier 47 = .ok (.getfield 141, 3) := by decide +kernel
theorem dX12_isCopier_50 : decode cX12_isCopier 50 = .ok (.if_icmp .lt 5, 3) := by decide +kernel
theorem dX12_isCopier_53 : decode cX12_isCopier 53 = .ok (.iconst 1, 1) := by decide +kernel
theorem dX12_isCopier_54 : decode cX12_isCopier 54 = .ok (.ireturn, 1) := by decide +kernel
theorem dX12_isCopier_55 : decode cX12_isCopier 55 = .ok (.iinc 4 1, 3) := by decide +kernel
theorem dX12_isCopier_58 : decode cX12_isCopier 58 = .ok (.goto (-45), 3) := by decide +kernel
theorem dX12_isCopier_61 : decode cX12_isCopier 61 = .ok (.iconst 0, 1) := by decide +kernel
theorem dX12_isCopier_62 : decode cX12_isCopier 62 = .ok (.ireturn, 1) := by decide +kernel
theorem dX12_joinedOn_0 : decode cX12_joinedOn 0 = .ok (.iconst 0, 1) := by decide +kernel
theorem dX12_joinedOn_1 : decode cX12_joinedOn 1 = .ok (.istore_n 3, 1) := by decide +kernel
theorem dX12_joinedOn_2 : decode cX12_joinedOn 2 = .ok (.iconst 0, 1) := by decide +kernel
theorem dX12_joinedOn_3 : decode cX12_joinedOn 3 = .ok (.istore 4, 2) := by decide +kernel
theorem dX12_joinedOn_5 : decode cX12_joinedOn 5 = .ok (.iload 4, 2) := by decide +kernel
theorem dX12_joinedOn_7 : decode cX12_joinedOn 7 = .ok (.bipush 11, 2) := by decide +kernel
theorem dX12_joinedOn_9 : decode cX12_joinedOn 9 = .ok (.if_icmp .ge 17, 3) := by decide +kernel
theorem dX12_joinedOn_12 : decode cX12_joinedOn 12 = .ok (.aload_n 0, 1) := by decide +kernel
theorem dX12_joinedOn_13 : decode cX12_joinedOn 13 = .ok (.getfield 212, 3) := by decide +kernel
theorem dX12_joinedOn_16 : decode cX12_joinedOn 16 = .ok (.iload 4, 2) := by decide +kernel
theorem dX12_joinedOn_18 : decode cX12_joinedOn 18 = .ok (.iconst 0, 1) := by decide +kernel
theorem dX12_joinedOn_19 : decode cX12_joinedOn 19 = .ok (.iastore, 1) := by decide +kernel
theorem dX12_joinedOn_20 : decode cX12_joinedOn 20 = .ok (.iinc 4 1, 3) := by decide +kernel
theorem dX12_joinedOn_23 : decode cX12_joinedOn 23 = .ok (.goto (-18), 3) := by decide +kernel
theorem dX12_joinedOn_26 : decode cX12_joinedOn 26 = .ok (.iconst 0, 1) := by decide +kernel
theorem dX12_joinedOn_27 : decode cX12_joinedOn 27 = .ok (.istore 4, 2) := by decide +kernel
theorem dX12_joinedOn_29 : decode cX12_joinedOn 29 = .ok (.iload 4, 2) := by decide +kernel
theorem dX12_joinedOn_31 : decode cX12_joinedOn 31 = .ok (.bipush 20, 2) := by decide +kernel
