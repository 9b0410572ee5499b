theorem dX12_end_3 : decode cX12_end 3 = .ok (.aload_n 0, 1) := by decide +kernel
theorem dX12_end_4 : decode cX12_end 4 = .ok (.getfield 231, 3) := by decide +kernel
theorem dX12_end_7 : decode cX12_end 7 = .ok (.i2l, 1) := by decide +kernel
theorem dX12_end_8 : decode cX12_end 8 = .ok (.invokestatic 5, 3) := by decide +kernel
theorem dX12_end_11 : decode cX12_end 11 = .ok (.ifCond .ne 5, 3) := by decide +kernel
theorem dX12_end_14 : decode cX12_end 14 = .ok (.iconst (-1), 1) := by decide +kernel
theorem dX12_end_15 : decode cX12_end 15 = .ok (.ireturn, 1) := by decide +kernel
theorem dX12_end_16 : decode cX12_end 16 = .ok (.aload_n 0, 1) := by decide +kernel
theorem dX12_end_17 : decode cX12_end 17 = .ok (.iload_n 1, 1) := by decide +kernel
theorem dX12_end_18 : decode cX12_end 18 = .ok (.putfield 231, 3) := by decide +kernel
theorem dX12_end_21 : decode cX12_end 21 = .ok (.iload_n 1, 1) := by decide +kernel
theorem dX12_end_22 : decode cX12_end 22 = .ok (.ireturn, 1) := by decide +kernel
theorem dX12_rules_0 : decode cX12_rules 0 = .ok (.aload_n 0, 1) := by decide +kernel
theorem dX12_rules_1 : decode cX12_rules 1 = .ok (.aload_n 0, 1) := by decide +kernel
theorem dX12_rules_2 : decode cX12_rules 2 = .ok (.getfield 231, 3) := by decide +kernel
theorem dX12_rules_5 : decode cX12_rules 5 = .ok (.putfield 23, 3) := by decide +kernel
theorem dX12_rules_8 : decode cX12_rules 8 = .ok (.aload_n 0, 1) := by decide +kernel
theorem dX12_rules_9 : decode cX12_rules 9 = .ok (.iconst 0, 1) := by decide +kernel
theorem dX12_rules_10 : decode cX12_rules 10 = .ok (.putfield 231, 3) := by decide +kernel
theorem dX12_rules_13 : decode cX12_rules 13 = .ok (.aload_n 0, 1) := by decide +kernel
theorem dX12_rules_14 : decode cX12_rules 14 = .ok (.iconst 0, 1) := by decide +kernel
theorem dX12_rules_15 : decode cX12_rules 15 = .ok (.putfield 30, 3) := by decide +kernel
theorem dX12_rules_18 : decode cX12_rules 18 = .ok (.aload_n 0, 1) := by decide +kernel
theorem dX12_rules_19 : decode cX12_rules 19 = .ok (.iconst 0, 1) := by decide +kernel
theorem dX12_rules_20 : decode cX12_rules 20 = .ok (.putfield 9, 3) := by decide +kernel
theorem dX12_rules_23 : decode cX12_rules 23 = .ok (.aload_n 0, 1) := by decide +kernel
theorem dX12_rules_24 : decode cX12_rules 24 = .ok (.iconst (-1), 1) := by decide +kernel
theorem dX12_rules_25 : decode cX12_rules 25 = .ok (.putfield 16, 3) := by decide +kernel
theorem dX12_rules_28 : decode cX12_rules 28 = .ok (.aload_n 0, 1) := by decide +kernel
theorem dX12_rules_29 : decode cX12_rules 29 = .ok (.invokevirtual 64, 3) := by decide +kernel
theorem dX12_rules_32 : decode cX12_rules 32 = .ok (.aload_n 0, 1) := by decide +kernel
theorem dX12_rules_33 : decode cX12_rules 33 = .ok (.invokevirtual 237, 3) := by decide +kernel
theorem dX12_rules_36 : decode cX12_rules 36 = .ok (.istore_n 1, 1) := by decide +kernel
theorem dX12_rules_37 : decode cX12_rules 37 = .ok (.goto 6, 3) := by decide +kernel
theorem dX12_rules_40 : decode cX12_rules 40 = .ok (.astore_n 2, 1) := by decide +kernel
theorem dX12_rules_41 : decode cX12_rules 41 = .ok (.iconst (-1), 1) := by decide +kernel
theorem dX12_rules_42 : decode cX12_rules 42 = .ok (.ireturn, 1) := by decide +kernel
theorem dX12_rules_43 : decode cX12_rules 43 = .ok (.iconst 0, 1) := by decide +kernel
theorem dX12_rules_44 : decode cX12_rules 44 = .ok (.istore_n 2, 1) := by decide +kernel
theorem dX12_rules_45 : decode cX12_rules 45 = .ok (.iload_n 2, 1) := by decide +kernel
theorem dX12_rules_46 : decode cX12_rules 46 = .ok (.bipush 11, 2) := by decide +kernel
theorem dX12_rules_48 : decode cX12_rules 48 = .ok (.if_icmp .ge 33, 3) := by decide +kernel
theorem dX12_rules_51 : decode cX12_rules 51 = .ok (.aload_n 0, 1) := by decide +kernel
theorem dX12_rules_52 : decode cX12_rules 52 = .ok (.getfield 146, 3) := by decide +kernel
theorem dX12_rules_55 : decode cX12_rules 55 = .ok (.iload_n 2, 1) := by decide +kernel
theorem dX12_rules_56 : decode cX12_rules 56 = .ok (.aload_n 0, 1) := by decide +kernel
theorem dX12_rules_57 : decode cX12_rules 57 = .ok (.getfield 84, 3) := by decide +kernel
theorem dX12_rules_60 : decode cX12_rules 60 = .ok (.iload_n 2, 1) := by decide +kernel
theorem dX12_rules_61 : decode cX12_rules 61 = .ok (.iaload, 1) := by decide +kernel
theorem dX12_rules_62 : decode cX12_rules 62 = .ok (.iastore, 1) := by decide +kernel
theorem dX12_rules_63 : decode cX12_rules 63 = .ok (.aload_n 0, 1) := by decide +kernel
theorem dX12_rules_64 : decode cX12_rules 64 = .ok (.getfield 149, 3) := by decide +kernel
theorem dX12_rules_67 : decode cX12_rules 67 = .ok (.iload_n 2, 1) := by decide +kernel
theorem dX12_rules_68 : decode cX12_rules 68 = .ok (.aload_n 0, 1) := by decide +kernel
theorem dX12_rules_69 : decode cX12_rules 69 = .ok (.getfield 88, 3) := by decide +kernel
theorem dX12_rules_72 : decode cX12_rules 72 = .ok (.iload_n 2, 1) := by decide +kernel
theorem dX12_rules_73 : decode cX12_rules 73 = .ok (.iaload, 1) := by decide +kernel
theorem dX12_rules_74 : decode cX12_rules 74 = .ok (.iastore, 1) := by decide +kernel
theorem dX12_rules_75 : decode cX12_rules 75 = .ok (.iinc 2 1, 3) := by decide +kernel
theorem dX12_rules_78 : decode cX12_rules 78 = .ok (.goto (-33), 3) := by decide +kernel
theorem dX12_rules_81 : decode cX12_rules 81 = .ok (.aload_n 0, 1) := by decide +kernel
theorem dX12_rules_82 : decode cX12_rules 82 = .ok (.aload_n 0, 1) := by decide +kernel
theorem dX12_rules_83 : decode cX12_rules 83 = .ok (.getfield 91, 3) := by decide +kernel
theorem dX12_rules_86 : decode cX12_rules 86 = .ok (.putfield 240, 3) := by decide +kernel
theorem dX12_rules_89 : decode cX12_rules 89 = .ok (.aload_n 0, 1) := by decide +kernel
theorem dX12_rules_90 : decode cX12_rules 90 = .ok (.aload_n 0, 1) := by decide +kernel
theorem dX12_rules_91 : decode cX12_rules 91 = .ok (.getfield 94, 3) := by decide +kernel
theorem dX12_rules_94 : decode cX12_rules 94 = .ok (.putfield 242, 3) := by decide +kernel
theorem dX12_rules_97 : decode cX12_rules 97 = .ok (.aload_n 0, 1) := by decide +kernel
theorem dX12_rules_98 : decode cX12_rules 98 = .ok (.aload_n 0, 1) := by decide +kernel
theorem dX12_rules_99 : decode cX12_rules 99 = .ok (.getfield 97, 3) := by decide +kernel
theorem dX12_rules_102 : decode cX12_rules 102 = .ok (.putfield 138, 3) := by decide +kernel
theorem dX12_rules_105 : decode cX12_rules 105 = .ok (.aload_n 0, 1) := by decide +kernel
theorem dX12_rules_106 : decode cX12_rules 106 = .ok (.aload_n 0, 1) := by decide +kernel
theorem dX12_rules_107 : decode cX12_rules 107 = .ok (.getfield 100, 3) := by decide +kernel
theorem dX12_rules_110 : decode cX12_rules 110 = .ok (.putfield 141, 3) := by decide +kernel
theorem dX12_rules_113 : decode cX12_rules 113 = .ok (.aload_n 0, 1) := by decide +kernel
theorem dX12_rules_114 : decode cX12_rules 114 = .ok (.aload_n 0, 1) := by decide +kernel
theorem dX12_rules_115 : decode cX12_rules 115 = .ok (.getfield 103, 3) := by decide +kernel
theorem dX12_rules_118 : decode cX12_rules 118 = .ok (.putfield 144, 3) := by decide +kernel
theorem dX12_rules_121 : decode cX12_rules 121 = .ok (.iload_n 1, 1) := by decide +kernel
theorem dX12_rules_122 : decode cX12_rules 122 = .ok (.ireturn, 1) := by decide +kernel
theorem dX12_fault_0 : decode cX12_fault 0 = .ok (.iload_n 1, 1) := by decide +kernel
theorem dX12_fault_1 : decode cX12_fault 1 = .ok (.ifCond .ne 10, 3) := by decide +kernel
theorem dX12_fault_4 : decode cX12_fault 4 = .ok (.aload_n 0, 1) := by decide +kernel
theorem dX12_fault_5 : decode cX12_fault 5 = .ok (.getfield 9, 3) := by decide +kernel
theorem dX12_fault_8 : decode cX12_fault 8 = .ok (.goto 16, 3) := by decide +kernel
theorem dX12_fault_11 : decode cX12_fault 11 = .ok (.iload_n 1, 1) := by decide +kernel
theorem dX12_fault_12 : decode cX12_fault 12 = .ok (.iconst 1, 1) := by decide +kernel
theorem dX12_fault_13 : decode cX12_fault 13 = .ok (.if_icmp .ne 10, 3) := by decide +kernel
theorem dX12_fault_16 : decode cX12_fault 16 = .ok (.aload_n 0, 1) := by decide +kernel
theorem dX12_fault_17 : decode cX12_fault 17 = .ok (.getfield 16, 3) := by decide +kernel
theorem dX12_fault_20 : decode cX12_fault 20 = .ok (.goto 4, 3) := by decide +kernel
theorem dX12_fault_23 : decode cX12_fault 23 = .ok (.iconst (-1), 1) := by decide +kernel
theorem dX12_fault_24 : decode cX12_fault 24 = .ok (.ireturn, 1) := by decide +kernel
theorem dX12_rule_0 : decode cX12_rule 0 = .ok (.iload_n 1, 1) := by decide +kernel
theorem dX12_rule_1 : decode cX12_rule 1 = .ok (.i2l, 1) := by decide +kernel
theorem dX12_rule_2 : decode cX12_rule 2 = .ok (.ldc2_w 244, 3) := by decide +kernel
theorem dX12_rule_5 : decode cX12_rule 5 = .ok (.ldc2_w 246, 3) := by decide +kernel
theorem dX12_rule_8 : decode cX12_rule 8 = .ok (.invokestatic 5, 3) := by decide +kernel
theorem dX12_rule_11 : decode cX12_rule 11 = .ok (.ifCond .eq 13, 3) := by decide +kernel
theorem dX12_rule_14 : decode cX12_rule 14 = .ok (.aload_n 0, 1) := by decide +kernel
theorem dX12_rule_15 : decode cX12_rule 15 = .ok (.getfield 146, 3) := by decide +kernel
theorem dX12_rule_18 : decode cX12_rule 18 = .ok (.iload_n 1, 1) := by decide +kernel
theorem dX12_rule_19 : decode cX12_rule 19 = .ok (.bipush 10, 2) := by decide +kernel
theorem dX12_rule_21 : decode cX12_rule 21 = .ok (.isub, 1) := by decide +kernel
theorem dX12_rule_22 : decode cX12_rule 22 = .ok (.iaload, 1) := by decide +kernel
theorem dX12_rule_23 : decode cX12_rule 23 = .ok (.ireturn, 1) := by decide +kernel
theorem dX12_rule_24 : decode cX12_rule 24 = .ok (.iload_n 1, 1) := by decide +kernel
theorem dX12_rule_25 : decode cX12_rule 25 = .ok (.i2l, 1) := by decide +kernel
theorem dX12_rule_26 : decode cX12_rule 26 = .ok (.ldc2_w 248, 3) := by decide +kernel
theorem dX12_rule_29 : decode cX12_rule 29 = .ok (.ldc2_w 250, 3) := by decide +kernel
theorem dX12_rule_32 : decode cX12_rule 32 = .ok (.invokestatic 5, 3) := by decide +kernel
theorem dX12_rule_35 : decode cX12_rule 35 = .ok (.ifCond .eq 13, 3) := by decide +kernel
theorem dX12_rule_38 : decode cX12_rule 38 = .ok (.aload_n 0, 1) := by decide +kernel
theorem dX12_rule_39 : decode cX12_rule 39 = .ok (.getfield 149, 3) := by decide +kernel
theorem dX12_rule_42 : decode cX12_rule 42 = .ok (.iload_n 1, 1) := by decide +kernel
theorem dX12_rule_43 : decode cX12_rule 43 = .ok (.bipush 30, 2) := by decide +kernel
theorem dX12_rule_45 : decode cX12_rule 45 = .ok (.isub, 1) := by decide +kernel
theorem dX12_rule_46 : decode cX12_rule 46 = .ok (.iaload, 1) := by decide +kernel
theorem dX12_rule_47 : decode cX12_rule 47 = .ok (.ireturn, 1) := by decide +kernel
theorem dX12_rule_48 : decode cX12_rule 48 = .ok (.iload_n 1, 1) := by decide +kernel
theorem dX12_rule_49 : decode cX12_rule 49 = .ok (.tableswitch 60 0 4 #[35, 40, 45, 50, 55], 35) := by decide +kernel
theorem dX12_rule_84 : decode cX12_rule 84 = .ok (.aload_n 0, 1) := by decide +kernel
theorem dX12_rule_85 : decode cX12_rule 85 = .ok (.getfield 240, 3) := by decide +kernel
theorem dX12_rule_88 : decode cX12_rule 88 = .ok (.ireturn, 1) := by decide +kernel
theorem dX12_rule_89 : decode cX12_rule 89 = .ok (.aload_n 0, 1) := by decide +kernel
theorem dX12_rule_90 : decode cX12_rule 90 = .ok (.getfield 242, 3) := by decide +kernel
theorem dX12_rule_93 : decode cX12_rule 93 = .ok (.ireturn, 1) := by decide +kernel
theorem dX12_rule_94 : decode cX12_rule 94 = .ok (.aload_n 0, 1) := by decide +kernel
theorem dX12_rule_95 : decode cX12_rule 95 = .ok (.getfield 138, 3) := by decide +kernel
theorem dX12_rule_98 : decode cX12_rule 98 = .ok (.ireturn, 1) := by decide +kernel
theorem dX12_rule_99 : decode cX12_rule 99 = .ok (.aload_n 0, 1) := by decide +kernel
theorem dX12_rule_100 : decode cX12_rule 100 = .ok (.getfield 141, 3) := by decide +kernel
theorem dX12_rule_103 : decode cX12_rule 103 = .ok (.ireturn, 1) := by decide +kernel
theorem dX12_rule_104 : decode cX12_rule 104 = .ok (.aload_n 0, 1) := by decide +kernel
theorem dX12_rule_105 : decode cX12_rule 105 = .ok (.getfield 144, 3) := by decide +kernel
theorem dX12_rule_108 : decode cX12_rule 108 = .ok (.ireturn, 1) := by decide +kernel
theorem dX12_rule_109 : decode cX12_rule 109 = .ok (.bipush (-9), 2) := by decide +kernel
theorem dX12_rule_111 : decode cX12_rule 111 = .ok (.ireturn, 1) := by decide +kernel
theorem dX12_isQuestion_0 : decode cX12_isQuestion 0 = .ok (.iload_n 1, 1) := by decide +kernel
theorem dX12_isQuestion_1 : decode cX12_isQuestion 1 = .ok (.i2l, 1) := by decide +kernel
theorem dX12_isQuestion_2 : decode cX12_isQuestion 2 = .ok (.lconst 0, 1) := by decide +kernel
theorem dX12_isQuestion_3 : decode cX12_isQuestion 3 = .ok (.aload_n 0, 1) := by decide +kernel
theorem dX12_isQuestion_4 : decode cX12_isQuestion 4 = .ok (.getfield 252, 3) := by decide +kernel
theorem dX12_isQuestion_7 : decode cX12_isQuestion 7 = .ok (.i2l, 1) := by decide +kernel
theorem dX12_isQuestion_8 : decode cX12_isQuestion 8 = .ok (.lconst 1, 1) := by decide +kernel
theorem dX12_isQuestion_9 : decode cX12_isQuestion 9 = .ok (.lsub, 1) := by decide +kernel
theorem dX12_isQuestion_10 : decode cX12_isQuestion 10 = .ok (.invokestatic 5, 3) := by decide +kernel
theorem dX12_isQuestion_13 : decode cX12_isQuestion 13 = .ok (.ireturn, 1) := by decide +kernel
theorem dX12_isGuesser_0 : decode cX12_isGuesser 0 = .ok (.iload_n 0, 1) := by decide +kernel
theorem dX12_isGuesser_1 : decode cX12_isGuesser 1 = .ok (.i2l, 1) := by decide +kernel
theorem dX12_isGuesser_2 : decode cX12_isGuesser 2 = .ok (.lconst 0, 1) := by decide +kernel
theorem dX12_isGuesser_3 : decode cX12_isGuesser 3 = .ok (.ldc2_w 255, 3) := by decide +kernel
theorem dX12_isGuesser_6 : decode cX12_isGuesser 6 = .ok (.invokestatic 5, 3) := by decide +kernel
theorem dX12_isGuesser_9 : decode cX12_isGuesser 9 = .ok (.ireturn, 1) := by decide +kernel
theorem dX12_question_0 : decode cX12_question 0 = .ok (.iload_n 1, 1) := by decide +kernel
theorem dX12_question_1 : decode cX12_question 1 = .ok (.invokestatic 257, 3) := by decide +kernel
theorem dX12_question_4 : decode cX12_question 4 = .ok (.ifCond .eq 24, 3) := by decide +kernel
theorem dX12_question_7 : decode cX12_question 7 = .ok (.iload_n 2, 1) := by decide +kernel
theorem dX12_question_8 : decode cX12_question 8 = .ok (.i2l, 1) := by decide +kernel
theorem dX12_question_9 : decode cX12_question 9 = .ok (.iload_n 1, 1) := by decide +kernel
theorem dX12_question_10 : decode cX12_question 10 = .ok (.i2l, 1) := by decide +kernel
theorem dX12_question_11 : decode cX12_question 11 = .ok (.ldc2_w 3, 3) := by decide +kernel
theorem dX12_question_14 : decode cX12_question 14 = .ok (.invokestatic 5, 3) := by decide +kernel
theorem dX12_question_17 : decode cX12_question 17 = .ok (.ifCond .eq 11, 3) := by decide +kernel
theorem dX12_question_20 : decode cX12_question 20 = .ok (.iload_n 2, 1) := by decide +kernel
theorem dX12_question_21 : decode cX12_question 21 = .ok (.iload_n 1, 1) := by decide +kernel
theorem dX12_question_22 : decode cX12_question 22 = .ok (.isub, 1) := by decide +kernel
theorem dX12_question_23 : decode cX12_question 23 = .ok (.bipush 60, 2) := by decide +kernel
theorem dX12_question_25 : decode cX12_question 25 = .ok (.if_icmp .lt 6, 3) := by decide +kernel
theorem dX12_question_28 : decode cX12_question 28 = .ok (.bipush (-2), 2) := by decide +kernel
theorem dX12_question_30 : decode cX12_question 30 = .ok (.ireturn, 1) := by decide +kernel
theorem dX12_question_31 : decode cX12_question 31 = .ok (.aload_n 0, 1) := by decide +kernel
theorem dX12_question_32 : decode cX12_question 32 = .ok (.getfield 252, 3) := by decide +kernel
theorem dX12_question_35 : decode cX12_question 35 = .ok (.bipush 20, 2) := by decide +kernel
theorem dX12_question_37 : decode cX12_question 37 = .ok (.if_icmp .ne 6, 3) := by decide +kernel
theorem dX12_question_40 : decode cX12_question 40 = .ok (.bipush (-3), 2) := by decide +kernel
theorem dX12_question_42 : decode cX12_question 42 = .ok (.ireturn, 1) := by decide +kernel
theorem dX12_question_43 : decode cX12_question 43 = .ok (.aload_n 0, 1) := by decide +kernel
theorem dX12_question_44 : decode cX12_question 44 = .ok (.getfield 155, 3) := by decide +kernel
theorem dX12_question_47 : decode cX12_question 47 = .ok (.aload_n 0, 1) := by decide +kernel
theorem dX12_question_48 : decode cX12_question 48 = .ok (.getfield 252, 3) := by decide +kernel
theorem dX12_question_51 : decode cX12_question 51 = .ok (.iload_n 1, 1) := by decide +kernel
theorem dX12_question_52 : decode cX12_question 52 = .ok (.iastore, 1) := by decide +kernel
theorem dX12_question_53 : decode cX12_question 53 = .ok (.aload_n 0, 1) := by decide +kernel
theorem dX12_question_54 : decode cX12_question 54 = .ok (.getfield 158, 3) := by decide +kernel
theorem dX12_question_57 : decode cX12_question 57 = .ok (.aload_n 0, 1) := by decide +kernel
theorem dX12_question_58 : decode cX12_question 58 = .ok (.getfield 252, 3) := by decide +kernel
theorem dX12_question_61 : decode cX12_question 61 = .ok (.iload_n 2, 1) := by decide +kernel
theorem dX12_question_62 : decode cX12_question 62 = .ok (.iastore, 1) := by decide +kernel
theorem dX12_question_63 : decode cX12_question 63 = .ok (.aload_n 0, 1) := by decide +kernel
theorem dX12_question_64 : decode cX12_question 64 = .ok (.getfield 161, 3) := by decide +kernel
theorem dX12_question_67 : decode cX12_question 67 = .ok (.aload_n 0, 1) := by decide +kernel
theorem dX12_question_68 : decode cX12_question 68 = .ok (.getfield 252, 3) := by decide +kernel
theorem dX12_question_71 : decode cX12_question 71 = .ok (.iconst 3, 1) := by decide +kernel
theorem dX12_question_72 : decode cX12_question 72 = .ok (.iastore, 1) := by decide +kernel
theorem dX12_question_73 : decode cX12_question 73 = .ok (.aload_n 0, 1) := by decide +kernel
theorem dX12_question_74 : decode cX12_question 74 = .ok (.getfield 164, 3) := by decide +kernel
theorem dX12_question_77 : decode cX12_question 77 = .ok (.aload_n 0, 1) := by decide +kernel
theorem dX12_question_78 : decode cX12_question 78 = .ok (.getfield 252, 3) := by decide +kernel
theorem dX12_question_81 : decode cX12_question 81 = .ok (.iconst (-1), 1) := by decide +kernel
theorem dX12_question_82 : decode cX12_question 82 = .ok (.iastore, 1) := by decide +kernel
theorem dX12_question_83 : decode cX12_question 83 = .ok (.aload_n 0, 1) := by decide +kernel
theorem dX12_question_84 : decode cX12_question 84 = .ok (.dup, 1) := by decide +kernel
theorem dX12_question_85 : decode cX12_question 85 = .ok (.getfield 252, 3) := by decide +kernel
theorem dX12_question_88 : decode cX12_question 88 = .ok (.iconst 1, 1) := by decide +kernel
theorem dX12_question_89 : decode cX12_question 89 = .ok (.iadd, 1) := by decide +kernel
theorem dX12_question_90 : decode cX12_question 90 = .ok (.putfield 252, 3) := by decide +kernel
theorem dX12_question_93 : decode cX12_question 93 = .ok (.aload_n 0, 1) := by decide +kernel
theorem dX12_question_94 : decode cX12_question 94 = .ok (.getfield 252, 3) := by decide +kernel
theorem dX12_question_97 : decode cX12_question 97 = .ok (.iconst 1, 1) := by decide +kernel
theorem dX12_question_98 : decode cX12_question 98 = .ok (.isub, 1) := by decide +kernel
theorem dX12_question_99 : decode cX12_question 99 = .ok (.ireturn, 1) := by decide +kernel
theorem dX12_tell_0 : decode cX12_tell 0 = .ok (.aload_n 0, 1) := by decide +kernel
theorem dX12_tell_1 : decode cX12_tell 1 = .ok (.iload_n 1, 1) := by decide +kernel
theorem dX12_tell_2 : decode cX12_tell 2 = .ok (.invokevirtual 260, 3) := by decide +kernel
theorem dX12_tell_5 : decode cX12_tell 5 = .ok (.ifCond .eq 15, 3) := by decide +kernel
theorem dX12_tell_8 : decode cX12_tell 8 = .ok (.iload_n 2, 1) := by decide +kernel
theorem dX12_tell_9 : decode cX12_tell 9 = .ok (.i2l, 1) := by decide +kernel
theorem dX12_tell_10 : decode cX12_tell 10 = .ok (.lconst 0, 1) := by decide +kernel
theorem dX12_tell_11 : decode cX12_tell 11 = .ok (.ldc2_w 263, 3) := by decide +kernel
theorem dX12_tell_14 : decode cX12_tell 14 = .ok (.invokestatic 5, 3) := by decide +kernel
theorem dX12_tell_17 : decode cX12_tell 17 = .ok (.ifCond .ne 6, 3) := by decide +kernel
theorem dX12_tell_20 : decode cX12_tell 20 = .ok (.bipush (-2), 2) := by decide +kernel
theorem dX12_tell_22 : decode cX12_tell 22 = .ok (.ireturn, 1) := by decide +kernel
theorem dX12_tell_23 : decode cX12_tell 23 = .ok (.iload_n 2, 1) := by decide +kernel
theorem dX12_tell_24 : decode cX12_tell 24 = .ok (.iconst 2, 1) := by decide +kernel
theorem dX12_tell_25 : decode cX12_tell 25 = .ok (.if_icmp .ge 24, 3) := by decide +kernel
theorem dX12_tell_28 : decode cX12_tell 28 = .ok (.iload_n 3, 1) := by decide +kernel
theorem dX12_tell_29 : decode cX12_tell 29 = .ok (.i2l, 1) := by decide +kernel
theorem dX12_tell_30 : decode cX12_tell 30 = .ok (.aload_n 0, 1) := by decide +kernel
theorem dX12_tell_31 : decode cX12_tell 31 = .ok (.getfield 155, 3) := by decide +kernel
theorem dX12_tell_34 : decode cX12_tell 34 = .ok (.iload_n 1, 1) := by decide +kernel
theorem dX12_tell_35 : decode cX12_tell 35 = .ok (.iaload, 1) := by decide +kernel
theorem dX12_tell_36 : decode cX12_tell 36 = .ok (.i2l, 1) := by decide +kernel
theorem dX12_tell_37 : decode cX12_tell 37 = .ok (.ldc2_w 3, 3) := by decide +kernel
theorem dX12_tell_40 : decode cX12_tell 40 = .ok (.invokestatic 5, 3) := by decide +kernel
theorem dX12_tell_43 : decode cX12_tell 43 = .ok (.ifCond .ne 13, 3) := by decide +kernel
theorem dX12_tell_46 : decode cX12_tell 46 = .ok (.goto 7, 3) := by decide +kernel
theorem dX12_tell_49 : decode cX12_tell 49 = .ok (.iload_n 3, 1) := by decide +kernel
theorem dX12_tell_50 : decode cX12_tell 50 = .ok (.ifCond .eq 6, 3) := by decide +kernel
theorem dX12_tell_53 : decode cX12_tell 53 = .ok (.bipush (-2), 2) := by decide +kernel
theorem dX12_tell_55 : decode cX12_tell 55 = .ok (.ireturn, 1) := by decide +kernel
theorem dX12_tell_56 : decode cX12_tell 56 = .ok (.aload_n 0, 1) := by decide +kernel
theorem dX12_tell_57 : decode cX12_tell 57 = .ok (.getfield 161, 3) := by decide +kernel
theorem dX12_tell_60 : decode cX12_tell 60 = .ok (.iload_n 1, 1) := by decide +kernel
theorem dX12_tell_61 : decode cX12_tell 61 = .ok (.iaload, 1) := by decide +kernel
theorem dX12_tell_62 : decode cX12_tell 62 = .ok (.istore 4, 2) := by decide +kernel
theorem dX12_tell_64 : decode cX12_tell 64 = .ok (.aload_n 0, 1) := by decide +kernel
theorem dX12_tell_65 : decode cX12_tell 65 = .ok (.getfield 161, 3) := by decide +kernel
theorem dX12_tell_68 : decode cX12_tell 68 = .ok (.iload_n 1, 1) := by decide +kernel
theorem dX12_tell_69 : decode cX12_tell 69 = .ok (.iload_n 2, 1) := by decide +kernel
theorem dX12_tell_70 : decode cX12_tell 70 = .ok (.iastore, 1) := by decide +kernel
theorem dX12_tell_71 : decode cX12_tell 71 = .ok (.aload_n 0, 1) := by decide +kernel
theorem dX12_tell_72 : decode cX12_tell 72 = .ok (.getfield 164, 3) := by decide +kernel
theorem dX12_tell_75 : decode cX12_tell 75 = .ok (.iload_n 1, 1) := by decide +kernel
theorem dX12_tell_76 : decode cX12_tell 76 = .ok (.iload_n 2, 1) := by decide +kernel
theorem dX12_tell_77 : decode cX12_tell 77 = .ok (.iconst 2, 1) := by decide +kernel
theorem dX12_tell_78 : decode cX12_tell 78 = .ok (.if_icmp .ge 7, 3) := by decide +kernel
theorem dX12_tell_81 : decode cX12_tell 81 = .ok (.iload_n 3, 1) := by decide +kernel
theorem dX12_tell_82 : decode cX12_tell 82 = .ok (.goto 4, 3) := by decide +kernel
theorem dX12_tell_85 : decode cX12_tell 85 = .ok (.iconst (-1), 1) := by decide +kernel
theorem dX12_tell_86 : decode cX12_tell 86 = .ok (.iastore, 1) := by decide +kernel
theorem dX12_tell_87 : decode cX12_tell 87 = .ok (.iload 4, 2) := by decide +kernel
theorem dX12_tell_89 : decode cX12_tell 89 = .ok (.ireturn, 1) := by decide +kernel
theorem dX12_guess_0 : decode cX12_guess 0 = .ok (.iload_n 1, 1) := by decide +kernel
theorem dX12_guess_1 : decode cX12_guess 1 = .ok (.invokestatic 265, 3) := by decide +kernel
theorem dX12_guess_4 : decode cX12_guess 4 = .ok (.ifCond .eq 46, 3) := by decide +kernel
theorem dX12_guess_7 : decode cX12_guess 7 = .ok (.aload_n 0, 1) := by decide +kernel
theorem dX12_guess_8 : decode cX12_guess 8 = .ok (.iload_n 2, 1) := by decide +kernel
theorem dX12_guess_9 : decode cX12_guess 9 = .ok (.invokevirtual 260, 3) := by decide +kernel
theorem dX12_guess_12 : decode cX12_guess 12 = .ok (.ifCond .eq 38, 3) := by decide +kernel
theorem dX12_guess_15 : decode cX12_guess 15 = .ok (.iload_n 3, 1) := by decide +kernel
theorem dX12_guess_16 : decode cX12_guess 16 = .ok (.i2l, 1) := by decide +kernel
theorem dX12_guess_17 : decode cX12_guess 17 = .ok (.aload_n 0, 1) := by decide +kernel
theorem dX12_guess_18 : decode cX12_guess 18 = .ok (.getfield 155, 3) := by decide +kernel
theorem dX12_guess_21 : decode cX12_guess 21 = .ok (.iload_n 2, 1) := by decide +kernel
theorem dX12_guess_22 : decode cX12_guess 22 = .ok (.iaload, 1) := by decide +kernel
theorem dX12_guess_23 : decode cX12_guess 23 = .ok (.i2l, 1) := by decide +kernel
theorem dX12_guess_24 : decode cX12_guess 24 = .ok (.aload_n 0, 1) := by decide +kernel
theorem dX12_guess_25 : decode cX12_guess 25 = .ok (.getfield 158, 3) := by decide +kernel
theorem dX12_guess_28 : decode cX12_guess 28 = .ok (.iload_n 2, 1) := by decide +kernel
theorem dX12_guess_29 : decode cX12_guess 29 = .ok (.iaload, 1) := by decide +kernel
theorem dX12_guess_30 : decode cX12_guess 30 = .ok (.i2l, 1) := by decide +kernel
theorem dX12_guess_31 : decode cX12_guess 31 = .ok (.invokestatic 5, 3) := by decide +kernel
theorem dX12_guess_34 : decode cX12_guess 34 = .ok (.ifCond .eq 16, 3) := by decide +kernel
theorem dX12_guess_37 : decode cX12_guess 37 = .ok (.iload 4, 2) := by decide +kernel
theorem dX12_guess_39 : decode cX12_guess 39 = .ok (.i2l, 1) := by decide +kernel
theorem dX12_guess_40 : decode cX12_guess 40 = .ok (.lconst 0, 1) := by decide +kernel
theorem dX12_guess_41 : decode cX12_guess 41 = .ok (.ldc2_w 244, 3) := by decide +kernel
theorem dX12_guess_44 : decode cX12_guess 44 = .ok (.invokestatic 5, 3) := by decide +kernel
theorem dX12_guess_47 : decode cX12_guess 47 = .ok (.ifCond .ne 6, 3) := by decide +kernel
theorem dX12_guess_50 : decode cX12_guess 50 = .ok (.bipush (-2), 2) := by decide +kernel
theorem dX12_guess_52 : decode cX12_guess 52 = .ok (.ireturn, 1) := by decide +kernel
theorem dX12_guess_53 : decode cX12_guess 53 = .ok (.aload_n 0, 1) := by decide +kernel
theorem dX12_guess_54 : decode cX12_guess 54 = .ok (.getfield 161, 3) := by decide +kernel
theorem dX12_guess_57 : decode cX12_guess 57 = .ok (.iload_n 2, 1) := by decide +kernel
theorem dX12_guess_58 : decode cX12_guess 58 = .ok (.iaload, 1) := by decide +kernel
theorem dX12_guess_59 : decode cX12_guess 59 = .ok (.iconst 3, 1) := by decide +kernel
theorem dX12_guess_60 : decode cX12_guess 60 = .ok (.if_icmp .eq 6, 3) := by decide +kernel
theorem dX12_guess_63 : decode cX12_guess 63 = .ok (.bipush (-4), 2) := by decide +kernel
theorem dX12_guess_65 : decode cX12_guess 65 = .ok (.ireturn, 1) := by decide +kernel
theorem dX12_guess_66 : decode cX12_guess 66 = .ok (.iconst 0, 1) := by decide +kernel
theorem dX12_guess_67 : decode cX12_guess 67 = .ok (.istore 5, 2) := by decide +kernel
theorem dX12_guess_69 : decode cX12_guess 69 = .ok (.iload 5, 2) := by decide +kernel
theorem dX12_guess_71 : decode cX12_guess 71 = .ok (.aload_n 0, 1) := by decide +kernel
theorem dX12_guess_72 : decode cX12_guess 72 = .ok (.getfield 268, 3) := by decide +kernel
theorem dX12_guess_75 : decode cX12_guess 75 = .ok (.if_icmp .ge 45, 3) := by decide +kernel
theorem dX12_guess_78 : decode cX12_guess 78 = .ok (.aload_n 0, 1) := by decide +kernel
theorem dX12_guess_79 : decode cX12_guess 79 = .ok (.getfield 167, 3) := by decide +kernel
theorem dX12_guess_82 : decode cX12_guess 82 = .ok (.iload 5, 2) := by decide +kernel
theorem dX12_guess_84 : decode cX12_guess 84 = .ok (.iaload, 1) := by decide +kernel
theorem dX12_guess_85 : decode cX12_guess 85 = .ok (.iload_n 1, 1) := by decide +kernel
theorem dX12_guess_86 : decode cX12_guess 86 = .ok (.if_icmp .ne 28, 3) := by decide +kernel
theorem dX12_guess_89 : decode cX12_guess 89 = .ok (.aload_n 0, 1) := by decide +kernel
theorem dX12_guess_90 : decode cX12_guess 90 = .ok (.getfield 170, 3) := by decide +kernel
theorem dX12_guess_93 : decode cX12_guess 93 = .ok (.iload 5, 2) := by decide +kernel
theorem dX12_guess_95 : decode cX12_guess 95 = .ok (.iaload, 1) := by decide +kernel
theorem dX12_guess_96 : decode cX12_guess 96 = .ok (.iload_n 2, 1) := by decide +kernel
theorem dX12_guess_97 : decode cX12_guess 97 = .ok (.if_icmp .ne 17, 3) := by decide +kernel
theorem dX12_guess_100 : decode cX12_guess 100 = .ok (.aload_n 0, 1) := by decide +kernel
theorem dX12_guess_101 : decode cX12_guess 101 = .ok (.getfield 173, 3) := by decide +kernel
theorem dX12_guess_104 : decode cX12_guess 104 = .ok (.iload 5, 2) := by decide +kernel
theorem dX12_guess_106 : decode cX12_guess 106 = .ok (.iaload, 1) := by decide +kernel
theorem dX12_guess_107 : decode cX12_guess 107 = .ok (.iload_n 3, 1) := by decide +kernel
theorem dX12_guess_108 : decode cX12_guess 108 = .ok (.if_icmp .le 6, 3) := by decide +kernel
theorem dX12_guess_111 : decode cX12_guess 111 = .ok (.bipush (-4), 2) := by decide +kernel
theorem dX12_guess_113 : decode cX12_guess 113 = .ok (.ireturn, 1) := by decide +kernel
theorem dX12_guess_114 : decode cX12_guess 114 = .ok (.iinc 5 1, 3) := by decide +kernel
theorem dX12_guess_117 : decode cX12_guess 117 = .ok (.goto (-48), 3) := by decide +kernel
theorem dX12_guess_120 : decode cX12_guess 120 = .ok (.aload_n 0, 1) := by decide +kernel
theorem dX12_guess_121 : decode cX12_guess 121 = .ok (.getfield 268, 3) := by decide +kernel
theorem dX12_guess_124 : decode cX12_guess 124 = .ok (.sipush 300, 3) := by decide +kernel
theorem dX12_guess_127 : decode cX12_guess 127 = .ok (.if_icmp .ne 6, 3) := by decide +kernel
theorem dX12_guess_130 : decode cX12_guess 130 = .ok (.bipush (-3), 2) := by decide +kernel
theorem dX12_guess_132 : decode cX12_guess 132 = .ok (.ireturn, 1) := by decide +kernel
theorem dX12_guess_133 : decode cX12_guess 133 = .ok (.aload_n 0, 1) := by decide +kernel
theorem dX12_guess_134 : decode cX12_guess 134 = .ok (.getfield 167, 3) := by decide +kernel
theorem dX12_guess_137 : decode cX12_guess 137 = .ok (.aload_n 0, 1) := by decide +kernel
theorem dX12_guess_138 : decode cX12_guess 138 = .ok (.getfield 268, 3) := by decide +kernel
theorem dX12_guess_141 : decode cX12_guess 141 = .ok (.iload_n 1, 1) := by decide +kernel
theorem dX12_guess_142 : decode cX12_guess 142 = .ok (.iastore, 1) := by decide +kernel
theorem dX12_guess_143 : decode cX12_guess 143 = .ok (.aload_n 0, 1) := by decide +kernel
theorem dX12_guess_144 : decode cX12_guess 144 = .ok (.getfield 170, 3) := by decide +kernel
theorem dX12_guess_147 : decode cX12_guess 147 = .ok (.aload_n 0, 1) := by decide +kernel
theorem dX12_guess_148 : decode cX12_guess 148 = .ok (.getfield 268, 3) := by decide +kernel
theorem dX12_guess_151 : decode cX12_guess 151 = .ok (.iload_n 2, 1) := by decide +kernel
theorem dX12_guess_152 : decode cX12_guess 152 = .ok (.iastore, 1) := by decide +kernel
theorem dX12_guess_153 : decode cX12_guess 153 = .ok (.aload_n 0, 1) := by decide +kernel
theorem dX12_guess_154 : decode cX12_guess 154 = .ok (.getfield 173, 3) := by decide +kernel
theorem dX12_guess_157 : decode cX12_guess 157 = .ok (.aload_n 0, 1) := by decide +kernel
theorem dX12_guess_158 : decode cX12_guess 158 = .ok (.getfield 268, 3) := by decide +kernel
theorem dX12_guess_161 : decode cX12_guess 161 = .ok (.iload_n 3, 1) := by decide +kernel
theorem dX12_guess_162 : decode cX12_guess 162 = .ok (.iastore, 1) := by decide +kernel
theorem dX12_guess_163 : decode cX12_guess 163 = .ok (.aload_n 0, 1) := by decide +kernel
theorem dX12_guess_164 : decode cX12_guess 164 = .ok (.getfield 176, 3) := by decide +kernel
theorem dX12_guess_167 : decode cX12_guess 167 = .ok (.aload_n 0, 1) := by decide +kernel
theorem dX12_guess_168 : decode cX12_guess 168 = .ok (.getfield 268, 3) := by decide +kernel
theorem dX12_guess_171 : decode cX12_guess 171 = .ok (.iload 4, 2) := by decide +kernel
theorem dX12_guess_173 : decode cX12_guess 173 = .ok (.iastore, 1) := by decide +kernel
theorem dX12_guess_174 : decode cX12_guess 174 = .ok (.aload_n 0, 1) := by decide +kernel
theorem dX12_guess_175 : decode cX12_guess 175 = .ok (.dup, 1) := by decide +kernel
theorem dX12_guess_176 : decode cX12_guess 176 = .ok (.getfield 268, 3) := by decide +kernel
theorem dX12_guess_179 : decode cX12_guess 179 = .ok (.iconst 1, 1) := by decide +kernel
theorem dX12_guess_180 : decode cX12_guess 180 = .ok (.iadd, 1) := by decide +kernel
theorem dX12_guess_181 : decode cX12_guess 181 = .ok (.putfield 268, 3) := by decide +kernel
theorem dX12_guess_184 : decode cX12_guess 184 = .ok (.aload_n 0, 1) := by decide +kernel
theorem dX12_guess_185 : decode cX12_guess 185 = .ok (.getfield 268, 3) := by decide +kernel
theorem dX12_guess_188 : decode cX12_guess 188 = .ok (.iconst 1, 1) := by decide +kernel
theorem dX12_guess_189 : decode cX12_guess 189 = .ok (.isub, 1) := by decide +kernel
theorem dX12_guess_190 : decode cX12_guess 190 = .ok (.ireturn, 1) := by decide +kernel
theorem dX12_heldOn_0 : decode cX12_heldOn 0 = .ok (.iconst (-1), 1) := by decide +kernel
theorem dX12_heldOn_1 : decode cX12_heldOn 1 = .ok (.istore 4, 2) := by decide +kernel
theorem dX12_heldOn_3 : decode cX12_heldOn 3 = .ok (.iconst 0, 1) := by decide +kernel
theorem dX12_heldOn_4 : decode cX12_heldOn 4 = .ok (.istore 5, 2) := by decide +kernel
theorem dX12_heldOn_6 : decode cX12_heldOn 6 = .ok (.iload 5, 2) := by decide +kernel
theorem dX12_heldOn_8 : decode cX12_heldOn 8 = .ok (.aload_n 0, 1) := by decide +kernel
theorem dX12_heldOn_9 : decode cX12_heldOn 9 = .ok (.getfield 268, 3) := by decide +kernel
theorem dX12_heldOn_12 : decode cX12_heldOn 12 = .ok (.if_icmp .ge 51, 3) := by decide +kernel
theorem dX12_heldOn_15 : decode cX12_heldOn 15 = .ok (.aload_n 0, 1) := by decide +kernel
theorem dX12_heldOn_16 : decode cX12_heldOn 16 = .ok (.getfield 167, 3) := by decide +kernel
theorem dX12_heldOn_19 : decode cX12_heldOn 19 = .ok (.iload 5, 2) := by decide +kernel
theorem dX12_heldOn_21 : decode cX12_heldOn 21 = .ok (.iaload, 1) := by decide +kernel
theorem dX12_heldOn_22 : decode cX12_heldOn 22 = .ok (.iload_n 1, 1) := by decide +kernel
theorem dX12_heldOn_23 : decode cX12_heldOn 23 = .ok (.if_icmp .ne 34, 3) := by decide +kernel
theorem dX12_heldOn_26 : decode cX12_heldOn 26 = .ok (.aload_n 0, 1) := by decide +kernel
theorem dX12_heldOn_27 : decode cX12_heldOn 27 = .ok (.getfield 170, 3) := by decide +kernel
theorem dX12_heldOn_30 : decode cX12_heldOn 30 = .ok (.iload 5, 2) := by decide +kernel
theorem dX12_heldOn_32 : decode cX12_heldOn 32 = .ok (.iaload, 1) := by decide +kernel
theorem dX12_heldOn_33 : decode cX12_heldOn 33 = .ok (.iload_n 2, 1) := by decide +kernel
theorem dX12_heldOn_34 : decode cX12_heldOn 34 = .ok (.if_icmp .ne 23, 3) := by decide +kernel
theorem dX12_heldOn_37 : decode cX12_heldOn 37 = .ok (.aload_n 0, 1) := by decide +kernel
theorem dX12_heldOn_38 : decode cX12_heldOn 38 = .ok (.getfield 173, 3) := by decide +kernel
theorem dX12_heldOn_41 : decode cX12_heldOn 41 = .ok (.iload 5, 2) := by decide +kernel
theorem dX12_heldOn_43 : decode cX12_heldOn 43 = .ok (.iaload, 1) := by decide +kernel
theorem dX12_heldOn_44 : decode cX12_heldOn 44 = .ok (.iload_n 3, 1) := by decide +kernel
theorem dX12_heldOn_45 : decode cX12_heldOn 45 = .ok (.if_icmp .gt 12, 3) := by decide +kernel
theorem dX12_heldOn_48 : decode cX12_heldOn 48 = .ok (.aload_n 0, 1) := by decide +kernel
theorem dX12_heldOn_49 : decode cX12_heldOn 49 = .ok (.getfield 176, 3) := by decide +kernel
theorem dX12_heldOn_52 : decode cX12_heldOn 52 = .ok (.iload 5, 2) := by decide +kernel
theorem dX12_heldOn_54 : decode cX12_heldOn 54 = .ok (.iaload, 1) := by decide +kernel
theorem dX12_heldOn_55 : decode cX12_heldOn 55 = .ok (.istore 4, 2) := by decide +kernel
theorem dX12_heldOn_57 : decode cX12_heldOn 57 = .ok (.iinc 5 1, 3) := by decide +kernel
theorem dX12_heldOn_60 : decode cX12_heldOn 60 = .ok (.goto (-54), 3) := by decide +kernel
theorem dX12_heldOn_63 : decode cX12_heldOn 63 = .ok (.iload 4, 2) := by decide +kernel
theorem dX12_heldOn_65 : decode cX12_heldOn 65 = .ok (.ireturn, 1) := by decide +kernel
theorem dX12_holds_0 : decode cX12_holds 0 = .ok (.iload_n 1, 1) := by decide +kernel
theorem dX12_holds_1 : decode cX12_holds 1 = .ok (.invokestatic 265, 3) := by decide +kernel
theorem dX12_holds_4 : decode cX12_holds 4 = .ok (.ifCond .eq 28, 3) := by decide +kernel
theorem dX12_holds_7 : decode cX12_holds 7 = .ok (.aload_n 0, 1) := by decide +kernel
theorem dX12_holds_8 : decode cX12_holds 8 = .ok (.iload_n 2, 1) := by decide +kernel
theorem dX12_holds_9 : decode cX12_holds 9 = .ok (.invokevirtual 260, 3) := by decide +kernel
theorem dX12_holds_12 : decode cX12_holds 12 = .ok (.ifCond .eq 20, 3) := by decide +kernel
theorem dX12_holds_15 : decode cX12_holds 15 = .ok (.iload_n 3, 1) := by decide +kernel
theorem dX12_holds_16 : decode cX12_holds 16 = .ok (.invokestatic 257, 3) := by decide +kernel
theorem dX12_holds_19 : decode cX12_holds 19 = .ok (.ifCond .eq 13, 3) := by decide +kernel
theorem dX12_holds_22 : decode cX12_holds 22 = .ok (.aload_n 0, 1) := by decide +kernel
theorem dX12_holds_23 : decode cX12_holds 23 = .ok (.iload_n 1, 1) := by decide +kernel
theorem dX12_holds_24 : decode cX12_holds 24 = .ok (.iload_n 2, 1) := by decide +kernel
theorem dX12_holds_25 : decode cX12_holds 25 = .ok (.iload_n 3, 1) := by decide +kernel
theorem dX12_holds_26 : decode cX12_holds 26 = .ok (.invokevirtual 271, 3) := by decide +kernel
theorem dX12_holds_29 : decode cX12_holds 29 = .ok (.goto 5, 3) := by decide +kernel
theorem dX12_holds_32 : decode cX12_holds 32 = .ok (.bipush (-2), 2) := by decide +kernel
theorem dX12_holds_34 : decode cX12_holds 34 = .ok (.ireturn, 1) := by decide +kernel
theorem dX12_about_0 : decode cX12_about 0 = .ok (.aload_n 0, 1) := by decide +kernel
theorem dX12_about_1 : decode cX12_about 1 = .ok (.iload_n 1, 1) := by decide +kernel
theorem dX12_about_2 : decode cX12_about 2 = .ok (.invokevirtual 260, 3) := by decide +kernel
theorem dX12_about_5 : decode cX12_about 5 = .ok (.ifCond .ne 5, 3) := by decide +kernel
theorem dX12_about_8 : decode cX12_about 8 = .ok (.iconst (-1), 1) := by decide +kernel
theorem dX12_about_9 : decode cX12_about 9 = .ok (.ireturn, 1) := by decide +kernel
theorem dX12_about_10 : decode cX12_about 10 = .ok (.iload_n 2, 1) := by decide +kernel
theorem dX12_about_11 : decode cX12_about 11 = .ok (.tableswitch 102 0 4 #[33, 40, 47, 54, 61], 33) := by decide +kernel
theorem dX12_about_44 : decode cX12_about 44 = .ok (.aload_n 0, 1) := by decide +kernel
theorem dX12_about_45 : decode cX12_about 45 = .ok (.getfield 155, 3) := by decide +kernel
theorem dX12_about_48 : decode cX12_about 48 = .ok (.iload_n 1, 1) := by decide +kernel
theorem dX12_about_49 : decode cX12_about 49 = .ok (.iaload, 1) := by decide +kernel
theorem dX12_about_50 : decode cX12_about 50 = .ok (.ireturn, 1) := by decide +kernel
theorem dX12_about_51 : decode cX12_about 51 = .ok (.aload_n 0, 1) := by decide +kernel
theorem dX12_about_52 : decode cX12_about 52 = .ok (.getfield 158, 3) := by decide +kernel
theorem dX12_about_55 : decode cX12_about 55 = .ok (.iload_n 1, 1) := by decide +kernel
theorem dX12_about_56 : decode cX12_about 56 = .ok (.iaload, 1) := by decide +kernel
theorem dX12_about_57 : decode cX12_about 57 = .ok (.ireturn, 1) := by decide +kernel
theorem dX12_about_58 : decode cX12_about 58 = .ok (.aload_n 0, 1) := by decide +kernel
theorem dX12_about_59 : decode cX12_about 59 = .ok (.getfield 161, 3) := by decide +kernel
theorem dX12_about_62 : decode cX12_about 62 = .ok (.iload_n 1, 1) := by decide +kernel
theorem dX12_about_63 : decode cX12_about 63 = .ok (.iaload, 1) := by decide +kernel
theorem dX12_about_64 : decode cX12_about 64 = .ok (.ireturn, 1) := by decide +kernel
theorem dX12_about_65 : decode cX12_about 65 = .ok (.aload_n 0, 1) := by decide +kernel
theorem dX12_about_66 : decode cX12_about 66 = .ok (.getfield 164, 3) := by decide +kernel
theorem dX12_about_69 : decode cX12_about 69 = .ok (.iload_n 1, 1) := by decide +kernel
theorem dX12_about_70 : decode cX12_about 70 = .ok (.iaload, 1) := by decide +kernel
theorem dX12_about_71 : decode cX12_about 71 = .ok (.ireturn, 1) := by decide +kernel
theorem dX12_about_72 : decode cX12_about 72 = .ok (.iconst 0, 1) := by decide +kernel
theorem dX12_about_73 : decode cX12_about 73 = .ok (.istore_n 3, 1) := by decide +kernel
theorem dX12_about_74 : decode cX12_about 74 = .ok (.iconst 0, 1) := by decide +kernel
theorem dX12_about_75 : decode cX12_about 75 = .ok (.istore 4, 2) := by decide +kernel
theorem dX12_about_77 : decode cX12_about 77 = .ok (.iload 4, 2) := by decide +kernel
theorem dX12_about_79 : decode cX12_about 79 = .ok (.aload_n 0, 1) := by decide +kernel
theorem dX12_about_80 : decode cX12_about 80 = .ok (.getfield 268, 3) := by decide +kernel
theorem dX12_about_83 : decode cX12_about 83 = .ok (.if_icmp .ge 28, 3) := by decide +kernel
theorem dX12_about_86 : decode cX12_about 86 = .ok (.iload_n 3, 1) := by decide +kernel
theorem dX12_about_87 : decode cX12_about 87 = .ok (.aload_n 0, 1) := by decide +kernel
theorem dX12_about_88 : decode cX12_about 88 = .ok (.getfield 170, 3) := by decide +kernel
theorem dX12_about_91 : decode cX12_about 91 = .ok (.iload 4, 2) := by decide +kernel
theorem dX12_about_93 : decode cX12_about 93 = .ok (.iaload, 1) := by decide +kernel
theorem dX12_about_94 : decode cX12_about 94 = .ok (.iload_n 1, 1) := by decide +kernel
theorem dX12_about_95 : decode cX12_about 95 = .ok (.if_icmp .ne 7, 3) := by decide +kernel
theorem dX12_about_98 : decode cX12_about 98 = .ok (.iconst 1, 1) := by decide +kernel
theorem dX12_about_99 : decode cX12_about 99 = .ok (.goto 4, 3) := by decide +kernel
theorem dX12_about_102 : decode cX12_about 102 = .ok (.iconst 0, 1) := by decide +kernel
theorem dX12_about_103 : decode cX12_about 103 = .ok (.iadd, 1) := by decide +kernel
theorem dX12_about_104 : decode cX12_about 104 = .ok (.istore_n 3, 1) := by decide +kernel
theorem dX12_about_105 : decode cX12_about 105 = .ok (.iinc 4 1, 3) := by decide +kernel
theorem dX12_about_108 : decode cX12_about 108 = .ok (.goto (-31), 3) := by decide +kernel
theorem dX12_about_111 : decode cX12_about 111 = .ok (.iload_n 3, 1) := by decide +kernel
theorem dX12_about_112 : decode cX12_about 112 = .ok (.ireturn, 1) := by decide +kernel
theorem dX12_about_113 : decode cX12_about 113 = .ok (.iconst (-1), 1) := by decide +kernel
theorem dX12_about_114 : decode cX12_about 114 = .ok (.ireturn, 1) := by decide +kernel
theorem dX12_pair_0 : decode cX12_pair 0 = .ok (.bipush 20, 2) := by decide +kernel
theorem dX12_pair_2 : decode cX12_pair 2 = .ok (.iload_n 0, 1) := by decide +kernel
theorem dX12_pair_3 : decode cX12_pair 3 = .ok (.imul, 1) := by decide +kernel
theorem dX12_pair_4 : decode cX12_pair 4 = .ok (.iload_n 1, 1) := by decide +kernel
theorem dX12_pair_5 : decode cX12_pair 5 = .ok (.iadd, 1) := by decide +kernel
theorem dX12_pair_6 : decode cX12_pair 6 = .ok (.ireturn, 1) := by decide +kernel
theorem dX12_heldAt_0 : decode cX12_heldAt 0 = .ok (.iload_n 3, 1) := by decide +kernel
theorem dX12_heldAt_1 : decode cX12_heldAt 1 = .ok (.aload_n 0, 1) := by decide +kernel
theorem dX12_heldAt_2 : decode cX12_heldAt 2 = .ok (.getfield 155, 3) := by decide +kernel
theorem dX12_heldAt_5 : decode cX12_heldAt 5 = .ok (.iload_n 2, 1) := by decide +kernel
theorem dX12_heldAt_6 : decode cX12_heldAt 6 = .ok (.iaload, 1) := by decide +kernel
theorem dX12_heldAt_7 : decode cX12_heldAt 7 = .ok (.if_icmp .ge 7, 3) := by decide +kernel
theorem dX12_heldAt_10 : decode cX12_heldAt 10 = .ok (.iconst (-1), 1) := by decide +kernel
theorem dX12_heldAt_11 : decode cX12_heldAt 11 = .ok (.goto 34, 3) := by decide +kernel
theorem dX12_heldAt_14 : decode cX12_heldAt 14 = .ok (.aload_n 0, 1) := by decide +kernel
theorem dX12_heldAt_15 : decode cX12_heldAt 15 = .ok (.getfield 188, 3) := by decide +kernel
theorem dX12_heldAt_18 : decode cX12_heldAt 18 = .ok (.bipush 60, 2) := by decide +kernel
theorem dX12_heldAt_20 : decode cX12_heldAt 20 = .ok (.iload_n 1, 1) := by decide +kernel
theorem dX12_heldAt_21 : decode cX12_heldAt 21 = .ok (.iload_n 2, 1) := by decide +kernel
theorem dX12_heldAt_22 : decode cX12_heldAt 22 = .ok (.invokestatic 275, 3) := by decide +kernel
theorem dX12_heldAt_25 : decode cX12_heldAt 25 = .ok (.imul, 1) := by decide +kernel
theorem dX12_heldAt_26 : decode cX12_heldAt 26 = .ok (.iload_n 3, 1) := by decide +kernel
theorem dX12_heldAt_27 : decode cX12_heldAt 27 = .ok (.aload_n 0, 1) := by decide +kernel
theorem dX12_heldAt_28 : decode cX12_heldAt 28 = .ok (.getfield 158, 3) := by decide +kernel
theorem dX12_heldAt_31 : decode cX12_heldAt 31 = .ok (.iload_n 2, 1) := by decide +kernel
theorem dX12_heldAt_32 : decode cX12_heldAt 32 = .ok (.iaload, 1) := by decide +kernel
theorem dX12_heldAt_33 : decode cX12_heldAt 33 = .ok (.invokestatic 278, 3) := by decide +kernel
theorem dX12_heldAt_36 : decode cX12_heldAt 36 = .ok (.iadd, 1) := by decide +kernel
theorem dX12_heldAt_37 : decode cX12_heldAt 37 = .ok (.aload_n 0, 1) := by decide +kernel
theorem dX12_heldAt_38 : decode cX12_heldAt 38 = .ok (.getfield 155, 3) := by decide +kernel
theorem dX12_heldAt_41 : decode cX12_heldAt 41 = .ok (.iload_n 2, 1) := by decide +kernel
theorem dX12_heldAt_42 : decode cX12_heldAt 42 = .ok (.iaload, 1) := by decide +kernel
theorem dX12_heldAt_43 : decode cX12_heldAt 43 = .ok (.isub, 1) := by decide +kernel
theorem dX12_heldAt_44 : decode cX12_heldAt 44 = .ok (.iaload, 1) := by decide +kernel
theorem dX12_heldAt_45 : decode cX12_heldAt 45 = .ok (.ireturn, 1) := by decide +kernel
theorem dX12_cost_0 : decode cX12_cost 0 = .ok (.aload_n 0, 1) := by decide +kernel
theorem dX12_cost_1 : decode cX12_cost 1 = .ok (.getfield 161, 3) := by decide +kernel
theorem dX12_cost_4 : decode cX12_cost 4 = .ok (.iload_n 1, 1) := by decide +kernel
theorem dX12_cost_5 : decode cX12_cost 5 = .ok (.iaload, 1) := by decide +kernel
theorem dX12_cost_6 : decode cX12_cost 6 = .ok (.iconst 1, 1) := by decide +kernel
theorem dX12_cost_7 : decode cX12_cost 7 = .ok (.if_icmp .ne 12, 3) := by decide +kernel
theorem dX12_cost_10 : decode cX12_cost 10 = .ok (.aload_n 0, 1) := by decide +kernel
theorem dX12_cost_11 : decode cX12_cost 11 = .ok (.getfield 146, 3) := by decide +kernel
theorem dX12_cost_14 : decode cX12_cost 14 = .ok (.iload_n 2, 1) := by decide +kernel
theorem dX12_cost_15 : decode cX12_cost 15 = .ok (.iaload, 1) := by decide +kernel
theorem dX12_cost_16 : decode cX12_cost 16 = .ok (.goto 9, 3) := by decide +kernel
theorem dX12_cost_19 : decode cX12_cost 19 = .ok (.aload_n 0, 1) := by decide +kernel
theorem dX12_cost_20 : decode cX12_cost 20 = .ok (.getfield 149, 3) := by decide +kernel
theorem dX12_cost_23 : decode cX12_cost 23 = .ok (.iload_n 2, 1) := by decide +kernel
theorem dX12_cost_24 : decode cX12_cost 24 = .ok (.iaload, 1) := by decide +kernel
theorem dX12_cost_25 : decode cX12_cost 25 = .ok (.ireturn, 1) := by decide +kernel
theorem dX12_isKnown_0 : decode cX12_isKnown 0 = .ok (.aload_n 0, 1) := by decide +kernel
theorem dX12_isKnown_1 : decode cX12_isKnown 1 = .ok (.getfield 161, 3) := by decide +kernel
theorem dX12_isKnown_4 : decode cX12_isKnown 4 = .ok (.iload_n 1, 1) := by decide +kernel
theorem dX12_isKnown_5 : decode cX12_isKnown 5 = .ok (.iaload, 1) := by decide +kernel
theorem dX12_isKnown_6 : decode cX12_isKnown 6 = .ok (.iconst 2, 1) := by decide +kernel
theorem dX12_isKnown_7 : decode cX12_isKnown 7 = .ok (.if_icmp .ge 7, 3) := by decide +kernel
theorem dX12_isKnown_10 : decode cX12_isKnown 10 = .ok (.iconst 1, 1) := by decide +kernel
theorem dX12_isKnown_11 : decode cX12_isKnown 11 = .ok (.goto 4, 3) := by decide +kernel
theorem dX12_isKnown_14 : decode cX12_isKnown 14 = .ok (.iconst 0, 1) := by decide +kernel
theorem dX12_isKnown_15 : decode cX12_isKnown 15 = .ok (.ireturn, 1) := by decide +kernel
theorem dX12_rowOn_0 : decode cX12_rowOn 0 = .ok (.aload_n 0, 1) := by decide +kernel
theorem dX12_rowOn_1 : decode cX12_rowOn 1 = .ok (.getfield 200, 3) := by decide +kernel
theorem dX12_rowOn_4 : decode cX12_rowOn 4 = .ok (.iload_n 1, 1) := by decide +kernel
theorem dX12_rowOn_5 : decode cX12_rowOn 5 = .ok (.iload_n 2, 1) := by decide +kernel
theorem dX12_rowOn_6 : decode cX12_rowOn 6 = .ok (.invokestatic 275, 3) := by decide +kernel
theorem dX12_rowOn_9 : decode cX12_rowOn 9 = .ok (.baload, 1) := by decide +kernel
theorem dX12_rowOn_10 : decode cX12_rowOn 10 = .ok (.ifCond .ne 5, 3) := by decide +kernel
theorem dX12_rowOn_13 : decode cX12_rowOn 13 = .ok (.iconst (-1), 1) := by decide +kernel
theorem dX12_rowOn_14 : decode cX12_rowOn 14 = .ok (.ireturn, 1) := by decide +kernel
theorem dX12_rowOn_15 : decode cX12_rowOn 15 = .ok (.aload_n 0, 1) := by decide +kernel
theorem dX12_rowOn_16 : decode cX12_rowOn 16 = .ok (.iload_n 1, 1) := by decide +kernel
theorem dX12_rowOn_17 : decode cX12_rowOn 17 = .ok (.iload_n 2, 1) := by decide +kernel
theorem dX12_rowOn_18 : decode cX12_rowOn 18 = .ok (.iload_n 3, 1) := by decide +kernel
theorem dX12_rowOn_19 : decode cX12_rowOn 19 = .ok (.invokevirtual 283, 3) := by decide +kernel
theorem dX12_rowOn_22 : decode cX12_rowOn 22 = .ok (.istore 4, 2) := by decide +kernel
theorem dX12_rowOn_24 : decode cX12_rowOn 24 = .ok (.iload 4, 2) := by decide +kernel
theorem dX12_rowOn_26 : decode cX12_rowOn 26 = .ok (.iconst (-1), 1) := by decide +kernel
theorem dX12_rowOn_27 : decode cX12_rowOn 27 = .ok (.if_icmp .ne 12, 3) := by decide +kernel
theorem dX12_rowOn_30 : decode cX12_rowOn 30 = .ok (.aload_n 0, 1) := by decide +kernel
theorem dX12_rowOn_31 : decode cX12_rowOn 31 = .ok (.getfield 240, 3) := by decide +kernel
theorem dX12_rowOn_34 : decode cX12_rowOn 34 = .ok (.ifCond .ne 5, 3) := by decide +kernel
theorem dX12_rowOn_37 : decode cX12_rowOn 37 = .ok (.iconst (-1), 1) := by decide +kernel
theorem dX12_rowOn_38 : decode cX12_rowOn 38 = .ok (.ireturn, 1) := by decide +kernel
theorem dX12_rowOn_39 : decode cX12_rowOn 39 = .ok (.aload_n 0, 1) := by decide +kernel
theorem dX12_rowOn_40 : decode cX12_rowOn 40 = .ok (.iload_n 2, 1) := by decide +kernel
theorem dX12_rowOn_41 : decode cX12_rowOn 41 = .ok (.iload 4, 2) := by decide +kernel
theorem dX12_rowOn_43 : decode cX12_rowOn 43 = .ok (.iconst (-1), 1) := by decide +kernel
theorem dX12_rowOn_44 : decode cX12_rowOn 44 = .ok (.if_icmp .ne 7, 3) := by decide +kernel
theorem dX12_rowOn_47 : decode cX12_rowOn 47 = .ok (.iconst 5, 1) := by decide +kernel
theorem dX12_rowOn_48 : decode cX12_rowOn 48 = .ok (.goto 5, 3) := by decide +kernel
theorem dX12_rowOn_51 : decode cX12_rowOn 51 = .ok (.iload 4, 2) := by decide +kernel
theorem dX12_rowOn_53 : decode cX12_rowOn 53 = .ok (.invokevirtual 286, 3) := by decide +kernel
theorem dX12_rowOn_56 : decode cX12_rowOn 56 = .ok (.ireturn, 1) := by decide +kernel
theorem dX12_lastDay_0 : decode cX12_lastDay 0 = .ok (.aload_n 0, 1) := by decide +kernel
theorem dX12_lastDay_1 : decode cX12_lastDay 1 = .ok (.getfield 158, 3) := by decide +kernel
theorem dX12_lastDay_4 : decode cX12_lastDay 4 = .ok (.iload_n 1, 1) := by decide +kernel
theorem dX12_lastDay_5 : decode cX12_lastDay 5 = .ok (.iaload, 1) := by decide +kernel
theorem dX12_lastDay_6 : decode cX12_lastDay 6 = .ok (.aload_n 0, 1) := by decide +kernel
theorem dX12_lastDay_7 : decode cX12_lastDay 7 = .ok (.getfield 164, 3) := by decide +kernel
theorem dX12_lastDay_10 : decode cX12_lastDay 10 = .ok (.iload_n 1, 1) := by decide +kernel
theorem dX12_lastDay_11 : decode cX12_lastDay 11 = .ok (.iaload, 1) := by decide +kernel
theorem dX12_lastDay_12 : decode cX12_lastDay 12 = .ok (.iconst 1, 1) := by decide +kernel
theorem dX12_lastDay_13 : decode cX12_lastDay 13 = .ok (.isub, 1) := by decide +kernel
theorem dX12_lastDay_14 : decode cX12_lastDay 14 = .ok (.invokestatic 278, 3) := by decide +kernel
theorem dX12_lastDay_17 : decode cX12_lastDay 17 = .ok (.ireturn, 1) := by decide +kernel
theorem dX12_prepare_0 : decode cX12_prepare 0 = .ok (.iconst 0, 1) := by decide +kernel
theorem dX12_prepare_1 : decode cX12_prepare 1 = .ok (.istore_n 1, 1) := by decide +kernel
theorem dX12_prepare_2 : decode cX12_prepare 2 = .ok (.iload_n 1, 1) := by decide +kernel
theorem dX12_prepare_3 : decode cX12_prepare 3 = .ok (.sipush 400, 3) := by decide +kernel
theorem dX12_prepare_6 : decode cX12_prepare 6 = .ok (.if_icmp .ge 37, 3) := by decide +kernel
theorem dX12_prepare_9 : decode cX12_prepare 9 = .ok (.aload_n 0, 1) := by decide +kernel
theorem dX12_prepare_10 : decode cX12_prepare 10 = .ok (.getfield 200, 3) := by decide +kernel
theorem dX12_prepare_13 : decode cX12_prepare 13 = .ok (.iload_n 1, 1) := by decide +kernel
theorem dX12_prepare_14 : decode cX12_prepare 14 = .ok (.iconst 0, 1) := by decide +kernel
theorem dX12_prepare_15 : decode cX12_prepare 15 = .ok (.bastore, 1) := by decide +kernel
theorem dX12_prepare_16 : decode cX12_prepare 16 = .ok (.aload_n 0, 1) := by decide +kernel
theorem dX12_prepare_17 : decode cX12_prepare 17 = .ok (.getfield 191, 3) := by decide +kernel
theorem dX12_prepare_20 : decode cX12_prepare 20 = .ok (.iload_n 1, 1) := by decide +kernel
theorem dX12_prepare_21 : decode cX12_prepare 21 = .ok (.iconst 0, 1) := by decide +kernel
theorem dX12_prepare_22 : decode cX12_prepare 22 = .ok (.iastore, 1) := by decide +kernel
theorem dX12_prepare_23 : decode cX12_prepare 23 = .ok (.aload_n 0, 1) := by decide +kernel
theorem dX12_prepare_24 : decode cX12_prepare 24 = .ok (.getfield 194, 3) := by decide +kernel
theorem dX12_prepare_27 : decode cX12_prepare 27 = .ok (.iload_n 1, 1) := by decide +kernel
theorem dX12_prepare_28 : decode cX12_prepare 28 = .ok (.iconst 0, 1) := by decide +kernel
theorem dX12_prepare_29 : decode cX12_prepare 29 = .ok (.iastore, 1) := by decide +kernel
theorem dX12_prepare_30 : decode cX12_prepare 30 = .ok (.aload_n 0, 1) := by decide +kernel
theorem dX12_prepare_31 : decode cX12_prepare 31 = .ok (.getfield 197, 3) := by decide +kernel
theorem dX12_prepare_34 : decode cX12_prepare 34 = .ok (.iload_n 1, 1) := by decide +kernel
theorem dX12_prepare_35 : decode cX12_prepare 35 = .ok (.iconst 0, 1) := by decide +kernel
theorem dX12_prepare_36 : decode cX12_prepare 36 = .ok (.iastore, 1) := by decide +kernel
theorem dX12_prepare_37 : decode cX12_prepare 37 = .ok (.iinc 1 1, 3) := by decide +kernel
theorem dX12_prepare_40 : decode cX12_prepare 40 = .ok (.goto (-38), 3) := by decide +kernel
theorem dX12_prepare_43 : decode cX12_prepare 43 = .ok (.iconst 0, 1) := by decide +kernel
theorem dX12_prepare_44 : decode cX12_prepare 44 = .ok (.istore_n 1, 1) := by decide +kernel
theorem dX12_prepare_45 : decode cX12_prepare 45 = .ok (.iload_n 1, 1) := by decide +kernel
theorem dX12_prepare_46 : decode cX12_prepare 46 = .ok (.sipush 24000, 3) := by decide +kernel
theorem dX12_prepare_49 : decode cX12_prepare 49 = .ok (.if_icmp .ge 16, 3) := by decide +kernel
theorem dX12_prepare_52 : decode cX12_prepare 52 = .ok (.aload_n 0, 1) := by decide +kernel
theorem dX12_prepare_53 : decode cX12_prepare 53 = .ok (.getfield 188, 3) := by decide +kernel
theorem dX12_prepare_56 : decode cX12_prepare 56 = .ok (.iload_n 1, 1) := by decide +kernel
theorem dX12_prepare_57 : decode cX12_prepare 57 = .ok (.iconst (-1), 1) := by decide +kernel
theorem dX12_prepare_58 : decode cX12_prepare 58 = .ok (.iastore, 1) := by decide +kernel
theorem dX12_prepare_59 : decode cX12_prepare 59 = .ok (.iinc 1 1, 3) := by decide +kernel
theorem dX12_prepare_62 : decode cX12_prepare 62 = .ok (.goto (-17), 3) := by decide +kernel
theorem dX12_prepare_65 : decode cX12_prepare 65 = .ok (.iconst 0, 1) := by decide +kernel
theorem dX12_prepare_66 : decode cX12_prepare 66 = .ok (.istore_n 1, 1) := by decide +kernel
theorem dX12_prepare_67 : decode cX12_prepare 67 = .ok (.iload_n 1, 1) := by decide +kernel
theorem dX12_prepare_68 : decode cX12_prepare 68 = .ok (.aload_n 0, 1) := by decide +kernel
theorem dX12_prepare_69 : decode cX12_prepare 69 = .ok (.getfield 268, 3) := by decide +kernel
theorem dX12_prepare_72 : decode cX12_prepare 72 = .ok (.if_icmp .ge 89, 3) := by decide +kernel
theorem dX12_prepare_75 : decode cX12_prepare 75 = .ok (.aload_n 0, 1) := by decide +kernel
theorem dX12_prepare_76 : decode cX12_prepare 76 = .ok (.getfield 167, 3) := by decide +kernel
theorem dX12_prepare_79 : decode cX12_prepare 79 = .ok (.iload_n 1, 1) := by decide +kernel
theorem dX12_prepare_80 : decode cX12_prepare 80 = .ok (.iaload, 1) := by decide +kernel
theorem dX12_prepare_81 : decode cX12_prepare 81 = .ok (.aload_n 0, 1) := by decide +kernel
theorem dX12_prepare_82 : decode cX12_prepare 82 = .ok (.getfield 170, 3) := by decide +kernel
theorem dX12_prepare_85 : decode cX12_prepare 85 = .ok (.iload_n 1, 1) := by decide +kernel
theorem dX12_prepare_86 : decode cX12_prepare 86 = .ok (.iaload, 1) := by decide +kernel
theorem dX12_prepare_87 : decode cX12_prepare 87 = .ok (.invokestatic 275, 3) := by decide +kernel
theorem dX12_prepare_90 : decode cX12_prepare 90 = .ok (.istore_n 2, 1) := by decide +kernel
theorem dX12_prepare_91 : decode cX12_prepare 91 = .ok (.aload_n 0, 1) := by decide +kernel
theorem dX12_prepare_92 : decode cX12_prepare 92 = .ok (.getfield 200, 3) := by decide +kernel
theorem dX12_prepare_95 : decode cX12_prepare 95 = .ok (.iload_n 2, 1) := by decide +kernel
theorem dX12_prepare_96 : decode cX12_prepare 96 = .ok (.iconst 1, 1) := by decide +kernel
theorem dX12_prepare_97 : decode cX12_prepare 97 = .ok (.bastore, 1) := by decide +kernel
theorem dX12_prepare_98 : decode cX12_prepare 98 = .ok (.aload_n 0, 1) := by decide +kernel
theorem dX12_prepare_99 : decode cX12_prepare 99 = .ok (.getfield 173, 3) := by decide +kernel
theorem dX12_prepare_102 : decode cX12_prepare 102 = .ok (.iload_n 1, 1) := by decide +kernel
theorem dX12_prepare_103 : decode cX12_prepare 103 = .ok (.iaload, 1) := by decide +kernel
theorem dX12_prepare_104 : decode cX12_prepare 104 = .ok (.istore_n 3, 1) := by decide +kernel
theorem dX12_prepare_105 : decode cX12_prepare 105 = .ok (.iload_n 3, 1) := by decide +kernel
theorem dX12_prepare_106 : decode cX12_prepare 106 = .ok (.aload_n 0, 1) := by decide +kernel
theorem dX12_prepare_107 : decode cX12_prepare 107 = .ok (.getfield 158, 3) := by decide +kernel
theorem dX12_prepare_110 : decode cX12_prepare 110 = .ok (.aload_n 0, 1) := by decide +kernel
theorem dX12_prepare_111 : decode cX12_prepare 111 = .ok (.getfield 170, 3) := by decide +kernel
theorem dX12_prepare_114 : decode cX12_prepare 114 = .ok (.iload_n 1, 1) := by decide +kernel
theorem dX12_prepare_115 : decode cX12_prepare 115 = .ok (.iaload, 1) := by decide +kernel
theorem dX12_prepare_116 : decode cX12_prepare 116 = .ok (.iaload, 1) := by decide +kernel
theorem dX12_prepare_117 : decode cX12_prepare 117 = .ok (.if_icmp .gt 38, 3) := by decide +kernel
theorem dX12_prepare_120 : decode cX12_prepare 120 = .ok (.aload_n 0, 1) := by decide +kernel
theorem dX12_prepare_121 : decode cX12_prepare 121 = .ok (.getfield 188, 3) := by decide +kernel
theorem dX12_prepare_124 : decode cX12_prepare 124 = .ok (.bipush 60, 2) := by decide +kernel
theorem dX12_prepare_126 : decode cX12_prepare 126 = .ok (.iload_n 2, 1) := by decide +kernel
theorem dX12_prepare_127 : decode cX12_prepare 127 = .ok (.imul, 1) := by decide +kernel
theorem dX12_prepare_128 : decode cX12_prepare 128 = .ok (.iload_n 3, 1) := by decide +kernel
theorem dX12_prepare_129 : decode cX12_prepare 129 = .ok (.iadd, 1) := by decide +kernel
theorem dX12_prepare_130 : decode cX12_prepare 130 = .ok (.aload_n 0, 1) := by decide +kernel
theorem dX12_prepare_131 : decode cX12_prepare 131 = .ok (.getfield 155, 3) := by decide +kernel
theorem dX12_prepare_134 : decode cX12_prepare 134 = .ok (.aload_n 0, 1) := by decide +kernel
theorem dX12_prepare_135 : decode cX12_prepare 135 = .ok (.getfield 170, 3) := by decide +kernel
theorem dX12_prepare_138 : decode cX12_prepare 138 = .ok (.iload_n 1, 1) := by decide +kernel
theorem dX12_prepare_139 : decode cX12_prepare 139 = .ok (.iaload, 1) := by decide +kernel
theorem dX12_prepare_140 : decode cX12_prepare 140 = .ok (.iaload, 1) := by decide +kernel
theorem dX12_prepare_141 : decode cX12_prepare 141 = .ok (.isub, 1) := by decide +kernel
theorem dX12_prepare_142 : decode cX12_prepare 142 = .ok (.aload_n 0, 1) := by decide +kernel
theorem dX12_prepare_143 : decode cX12_prepare 143 = .ok (.getfield 176, 3) := by decide +kernel
theorem dX12_prepare_146 : decode cX12_prepare 146 = .ok (.iload_n 1, 1) := by decide +kernel
theorem dX12_prepare_147 : decode cX12_prepare 147 = .ok (.iaload, 1) := by decide +kernel
theorem dX12_prepare_148 : decode cX12_prepare 148 = .ok (.iastore, 1) := by decide +kernel
theorem dX12_prepare_149 : decode cX12_prepare 149 = .ok (.iinc 3 1, 3) := by decide +kernel
theorem dX12_prepare_152 : decode cX12_prepare 152 = .ok (.goto (-47), 3) := by decide +kernel
theorem dX12_prepare_155 : decode cX12_prepare 155 = .ok (.iinc 1 1, 3) := by decide +kernel
theorem dX12_prepare_158 : decode cX12_prepare 158 = .ok (.goto (-91), 3) := by decide +kernel
theorem dX12_prepare_161 : decode cX12_prepare 161 = .ok (.iconst 0, 1) := by decide +kernel
theorem dX12_prepare_162 : decode cX12_prepare 162 = .ok (.istore_n 1, 1) := by decide +kernel
theorem dX12_prepare_163 : decode cX12_prepare 163 = .ok (.iload_n 1, 1) := by decide +kernel
theorem dX12_prepare_164 : decode cX12_prepare 164 = .ok (.bipush 20, 2) := by decide +kernel
theorem dX12_prepare_166 : decode cX12_prepare 166 = .ok (.if_icmp .ge 39, 3) := by decide +kernel
theorem dX12_prepare_169 : decode cX12_prepare 169 = .ok (.iconst 0, 1) := by decide +kernel
theorem dX12_prepare_170 : decode cX12_prepare 170 = .ok (.istore_n 2, 1) := by decide +kernel
theorem dX12_prepare_171 : decode cX12_prepare 171 = .ok (.iload_n 2, 1) := by decide +kernel
theorem dX12_prepare_172 : decode cX12_prepare 172 = .ok (.aload_n 0, 1) := by decide +kernel
theorem dX12_prepare_173 : decode cX12_prepare 173 = .ok (.getfield 252, 3) := by decide +kernel
theorem dX12_prepare_176 : decode cX12_prepare 176 = .ok (.if_icmp .ge 23, 3) := by decide +kernel
theorem dX12_prepare_179 : decode cX12_prepare 179 = .ok (.aload_n 0, 1) := by decide +kernel
theorem dX12_prepare_180 : decode cX12_prepare 180 = .ok (.iload_n 2, 1) := by decide +kernel
theorem dX12_prepare_181 : decode cX12_prepare 181 = .ok (.invokevirtual 289, 3) := by decide +kernel
theorem dX12_prepare_184 : decode cX12_prepare 184 = .ok (.ifCond .eq 9, 3) := by decide +kernel
theorem dX12_prepare_187 : decode cX12_prepare 187 = .ok (.aload_n 0, 1) := by decide +kernel
theorem dX12_prepare_188 : decode cX12_prepare 188 = .ok (.iload_n 1, 1) := by decide +kernel
