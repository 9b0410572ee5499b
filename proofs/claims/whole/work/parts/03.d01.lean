theorem dX2_init_47 : decode cX2_init 47 = .ok (.aload_n 0, 1) := by decide +kernel
theorem dX2_init_48 : decode cX2_init 48 = .ok (.iconst (-1), 1) := by decide +kernel
theorem dX2_init_49 : decode cX2_init 49 = .ok (.putfield 27, 3) := by decide +kernel
theorem dX2_init_52 : decode cX2_init 52 = .ok (.aload_n 0, 1) := by decide +kernel
theorem dX2_init_53 : decode cX2_init 53 = .ok (.aload_n 1, 1) := by decide +kernel
theorem dX2_init_54 : decode cX2_init 54 = .ok (.putfield 31, 3) := by decide +kernel
theorem dX2_init_57 : decode cX2_init 57 = .ok (.aload_n 0, 1) := by decide +kernel
theorem dX2_init_58 : decode cX2_init 58 = .ok (.aload_n 2, 1) := by decide +kernel
theorem dX2_init_59 : decode cX2_init 59 = .ok (.putfield 35, 3) := by decide +kernel
theorem dX2_init_62 : decode cX2_init 62 = .ok (.aload_n 0, 1) := by decide +kernel
theorem dX2_init_63 : decode cX2_init 63 = .ok (.aload_n 3, 1) := by decide +kernel
theorem dX2_init_64 : decode cX2_init 64 = .ok (.putfield 39, 3) := by decide +kernel
theorem dX2_init_67 : decode cX2_init 67 = .ok (.return_, 1) := by decide +kernel
theorem dX2_refresh_0 : decode cX2_refresh 0 = .ok (.aload_n 0, 1) := by decide +kernel
theorem dX2_refresh_1 : decode cX2_refresh 1 = .ok (.getfield 39, 3) := by decide +kernel
theorem dX2_refresh_4 : decode cX2_refresh 4 = .ok (.invokevirtual 43, 3) := by decide +kernel
theorem dX2_refresh_7 : decode cX2_refresh 7 = .ok (.aload_n 0, 1) := by decide +kernel
theorem dX2_refresh_8 : decode cX2_refresh 8 = .ok (.getfield 27, 3) := by decide +kernel
theorem dX2_refresh_11 : decode cX2_refresh 11 = .ok (.aload_n 0, 1) := by decide +kernel
theorem dX2_refresh_12 : decode cX2_refresh 12 = .ok (.getfield 31, 3) := by decide +kernel
theorem dX2_refresh_15 : decode cX2_refresh 15 = .ok (.getfield 48, 3) := by decide +kernel
theorem dX2_refresh_18 : decode cX2_refresh 18 = .ok (.if_icmp .ne 4, 3) := by decide +kernel
theorem dX2_refresh_21 : decode cX2_refresh 21 = .ok (.return_, 1) := by decide +kernel
theorem dX2_refresh_22 : decode cX2_refresh 22 = .ok (.aload_n 0, 1) := by decide +kernel
theorem dX2_refresh_23 : decode cX2_refresh 23 = .ok (.aload_n 0, 1) := by decide +kernel
theorem dX2_refresh_24 : decode cX2_refresh 24 = .ok (.getfield 31, 3) := by decide +kernel
theorem dX2_refresh_27 : decode cX2_refresh 27 = .ok (.getfield 48, 3) := by decide +kernel
theorem dX2_refresh_30 : decode cX2_refresh 30 = .ok (.putfield 27, 3) := by decide +kernel
theorem dX2_refresh_33 : decode cX2_refresh 33 = .ok (.aload_n 0, 1) := by decide +kernel
theorem dX2_refresh_34 : decode cX2_refresh 34 = .ok (.getfield 18, 3) := by decide +kernel
theorem dX2_refresh_37 : decode cX2_refresh 37 = .ok (.bipush (-2), 2) := by decide +kernel
theorem dX2_refresh_39 : decode cX2_refresh 39 = .ok (.invokestatic 53, 3) := by decide +kernel
theorem dX2_refresh_42 : decode cX2_refresh 42 = .ok (.aload_n 0, 1) := by decide +kernel
theorem dX2_refresh_43 : decode cX2_refresh 43 = .ok (.invokevirtual 59, 3) := by decide +kernel
theorem dX2_refresh_46 : decode cX2_refresh 46 = .ok (.return_, 1) := by decide +kernel
theorem dX2_countCopies_0 : decode cX2_countCopies 0 = .ok (.iconst 0, 1) := by decide +kernel
theorem dX2_countCopies_1 : decode cX2_countCopies 1 = .ok (.istore_n 3, 1) := by decide +kernel
theorem dX2_countCopies_2 : decode cX2_countCopies 2 = .ok (.iconst 0, 1) := by decide +kernel
theorem dX2_countCopies_3 : decode cX2_countCopies 3 = .ok (.istore 4, 2) := by decide +kernel
theorem dX2_countCopies_5 : decode cX2_countCopies 5 = .ok (.iload 4, 2) := by decide +kernel
theorem dX2_countCopies_7 : decode cX2_countCopies 7 = .ok (.aload_n 0, 1) := by decide +kernel
theorem dX2_countCopies_8 : decode cX2_countCopies 8 = .ok (.getfield 31, 3) := by decide +kernel
theorem dX2_countCopies_11 : decode cX2_countCopies 11 = .ok (.getfield 62, 3) := by decide +kernel
theorem dX2_countCopies_14 : decode cX2_countCopies 14 = .ok (.if_icmp .ge 48, 3) := by decide +kernel
theorem dX2_countCopies_17 : decode cX2_countCopies 17 = .ok (.aload_n 0, 1) := by decide +kernel
theorem dX2_countCopies_18 : decode cX2_countCopies 18 = .ok (.getfield 31, 3) := by decide +kernel
theorem dX2_countCopies_21 : decode cX2_countCopies 21 = .ok (.getfield 65, 3) := by decide +kernel
theorem dX2_countCopies_24 : decode cX2_countCopies 24 = .ok (.iload 4, 2) := by decide +kernel
theorem dX2_countCopies_26 : decode cX2_countCopies 26 = .ok (.aaload, 1) := by decide +kernel
theorem dX2_countCopies_27 : decode cX2_countCopies 27 = .ok (.astore 5, 2) := by decide +kernel
theorem dX2_countCopies_29 : decode cX2_countCopies 29 = .ok (.aload 5, 2) := by decide +kernel
theorem dX2_countCopies_31 : decode cX2_countCopies 31 = .ok (.ifnull 25, 3) := by decide +kernel
theorem dX2_countCopies_34 : decode cX2_countCopies 34 = .ok (.aload 5, 2) := by decide +kernel
theorem dX2_countCopies_36 : decode cX2_countCopies 36 = .ok (.getfield 69, 3) := by decide +kernel
theorem dX2_countCopies_39 : decode cX2_countCopies 39 = .ok (.iload_n 1, 1) := by decide +kernel
theorem dX2_countCopies_40 : decode cX2_countCopies 40 = .ok (.if_icmp .ne 16, 3) := by decide +kernel
theorem dX2_countCopies_43 : decode cX2_countCopies 43 = .ok (.aload_n 0, 1) := by decide +kernel
theorem dX2_countCopies_44 : decode cX2_countCopies 44 = .ok (.aload 5, 2) := by decide +kernel
theorem dX2_countCopies_46 : decode cX2_countCopies 46 = .ok (.iload_n 2, 1) := by decide +kernel
theorem dX2_countCopies_47 : decode cX2_countCopies 47 = .ok (.invokevirtual 74, 3) := by decide +kernel
theorem dX2_countCopies_50 : decode cX2_countCopies 50 = .ok (.ifCond .eq 6, 3) := by decide +kernel
theorem dX2_countCopies_53 : decode cX2_countCopies 53 = .ok (.iinc 3 1, 3) := by decide +kernel
theorem dX2_countCopies_56 : decode cX2_countCopies 56 = .ok (.iinc 4 1, 3) := by decide +kernel
theorem dX2_countCopies_59 : decode cX2_countCopies 59 = .ok (.goto (-54), 3) := by decide +kernel
theorem dX2_countCopies_62 : decode cX2_countCopies 62 = .ok (.iload_n 3, 1) := by decide +kernel
theorem dX2_countCopies_63 : decode cX2_countCopies 63 = .ok (.ireturn, 1) := by decide +kernel
theorem dX2_isCopy_0 : decode cX2_isCopy 0 = .ok (.aload_n 0, 1) := by decide +kernel
theorem dX2_isCopy_1 : decode cX2_isCopy 1 = .ok (.getfield 31, 3) := by decide +kernel
theorem dX2_isCopy_4 : decode cX2_isCopy 4 = .ok (.iload_n 2, 1) := by decide +kernel
theorem dX2_isCopy_5 : decode cX2_isCopy 5 = .ok (.aload_n 1, 1) := by decide +kernel
theorem dX2_isCopy_6 : decode cX2_isCopy 6 = .ok (.getfield 78, 3) := by decide +kernel
theorem dX2_isCopy_9 : decode cX2_isCopy 9 = .ok (.invokestatic 81, 3) := by decide +kernel
theorem dX2_isCopy_12 : decode cX2_isCopy 12 = .ok (.aload_n 1, 1) := by decide +kernel
theorem dX2_isCopy_13 : decode cX2_isCopy 13 = .ok (.getfield 85, 3) := by decide +kernel
theorem dX2_isCopy_16 : decode cX2_isCopy 16 = .ok (.iconst 1, 1) := by decide +kernel
theorem dX2_isCopy_17 : decode cX2_isCopy 17 = .ok (.isub, 1) := by decide +kernel
theorem dX2_isCopy_18 : decode cX2_isCopy 18 = .ok (.invokevirtual 88, 3) := by decide +kernel
theorem dX2_isCopy_21 : decode cX2_isCopy 21 = .ok (.astore_n 3, 1) := by decide +kernel
theorem dX2_isCopy_22 : decode cX2_isCopy 22 = .ok (.aload_n 3, 1) := by decide +kernel
theorem dX2_isCopy_23 : decode cX2_isCopy 23 = .ok (.ifnull 37, 3) := by decide +kernel
theorem dX2_isCopy_26 : decode cX2_isCopy 26 = .ok (.aload_n 3, 1) := by decide +kernel
theorem dX2_isCopy_27 : decode cX2_isCopy 27 = .ok (.getfield 92, 3) := by decide +kernel
theorem dX2_isCopy_30 : decode cX2_isCopy 30 = .ok (.aload_n 1, 1) := by decide +kernel
theorem dX2_isCopy_31 : decode cX2_isCopy 31 = .ok (.getfield 92, 3) := by decide +kernel
theorem dX2_isCopy_34 : decode cX2_isCopy 34 = .ok (.if_icmp .ne 26, 3) := by decide +kernel
theorem dX2_isCopy_37 : decode cX2_isCopy 37 = .ok (.aload_n 1, 1) := by decide +kernel
theorem dX2_isCopy_38 : decode cX2_isCopy 38 = .ok (.getfield 85, 3) := by decide +kernel
theorem dX2_isCopy_41 : decode cX2_isCopy 41 = .ok (.aload_n 3, 1) := by decide +kernel
theorem dX2_isCopy_42 : decode cX2_isCopy 42 = .ok (.getfield 85, 3) := by decide +kernel
theorem dX2_isCopy_45 : decode cX2_isCopy 45 = .ok (.isub, 1) := by decide +kernel
theorem dX2_isCopy_46 : decode cX2_isCopy 46 = .ok (.aload_n 0, 1) := by decide +kernel
theorem dX2_isCopy_47 : decode cX2_isCopy 47 = .ok (.getfield 35, 3) := by decide +kernel
theorem dX2_isCopy_50 : decode cX2_isCopy 50 = .ok (.getfield 95, 3) := by decide +kernel
theorem dX2_isCopy_53 : decode cX2_isCopy 53 = .ok (.if_icmp .gt 7, 3) := by decide +kernel
theorem dX2_isCopy_56 : decode cX2_isCopy 56 = .ok (.iconst 1, 1) := by decide +kernel
theorem dX2_isCopy_57 : decode cX2_isCopy 57 = .ok (.goto 4, 3) := by decide +kernel
theorem dX2_isCopy_60 : decode cX2_isCopy 60 = .ok (.iconst 0, 1) := by decide +kernel
theorem dX2_isCopy_61 : decode cX2_isCopy 61 = .ok (.ireturn, 1) := by decide +kernel
theorem dX2_findCopiers_0 : decode cX2_findCopiers 0 = .ok (.aload_n 0, 1) := by decide +kernel
theorem dX2_findCopiers_1 : decode cX2_findCopiers 1 = .ok (.getfield 9, 3) := by decide +kernel
theorem dX2_findCopiers_4 : decode cX2_findCopiers 4 = .ok (.sipush 1000, 3) := by decide +kernel
theorem dX2_findCopiers_7 : decode cX2_findCopiers 7 = .ok (.invokestatic 53, 3) := by decide +kernel
theorem dX2_findCopiers_10 : decode cX2_findCopiers 10 = .ok (.aload_n 0, 1) := by decide +kernel
theorem dX2_findCopiers_11 : decode cX2_findCopiers 11 = .ok (.getfield 35, 3) := by decide +kernel
theorem dX2_findCopiers_14 : decode cX2_findCopiers 14 = .ok (.invokevirtual 100, 3) := by decide +kernel
theorem dX2_findCopiers_17 : decode cX2_findCopiers 17 = .ok (.ifCond .ne 4, 3) := by decide +kernel
theorem dX2_findCopiers_20 : decode cX2_findCopiers 20 = .ok (.return_, 1) := by decide +kernel
theorem dX2_findCopiers_21 : decode cX2_findCopiers 21 = .ok (.aload_n 0, 1) := by decide +kernel
theorem dX2_findCopiers_22 : decode cX2_findCopiers 22 = .ok (.getfield 15, 3) := by decide +kernel
theorem dX2_findCopiers_25 : decode cX2_findCopiers 25 = .ok (.iconst 0, 1) := by decide +kernel
theorem dX2_findCopiers_26 : decode cX2_findCopiers 26 = .ok (.invokestatic 53, 3) := by decide +kernel
theorem dX2_findCopiers_29 : decode cX2_findCopiers 29 = .ok (.iconst 0, 1) := by decide +kernel
theorem dX2_findCopiers_30 : decode cX2_findCopiers 30 = .ok (.istore_n 1, 1) := by decide +kernel
theorem dX2_findCopiers_31 : decode cX2_findCopiers 31 = .ok (.iload_n 1, 1) := by decide +kernel
theorem dX2_findCopiers_32 : decode cX2_findCopiers 32 = .ok (.aload_n 0, 1) := by decide +kernel
theorem dX2_findCopiers_33 : decode cX2_findCopiers 33 = .ok (.getfield 31, 3) := by decide +kernel
theorem dX2_findCopiers_36 : decode cX2_findCopiers 36 = .ok (.getfield 62, 3) := by decide +kernel
theorem dX2_findCopiers_39 : decode cX2_findCopiers 39 = .ok (.if_icmp .ge 37, 3) := by decide +kernel
theorem dX2_findCopiers_42 : decode cX2_findCopiers 42 = .ok (.iconst 0, 1) := by decide +kernel
theorem dX2_findCopiers_43 : decode cX2_findCopiers 43 = .ok (.istore_n 2, 1) := by decide +kernel
theorem dX2_findCopiers_44 : decode cX2_findCopiers 44 = .ok (.iload_n 2, 1) := by decide +kernel
theorem dX2_findCopiers_45 : decode cX2_findCopiers 45 = .ok (.bipush 20, 2) := by decide +kernel
theorem dX2_findCopiers_47 : decode cX2_findCopiers 47 = .ok (.if_icmp .ge 23, 3) := by decide +kernel
theorem dX2_findCopiers_50 : decode cX2_findCopiers 50 = .ok (.aload_n 0, 1) := by decide +kernel
theorem dX2_findCopiers_51 : decode cX2_findCopiers 51 = .ok (.aload_n 0, 1) := by decide +kernel
theorem dX2_findCopiers_52 : decode cX2_findCopiers 52 = .ok (.getfield 31, 3) := by decide +kernel
theorem dX2_findCopiers_55 : decode cX2_findCopiers 55 = .ok (.getfield 65, 3) := by decide +kernel
theorem dX2_findCopiers_58 : decode cX2_findCopiers 58 = .ok (.iload_n 1, 1) := by decide +kernel
theorem dX2_findCopiers_59 : decode cX2_findCopiers 59 = .ok (.aaload, 1) := by decide +kernel
theorem dX2_findCopiers_60 : decode cX2_findCopiers 60 = .ok (.iload_n 2, 1) := by decide +kernel
theorem dX2_findCopiers_61 : decode cX2_findCopiers 61 = .ok (.invokevirtual 104, 3) := by decide +kernel
theorem dX2_findCopiers_64 : decode cX2_findCopiers 64 = .ok (.iinc 2 1, 3) := by decide +kernel
theorem dX2_findCopiers_67 : decode cX2_findCopiers 67 = .ok (.goto (-23), 3) := by decide +kernel
theorem dX2_findCopiers_70 : decode cX2_findCopiers 70 = .ok (.iinc 1 1, 3) := by decide +kernel
theorem dX2_findCopiers_73 : decode cX2_findCopiers 73 = .ok (.goto (-42), 3) := by decide +kernel
theorem dX2_findCopiers_76 : decode cX2_findCopiers 76 = .ok (.return_, 1) := by decide +kernel
theorem dX2_noteCopy_0 : decode cX2_noteCopy 0 = .ok (.aload_n 1, 1) := by decide +kernel
theorem dX2_noteCopy_1 : decode cX2_noteCopy 1 = .ok (.ifnull 20, 3) := by decide +kernel
theorem dX2_noteCopy_4 : decode cX2_noteCopy 4 = .ok (.aload_n 1, 1) := by decide +kernel
theorem dX2_noteCopy_5 : decode cX2_noteCopy 5 = .ok (.getfield 69, 3) := by decide +kernel
theorem dX2_noteCopy_8 : decode cX2_noteCopy 8 = .ok (.iload_n 2, 1) := by decide +kernel
theorem dX2_noteCopy_9 : decode cX2_noteCopy 9 = .ok (.if_icmp .eq 12, 3) := by decide +kernel
theorem dX2_noteCopy_12 : decode cX2_noteCopy 12 = .ok (.aload_n 0, 1) := by decide +kernel
theorem dX2_noteCopy_13 : decode cX2_noteCopy 13 = .ok (.aload_n 1, 1) := by decide +kernel
theorem dX2_noteCopy_14 : decode cX2_noteCopy 14 = .ok (.iload_n 2, 1) := by decide +kernel
theorem dX2_noteCopy_15 : decode cX2_noteCopy 15 = .ok (.invokevirtual 74, 3) := by decide +kernel
theorem dX2_noteCopy_18 : decode cX2_noteCopy 18 = .ok (.ifCond .ne 4, 3) := by decide +kernel
theorem dX2_noteCopy_21 : decode cX2_noteCopy 21 = .ok (.return_, 1) := by decide +kernel
theorem dX2_noteCopy_22 : decode cX2_noteCopy 22 = .ok (.aload_n 1, 1) := by decide +kernel
theorem dX2_noteCopy_23 : decode cX2_noteCopy 23 = .ok (.getfield 69, 3) := by decide +kernel
theorem dX2_noteCopy_26 : decode cX2_noteCopy 26 = .ok (.iload_n 2, 1) := by decide +kernel
theorem dX2_noteCopy_27 : decode cX2_noteCopy 27 = .ok (.invokestatic 108, 3) := by decide +kernel
theorem dX2_noteCopy_30 : decode cX2_noteCopy 30 = .ok (.istore_n 3, 1) := by decide +kernel
theorem dX2_noteCopy_31 : decode cX2_noteCopy 31 = .ok (.aload_n 0, 1) := by decide +kernel
theorem dX2_noteCopy_32 : decode cX2_noteCopy 32 = .ok (.getfield 15, 3) := by decide +kernel
theorem dX2_noteCopy_35 : decode cX2_noteCopy 35 = .ok (.iload_n 3, 1) := by decide +kernel
theorem dX2_noteCopy_36 : decode cX2_noteCopy 36 = .ok (.dup2, 1) := by decide +kernel
theorem dX2_noteCopy_37 : decode cX2_noteCopy 37 = .ok (.iaload, 1) := by decide +kernel
theorem dX2_noteCopy_38 : decode cX2_noteCopy 38 = .ok (.iconst 1, 1) := by decide +kernel
theorem dX2_noteCopy_39 : decode cX2_noteCopy 39 = .ok (.iadd, 1) := by decide +kernel
theorem dX2_noteCopy_40 : decode cX2_noteCopy 40 = .ok (.iastore, 1) := by decide +kernel
theorem dX2_noteCopy_41 : decode cX2_noteCopy 41 = .ok (.aload_n 0, 1) := by decide +kernel
theorem dX2_noteCopy_42 : decode cX2_noteCopy 42 = .ok (.getfield 15, 3) := by decide +kernel
theorem dX2_noteCopy_45 : decode cX2_noteCopy 45 = .ok (.iload_n 3, 1) := by decide +kernel
theorem dX2_noteCopy_46 : decode cX2_noteCopy 46 = .ok (.iaload, 1) := by decide +kernel
theorem dX2_noteCopy_47 : decode cX2_noteCopy 47 = .ok (.aload_n 0, 1) := by decide +kernel
theorem dX2_noteCopy_48 : decode cX2_noteCopy 48 = .ok (.getfield 35, 3) := by decide +kernel
theorem dX2_noteCopy_51 : decode cX2_noteCopy 51 = .ok (.getfield 111, 3) := by decide +kernel
theorem dX2_noteCopy_54 : decode cX2_noteCopy 54 = .ok (.if_icmp .ne 13, 3) := by decide +kernel
theorem dX2_noteCopy_57 : decode cX2_noteCopy 57 = .ok (.aload_n 0, 1) := by decide +kernel
theorem dX2_noteCopy_58 : decode cX2_noteCopy 58 = .ok (.getfield 9, 3) := by decide +kernel
theorem dX2_noteCopy_61 : decode cX2_noteCopy 61 = .ok (.iload_n 3, 1) := by decide +kernel
theorem dX2_noteCopy_62 : decode cX2_noteCopy 62 = .ok (.aload_n 1, 1) := by decide +kernel
theorem dX2_noteCopy_63 : decode cX2_noteCopy 63 = .ok (.getfield 85, 3) := by decide +kernel
theorem dX2_noteCopy_66 : decode cX2_noteCopy 66 = .ok (.iastore, 1) := by decide +kernel
theorem dX2_noteCopy_67 : decode cX2_noteCopy 67 = .ok (.return_, 1) := by decide +kernel
theorem dX2_weightOn_0 : decode cX2_weightOn 0 = .ok (.aload_n 0, 1) := by decide +kernel
theorem dX2_weightOn_1 : decode cX2_weightOn 1 = .ok (.getfield 35, 3) := by decide +kernel
theorem dX2_weightOn_4 : decode cX2_weightOn 4 = .ok (.invokevirtual 114, 3) := by decide +kernel
theorem dX2_weightOn_7 : decode cX2_weightOn 7 = .ok (.ifCond .ne 5, 3) := by decide +kernel
theorem dX2_weightOn_10 : decode cX2_weightOn 10 = .ok (.iconst 1, 1) := by decide +kernel
theorem dX2_weightOn_11 : decode cX2_weightOn 11 = .ok (.ireturn, 1) := by decide +kernel
theorem dX2_weightOn_12 : decode cX2_weightOn 12 = .ok (.iconst 0, 1) := by decide +kernel
theorem dX2_weightOn_13 : decode cX2_weightOn 13 = .ok (.istore_n 3, 1) := by decide +kernel
theorem dX2_weightOn_14 : decode cX2_weightOn 14 = .ok (.iconst 0, 1) := by decide +kernel
theorem dX2_weightOn_15 : decode cX2_weightOn 15 = .ok (.istore 4, 2) := by decide +kernel
theorem dX2_weightOn_17 : decode cX2_weightOn 17 = .ok (.iconst 0, 1) := by decide +kernel
theorem dX2_weightOn_18 : decode cX2_weightOn 18 = .ok (.istore 5, 2) := by decide +kernel
theorem dX2_weightOn_20 : decode cX2_weightOn 20 = .ok (.iload 5, 2) := by decide +kernel
theorem dX2_weightOn_22 : decode cX2_weightOn 22 = .ok (.aload_n 0, 1) := by decide +kernel
theorem dX2_weightOn_23 : decode cX2_weightOn 23 = .ok (.getfield 31, 3) := by decide +kernel
theorem dX2_weightOn_26 : decode cX2_weightOn 26 = .ok (.getfield 117, 3) := by decide +kernel
theorem dX2_weightOn_29 : decode cX2_weightOn 29 = .ok (.if_icmp .ge 100, 3) := by decide +kernel
theorem dX2_weightOn_32 : decode cX2_weightOn 32 = .ok (.aload_n 0, 1) := by decide +kernel
theorem dX2_weightOn_33 : decode cX2_weightOn 33 = .ok (.getfield 31, 3) := by decide +kernel
theorem dX2_weightOn_36 : decode cX2_weightOn 36 = .ok (.getfield 120, 3) := by decide +kernel
theorem dX2_weightOn_39 : decode cX2_weightOn 39 = .ok (.iload 5, 2) := by decide +kernel
theorem dX2_weightOn_41 : decode cX2_weightOn 41 = .ok (.aaload, 1) := by decide +kernel
theorem dX2_weightOn_42 : decode cX2_weightOn 42 = .ok (.astore 6, 2) := by decide +kernel
theorem dX2_weightOn_44 : decode cX2_weightOn 44 = .ok (.iload_n 1, 1) := by decide +kernel
theorem dX2_weightOn_45 : decode cX2_weightOn 45 = .ok (.iload 5, 2) := by decide +kernel
theorem dX2_weightOn_47 : decode cX2_weightOn 47 = .ok (.invokestatic 81, 3) := by decide +kernel
theorem dX2_weightOn_50 : decode cX2_weightOn 50 = .ok (.istore 7, 2) := by decide +kernel
theorem dX2_weightOn_52 : decode cX2_weightOn 52 = .ok (.aload 6, 2) := by decide +kernel
theorem dX2_weightOn_54 : decode cX2_weightOn 54 = .ok (.invokevirtual 124, 3) := by decide +kernel
theorem dX2_weightOn_57 : decode cX2_weightOn 57 = .ok (.ifCond .eq 66, 3) := by decide +kernel
theorem dX2_weightOn_60 : decode cX2_weightOn 60 = .ok (.aload 6, 2) := by decide +kernel
theorem dX2_weightOn_62 : decode cX2_weightOn 62 = .ok (.getfield 129, 3) := by decide +kernel
theorem dX2_weightOn_65 : decode cX2_weightOn 65 = .ok (.iload_n 2, 1) := by decide +kernel
theorem dX2_weightOn_66 : decode cX2_weightOn 66 = .ok (.if_icmp .ge 57, 3) := by decide +kernel
theorem dX2_weightOn_69 : decode cX2_weightOn 69 = .ok (.aload_n 0, 1) := by decide +kernel
theorem dX2_weightOn_70 : decode cX2_weightOn 70 = .ok (.getfield 39, 3) := by decide +kernel
theorem dX2_weightOn_73 : decode cX2_weightOn 73 = .ok (.iload 7, 2) := by decide +kernel
theorem dX2_weightOn_75 : decode cX2_weightOn 75 = .ok (.invokevirtual 132, 3) := by decide +kernel
theorem dX2_weightOn_78 : decode cX2_weightOn 78 = .ok (.ifCond .eq 45, 3) := by decide +kernel
theorem dX2_weightOn_81 : decode cX2_weightOn 81 = .ok (.iload_n 3, 1) := by decide +kernel
theorem dX2_weightOn_82 : decode cX2_weightOn 82 = .ok (.aload_n 0, 1) := by decide +kernel
theorem dX2_weightOn_83 : decode cX2_weightOn 83 = .ok (.getfield 39, 3) := by decide +kernel
theorem dX2_weightOn_86 : decode cX2_weightOn 86 = .ok (.getfield 136, 3) := by decide +kernel
theorem dX2_weightOn_89 : decode cX2_weightOn 89 = .ok (.iload 7, 2) := by decide +kernel
theorem dX2_weightOn_91 : decode cX2_weightOn 91 = .ok (.iaload, 1) := by decide +kernel
theorem dX2_weightOn_92 : decode cX2_weightOn 92 = .ok (.aload_n 0, 1) := by decide +kernel
theorem dX2_weightOn_93 : decode cX2_weightOn 93 = .ok (.getfield 35, 3) := by decide +kernel
theorem dX2_weightOn_96 : decode cX2_weightOn 96 = .ok (.aload 6, 2) := by decide +kernel
theorem dX2_weightOn_98 : decode cX2_weightOn 98 = .ok (.getfield 139, 3) := by decide +kernel
theorem dX2_weightOn_101 : decode cX2_weightOn 101 = .ok (.iconst 5, 1) := by decide +kernel
theorem dX2_weightOn_102 : decode cX2_weightOn 102 = .ok (.invokevirtual 142, 3) := by decide +kernel
theorem dX2_weightOn_105 : decode cX2_weightOn 105 = .ok (.imul, 1) := by decide +kernel
theorem dX2_weightOn_106 : decode cX2_weightOn 106 = .ok (.iadd, 1) := by decide +kernel
theorem dX2_weightOn_107 : decode cX2_weightOn 107 = .ok (.istore_n 3, 1) := by decide +kernel
theorem dX2_weightOn_108 : decode cX2_weightOn 108 = .ok (.iload 4, 2) := by decide +kernel
theorem dX2_weightOn_110 : decode cX2_weightOn 110 = .ok (.aload_n 0, 1) := by decide +kernel
theorem dX2_weightOn_111 : decode cX2_weightOn 111 = .ok (.getfield 39, 3) := by decide +kernel
theorem dX2_weightOn_114 : decode cX2_weightOn 114 = .ok (.getfield 145, 3) := by decide +kernel
theorem dX2_weightOn_117 : decode cX2_weightOn 117 = .ok (.iload 7, 2) := by decide +kernel
theorem dX2_weightOn_119 : decode cX2_weightOn 119 = .ok (.iaload, 1) := by decide +kernel
theorem dX2_weightOn_120 : decode cX2_weightOn 120 = .ok (.iadd, 1) := by decide +kernel
theorem dX2_weightOn_121 : decode cX2_weightOn 121 = .ok (.istore 4, 2) := by decide +kernel
theorem dX2_weightOn_123 : decode cX2_weightOn 123 = .ok (.iinc 5 1, 3) := by decide +kernel
theorem dX2_weightOn_126 : decode cX2_weightOn 126 = .ok (.goto (-106), 3) := by decide +kernel
theorem dX2_weightOn_129 : decode cX2_weightOn 129 = .ok (.iload_n 3, 1) := by decide +kernel
theorem dX2_weightOn_130 : decode cX2_weightOn 130 = .ok (.iload 4, 2) := by decide +kernel
theorem dX2_weightOn_132 : decode cX2_weightOn 132 = .ok (.if_icmp .le 17, 3) := by decide +kernel
theorem dX2_weightOn_135 : decode cX2_weightOn 135 = .ok (.iconst 1, 1) := by decide +kernel
theorem dX2_weightOn_136 : decode cX2_weightOn 136 = .ok (.bipush 100, 2) := by decide +kernel
theorem dX2_weightOn_138 : decode cX2_weightOn 138 = .ok (.iload_n 3, 1) := by decide +kernel
theorem dX2_weightOn_139 : decode cX2_weightOn 139 = .ok (.iload 4, 2) := by decide +kernel
theorem dX2_weightOn_141 : decode cX2_weightOn 141 = .ok (.isub, 1) := by decide +kernel
theorem dX2_weightOn_142 : decode cX2_weightOn 142 = .ok (.imul, 1) := by decide +kernel
theorem dX2_weightOn_143 : decode cX2_weightOn 143 = .ok (.iload_n 3, 1) := by decide +kernel
theorem dX2_weightOn_144 : decode cX2_weightOn 144 = .ok (.idiv, 1) := by decide +kernel
theorem dX2_weightOn_145 : decode cX2_weightOn 145 = .ok (.iadd, 1) := by decide +kernel
theorem dX2_weightOn_146 : decode cX2_weightOn 146 = .ok (.goto 4, 3) := by decide +kernel
theorem dX2_weightOn_149 : decode cX2_weightOn 149 = .ok (.iconst 1, 1) := by decide +kernel
theorem dX2_weightOn_150 : decode cX2_weightOn 150 = .ok (.ireturn, 1) := by decide +kernel
theorem dX2_joinedTenth_0 : decode cX2_joinedTenth 0 = .ok (.iload_n 2, 1) := by decide +kernel
theorem dX2_joinedTenth_1 : decode cX2_joinedTenth 1 = .ok (.aload_n 0, 1) := by decide +kernel
theorem dX2_joinedTenth_2 : decode cX2_joinedTenth 2 = .ok (.getfield 31, 3) := by decide +kernel
theorem dX2_joinedTenth_5 : decode cX2_joinedTenth 5 = .ok (.getfield 120, 3) := by decide +kernel
theorem dX2_joinedTenth_8 : decode cX2_joinedTenth 8 = .ok (.iload_n 1, 1) := by decide +kernel
theorem dX2_joinedTenth_9 : decode cX2_joinedTenth 9 = .ok (.aaload, 1) := by decide +kernel
theorem dX2_joinedTenth_10 : decode cX2_joinedTenth 10 = .ok (.getfield 148, 3) := by decide +kernel
theorem dX2_joinedTenth_13 : decode cX2_joinedTenth 13 = .ok (.isub, 1) := by decide +kernel
theorem dX2_joinedTenth_14 : decode cX2_joinedTenth 14 = .ok (.istore_n 3, 1) := by decide +kernel
theorem dX2_joinedTenth_15 : decode cX2_joinedTenth 15 = .ok (.iload_n 3, 1) := by decide +kernel
theorem dX2_joinedTenth_16 : decode cX2_joinedTenth 16 = .ok (.ifCond .ge 5, 3) := by decide +kernel
theorem dX2_joinedTenth_19 : decode cX2_joinedTenth 19 = .ok (.iconst (-1), 1) := by decide +kernel
theorem dX2_joinedTenth_20 : decode cX2_joinedTenth 20 = .ok (.ireturn, 1) := by decide +kernel
theorem dX2_joinedTenth_21 : decode cX2_joinedTenth 21 = .ok (.iload_n 3, 1) := by decide +kernel
theorem dX2_joinedTenth_22 : decode cX2_joinedTenth 22 = .ok (.bipush 60, 2) := by decide +kernel
theorem dX2_joinedTenth_24 : decode cX2_joinedTenth 24 = .ok (.if_icmp .lt 10, 3) := by decide +kernel
theorem dX2_joinedTenth_27 : decode cX2_joinedTenth 27 = .ok (.aload_n 0, 1) := by decide +kernel
theorem dX2_joinedTenth_28 : decode cX2_joinedTenth 28 = .ok (.iload_n 1, 1) := by decide +kernel
theorem dX2_joinedTenth_29 : decode cX2_joinedTenth 29 = .ok (.iload_n 2, 1) := by decide +kernel
theorem dX2_joinedTenth_30 : decode cX2_joinedTenth 30 = .ok (.invokevirtual 151, 3) := by decide +kernel
theorem dX2_joinedTenth_33 : decode cX2_joinedTenth 33 = .ok (.ireturn, 1) := by decide +kernel
theorem dX2_joinedTenth_34 : decode cX2_joinedTenth 34 = .ok (.iload_n 1, 1) := by decide +kernel
theorem dX2_joinedTenth_35 : decode cX2_joinedTenth 35 = .ok (.bipush 60, 2) := by decide +kernel
theorem dX2_joinedTenth_37 : decode cX2_joinedTenth 37 = .ok (.imul, 1) := by decide +kernel
theorem dX2_joinedTenth_38 : decode cX2_joinedTenth 38 = .ok (.iload_n 3, 1) := by decide +kernel
theorem dX2_joinedTenth_39 : decode cX2_joinedTenth 39 = .ok (.iadd, 1) := by decide +kernel
theorem dX2_joinedTenth_40 : decode cX2_joinedTenth 40 = .ok (.istore 4, 2) := by decide +kernel
theorem dX2_joinedTenth_42 : decode cX2_joinedTenth 42 = .ok (.aload_n 0, 1) := by decide +kernel
theorem dX2_joinedTenth_43 : decode cX2_joinedTenth 43 = .ok (.getfield 18, 3) := by decide +kernel
theorem dX2_joinedTenth_46 : decode cX2_joinedTenth 46 = .ok (.iload 4, 2) := by decide +kernel
theorem dX2_joinedTenth_48 : decode cX2_joinedTenth 48 = .ok (.iaload, 1) := by decide +kernel
theorem dX2_joinedTenth_49 : decode cX2_joinedTenth 49 = .ok (.bipush (-2), 2) := by decide +kernel
theorem dX2_joinedTenth_51 : decode cX2_joinedTenth 51 = .ok (.if_icmp .ne 16, 3) := by decide +kernel
theorem dX2_joinedTenth_54 : decode cX2_joinedTenth 54 = .ok (.aload_n 0, 1) := by decide +kernel
theorem dX2_joinedTenth_55 : decode cX2_joinedTenth 55 = .ok (.getfield 18, 3) := by decide +kernel
theorem dX2_joinedTenth_58 : decode cX2_joinedTenth 58 = .ok (.iload 4, 2) := by decide +kernel
theorem dX2_joinedTenth_60 : decode cX2_joinedTenth 60 = .ok (.aload_n 0, 1) := by decide +kernel
theorem dX2_joinedTenth_61 : decode cX2_joinedTenth 61 = .ok (.iload_n 1, 1) := by decide +kernel
theorem dX2_joinedTenth_62 : decode cX2_joinedTenth 62 = .ok (.iload_n 2, 1) := by decide +kernel
theorem dX2_joinedTenth_63 : decode cX2_joinedTenth 63 = .ok (.invokevirtual 151, 3) := by decide +kernel
theorem dX2_joinedTenth_66 : decode cX2_joinedTenth 66 = .ok (.iastore, 1) := by decide +kernel
theorem dX2_joinedTenth_67 : decode cX2_joinedTenth 67 = .ok (.aload_n 0, 1) := by decide +kernel
theorem dX2_joinedTenth_68 : decode cX2_joinedTenth 68 = .ok (.getfield 18, 3) := by decide +kernel
theorem dX2_joinedTenth_71 : decode cX2_joinedTenth 71 = .ok (.iload 4, 2) := by decide +kernel
theorem dX2_joinedTenth_73 : decode cX2_joinedTenth 73 = .ok (.iaload, 1) := by decide +kernel
theorem dX2_joinedTenth_74 : decode cX2_joinedTenth 74 = .ok (.ireturn, 1) := by decide +kernel
theorem dX2_joinHeld_0 : decode cX2_joinHeld 0 = .ok (.iconst 0, 1) := by decide +kernel
theorem dX2_joinHeld_1 : decode cX2_joinHeld 1 = .ok (.istore_n 3, 1) := by decide +kernel
theorem dX2_joinHeld_2 : decode cX2_joinHeld 2 = .ok (.iload_n 3, 1) := by decide +kernel
theorem dX2_joinHeld_3 : decode cX2_joinHeld 3 = .ok (.bipush 20, 2) := by decide +kernel
theorem dX2_joinHeld_5 : decode cX2_joinHeld 5 = .ok (.if_icmp .ge 25, 3) := by decide +kernel
theorem dX2_joinHeld_8 : decode cX2_joinHeld 8 = .ok (.aload_n 0, 1) := by decide +kernel
theorem dX2_joinHeld_9 : decode cX2_joinHeld 9 = .ok (.getfield 21, 3) := by decide +kernel
theorem dX2_joinHeld_12 : decode cX2_joinHeld 12 = .ok (.iload_n 3, 1) := by decide +kernel
theorem dX2_joinHeld_13 : decode cX2_joinHeld 13 = .ok (.aload_n 0, 1) := by decide +kernel
theorem dX2_joinHeld_14 : decode cX2_joinHeld 14 = .ok (.getfield 31, 3) := by decide +kernel
theorem dX2_joinHeld_17 : decode cX2_joinHeld 17 = .ok (.iload_n 3, 1) := by decide +kernel
theorem dX2_joinHeld_18 : decode cX2_joinHeld 18 = .ok (.iload_n 1, 1) := by decide +kernel
theorem dX2_joinHeld_19 : decode cX2_joinHeld 19 = .ok (.iload_n 2, 1) := by decide +kernel
theorem dX2_joinHeld_20 : decode cX2_joinHeld 20 = .ok (.invokevirtual 154, 3) := by decide +kernel
theorem dX2_joinHeld_23 : decode cX2_joinHeld 23 = .ok (.iastore, 1) := by decide +kernel
theorem dX2_joinHeld_24 : decode cX2_joinHeld 24 = .ok (.iinc 3 1, 3) := by decide +kernel
theorem dX2_joinHeld_27 : decode cX2_joinHeld 27 = .ok (.goto (-25), 3) := by decide +kernel
theorem dX2_joinHeld_30 : decode cX2_joinHeld 30 = .ok (.aload_n 0, 1) := by decide +kernel
theorem dX2_joinHeld_31 : decode cX2_joinHeld 31 = .ok (.getfield 24, 3) := by decide +kernel
theorem dX2_joinHeld_34 : decode cX2_joinHeld 34 = .ok (.iconst 0, 1) := by decide +kernel
theorem dX2_joinHeld_35 : decode cX2_joinHeld 35 = .ok (.invokestatic 53, 3) := by decide +kernel
theorem dX2_joinHeld_38 : decode cX2_joinHeld 38 = .ok (.iconst 0, 1) := by decide +kernel
theorem dX2_joinHeld_39 : decode cX2_joinHeld 39 = .ok (.istore_n 3, 1) := by decide +kernel
theorem dX2_joinHeld_40 : decode cX2_joinHeld 40 = .ok (.iconst 0, 1) := by decide +kernel
theorem dX2_joinHeld_41 : decode cX2_joinHeld 41 = .ok (.istore 4, 2) := by decide +kernel
theorem dX2_joinHeld_43 : decode cX2_joinHeld 43 = .ok (.iload 4, 2) := by decide +kernel
theorem dX2_joinHeld_45 : decode cX2_joinHeld 45 = .ok (.bipush 20, 2) := by decide +kernel
theorem dX2_joinHeld_47 : decode cX2_joinHeld 47 = .ok (.if_icmp .ge 61, 3) := by decide +kernel
theorem dX2_joinHeld_50 : decode cX2_joinHeld 50 = .ok (.aload_n 0, 1) := by decide +kernel
theorem dX2_joinHeld_51 : decode cX2_joinHeld 51 = .ok (.getfield 21, 3) := by decide +kernel
theorem dX2_joinHeld_54 : decode cX2_joinHeld 54 = .ok (.iload 4, 2) := by decide +kernel
theorem dX2_joinHeld_56 : decode cX2_joinHeld 56 = .ok (.iaload, 1) := by decide +kernel
theorem dX2_joinHeld_57 : decode cX2_joinHeld 57 = .ok (.iconst (-1), 1) := by decide +kernel
theorem dX2_joinHeld_58 : decode cX2_joinHeld 58 = .ok (.if_icmp .eq 44, 3) := by decide +kernel
theorem dX2_joinHeld_61 : decode cX2_joinHeld 61 = .ok (.aload_n 0, 1) := by decide +kernel
theorem dX2_joinHeld_62 : decode cX2_joinHeld 62 = .ok (.iload 4, 2) := by decide +kernel
theorem dX2_joinHeld_64 : decode cX2_joinHeld 64 = .ok (.iload_n 2, 1) := by decide +kernel
theorem dX2_joinHeld_65 : decode cX2_joinHeld 65 = .ok (.invokevirtual 158, 3) := by decide +kernel
theorem dX2_joinHeld_68 : decode cX2_joinHeld 68 = .ok (.ifCond .ne 34, 3) := by decide +kernel
theorem dX2_joinHeld_71 : decode cX2_joinHeld 71 = .ok (.aload_n 0, 1) := by decide +kernel
theorem dX2_joinHeld_72 : decode cX2_joinHeld 72 = .ok (.iload 4, 2) := by decide +kernel
theorem dX2_joinHeld_74 : decode cX2_joinHeld 74 = .ok (.iload_n 2, 1) := by decide +kernel
theorem dX2_joinHeld_75 : decode cX2_joinHeld 75 = .ok (.invokevirtual 162, 3) := by decide +kernel
theorem dX2_joinHeld_78 : decode cX2_joinHeld 78 = .ok (.istore 5, 2) := by decide +kernel
theorem dX2_joinHeld_80 : decode cX2_joinHeld 80 = .ok (.aload_n 0, 1) := by decide +kernel
theorem dX2_joinHeld_81 : decode cX2_joinHeld 81 = .ok (.getfield 24, 3) := by decide +kernel
theorem dX2_joinHeld_84 : decode cX2_joinHeld 84 = .ok (.aload_n 0, 1) := by decide +kernel
theorem dX2_joinHeld_85 : decode cX2_joinHeld 85 = .ok (.getfield 21, 3) := by decide +kernel
theorem dX2_joinHeld_88 : decode cX2_joinHeld 88 = .ok (.iload 4, 2) := by decide +kernel
theorem dX2_joinHeld_90 : decode cX2_joinHeld 90 = .ok (.iaload, 1) := by decide +kernel
theorem dX2_joinHeld_91 : decode cX2_joinHeld 91 = .ok (.dup2, 1) := by decide +kernel
theorem dX2_joinHeld_92 : decode cX2_joinHeld 92 = .ok (.iaload, 1) := by decide +kernel
theorem dX2_joinHeld_93 : decode cX2_joinHeld 93 = .ok (.iload 5, 2) := by decide +kernel
theorem dX2_joinHeld_95 : decode cX2_joinHeld 95 = .ok (.iadd, 1) := by decide +kernel
theorem dX2_joinHeld_96 : decode cX2_joinHeld 96 = .ok (.iastore, 1) := by decide +kernel
theorem dX2_joinHeld_97 : decode cX2_joinHeld 97 = .ok (.iload_n 3, 1) := by decide +kernel
theorem dX2_joinHeld_98 : decode cX2_joinHeld 98 = .ok (.iload 5, 2) := by decide +kernel
theorem dX2_joinHeld_100 : decode cX2_joinHeld 100 = .ok (.iadd, 1) := by decide +kernel
theorem dX2_joinHeld_101 : decode cX2_joinHeld 101 = .ok (.istore_n 3, 1) := by decide +kernel
theorem dX2_joinHeld_102 : decode cX2_joinHeld 102 = .ok (.iinc 4 1, 3) := by decide +kernel
theorem dX2_joinHeld_105 : decode cX2_joinHeld 105 = .ok (.goto (-62), 3) := by decide +kernel
theorem dX2_joinHeld_108 : decode cX2_joinHeld 108 = .ok (.iload_n 3, 1) := by decide +kernel
theorem dX2_joinHeld_109 : decode cX2_joinHeld 109 = .ok (.ifCond .ne 7, 3) := by decide +kernel
theorem dX2_joinHeld_112 : decode cX2_joinHeld 112 = .ok (.iconst (-1), 1) := by decide +kernel
theorem dX2_joinHeld_113 : decode cX2_joinHeld 113 = .ok (.goto 8, 3) := by decide +kernel
theorem dX2_joinHeld_116 : decode cX2_joinHeld 116 = .ok (.aload_n 0, 1) := by decide +kernel
theorem dX2_joinHeld_117 : decode cX2_joinHeld 117 = .ok (.iload_n 3, 1) := by decide +kernel
theorem dX2_joinHeld_118 : decode cX2_joinHeld 118 = .ok (.invokevirtual 165, 3) := by decide +kernel
theorem dX2_joinHeld_121 : decode cX2_joinHeld 121 = .ok (.ireturn, 1) := by decide +kernel
theorem dX2_copiesAHolder_0 : decode cX2_copiesAHolder 0 = .ok (.iconst 0, 1) := by decide +kernel
theorem dX2_copiesAHolder_1 : decode cX2_copiesAHolder 1 = .ok (.istore_n 3, 1) := by decide +kernel
theorem dX2_copiesAHolder_2 : decode cX2_copiesAHolder 2 = .ok (.iload_n 3, 1) := by decide +kernel
theorem dX2_copiesAHolder_3 : decode cX2_copiesAHolder 3 = .ok (.bipush 20, 2) := by decide +kernel
theorem dX2_copiesAHolder_5 : decode cX2_copiesAHolder 5 = .ok (.if_icmp .ge 35, 3) := by decide +kernel
theorem dX2_copiesAHolder_8 : decode cX2_copiesAHolder 8 = .ok (.aload_n 0, 1) := by decide +kernel
theorem dX2_copiesAHolder_9 : decode cX2_copiesAHolder 9 = .ok (.getfield 21, 3) := by decide +kernel
theorem dX2_copiesAHolder_12 : decode cX2_copiesAHolder 12 = .ok (.iload_n 3, 1) := by decide +kernel
theorem dX2_copiesAHolder_13 : decode cX2_copiesAHolder 13 = .ok (.iaload, 1) := by decide +kernel
theorem dX2_copiesAHolder_14 : decode cX2_copiesAHolder 14 = .ok (.iconst (-1), 1) := by decide +kernel
theorem dX2_copiesAHolder_15 : decode cX2_copiesAHolder 15 = .ok (.if_icmp .eq 19, 3) := by decide +kernel
theorem dX2_copiesAHolder_18 : decode cX2_copiesAHolder 18 = .ok (.aload_n 0, 1) := by decide +kernel
theorem dX2_copiesAHolder_19 : decode cX2_copiesAHolder 19 = .ok (.getfield 9, 3) := by decide +kernel
theorem dX2_copiesAHolder_22 : decode cX2_copiesAHolder 22 = .ok (.iload_n 1, 1) := by decide +kernel
theorem dX2_copiesAHolder_23 : decode cX2_copiesAHolder 23 = .ok (.iload_n 3, 1) := by decide +kernel
theorem dX2_copiesAHolder_24 : decode cX2_copiesAHolder 24 = .ok (.invokestatic 108, 3) := by decide +kernel
theorem dX2_copiesAHolder_27 : decode cX2_copiesAHolder 27 = .ok (.iaload, 1) := by decide +kernel
theorem dX2_copiesAHolder_28 : decode cX2_copiesAHolder 28 = .ok (.iload_n 2, 1) := by decide +kernel
theorem dX2_copiesAHolder_29 : decode cX2_copiesAHolder 29 = .ok (.if_icmp .gt 5, 3) := by decide +kernel
theorem dX2_copiesAHolder_32 : decode cX2_copiesAHolder 32 = .ok (.iconst 1, 1) := by decide +kernel
theorem dX2_copiesAHolder_33 : decode cX2_copiesAHolder 33 = .ok (.ireturn, 1) := by decide +kernel
theorem dX2_copiesAHolder_34 : decode cX2_copiesAHolder 34 = .ok (.iinc 3 1, 3) := by decide +kernel
theorem dX2_copiesAHolder_37 : decode cX2_copiesAHolder 37 = .ok (.goto (-35), 3) := by decide +kernel
theorem dX2_copiesAHolder_40 : decode cX2_copiesAHolder 40 = .ok (.iconst 0, 1) := by decide +kernel
theorem dX2_copiesAHolder_41 : decode cX2_copiesAHolder 41 = .ok (.ireturn, 1) := by decide +kernel
theorem dX2_tenthAtHalf_0 : decode cX2_tenthAtHalf 0 = .ok (.iconst 0, 1) := by decide +kernel
theorem dX2_tenthAtHalf_1 : decode cX2_tenthAtHalf 1 = .ok (.istore_n 2, 1) := by decide +kernel
theorem dX2_tenthAtHalf_2 : decode cX2_tenthAtHalf 2 = .ok (.iconst 0, 1) := by decide +kernel
theorem dX2_tenthAtHalf_3 : decode cX2_tenthAtHalf 3 = .ok (.istore_n 3, 1) := by decide +kernel
theorem dX2_tenthAtHalf_4 : decode cX2_tenthAtHalf 4 = .ok (.iload_n 3, 1) := by decide +kernel
theorem dX2_tenthAtHalf_5 : decode cX2_tenthAtHalf 5 = .ok (.bipush 11, 2) := by decide +kernel
theorem dX2_tenthAtHalf_7 : decode cX2_tenthAtHalf 7 = .ok (.if_icmp .ge 27, 3) := by decide +kernel
theorem dX2_tenthAtHalf_10 : decode cX2_tenthAtHalf 10 = .ok (.iload_n 2, 1) := by decide +kernel
theorem dX2_tenthAtHalf_11 : decode cX2_tenthAtHalf 11 = .ok (.aload_n 0, 1) := by decide +kernel
theorem dX2_tenthAtHalf_12 : decode cX2_tenthAtHalf 12 = .ok (.getfield 24, 3) := by decide +kernel
theorem dX2_tenthAtHalf_15 : decode cX2_tenthAtHalf 15 = .ok (.iload_n 3, 1) := by decide +kernel
theorem dX2_tenthAtHalf_16 : decode cX2_tenthAtHalf 16 = .ok (.iaload, 1) := by decide +kernel
theorem dX2_tenthAtHalf_17 : decode cX2_tenthAtHalf 17 = .ok (.iadd, 1) := by decide +kernel
theorem dX2_tenthAtHalf_18 : decode cX2_tenthAtHalf 18 = .ok (.istore_n 2, 1) := by decide +kernel
theorem dX2_tenthAtHalf_19 : decode cX2_tenthAtHalf 19 = .ok (.iconst 2, 1) := by decide +kernel
theorem dX2_tenthAtHalf_20 : decode cX2_tenthAtHalf 20 = .ok (.iload_n 2, 1) := by decide +kernel
theorem dX2_tenthAtHalf_21 : decode cX2_tenthAtHalf 21 = .ok (.imul, 1) := by decide +kernel
theorem dX2_tenthAtHalf_22 : decode cX2_tenthAtHalf 22 = .ok (.iload_n 1, 1) := by decide +kernel
theorem dX2_tenthAtHalf_23 : decode cX2_tenthAtHalf 23 = .ok (.if_icmp .lt 5, 3) := by decide +kernel
theorem dX2_tenthAtHalf_26 : decode cX2_tenthAtHalf 26 = .ok (.iload_n 3, 1) := by decide +kernel
theorem dX2_tenthAtHalf_27 : decode cX2_tenthAtHalf 27 = .ok (.ireturn, 1) := by decide +kernel
theorem dX2_tenthAtHalf_28 : decode cX2_tenthAtHalf 28 = .ok (.iinc 3 1, 3) := by decide +kernel
theorem dX2_tenthAtHalf_31 : decode cX2_tenthAtHalf 31 = .ok (.goto (-27), 3) := by decide +kernel
theorem dX2_tenthAtHalf_34 : decode cX2_tenthAtHalf 34 = .ok (.bipush 10, 2) := by decide +kernel
theorem dX2_tenthAtHalf_36 : decode cX2_tenthAtHalf 36 = .ok (.ireturn, 1) := by decide +kernel
theorem dX2_joinedRows_0 : decode cX2_joinedRows 0 = .ok (.aload_n 0, 1) := by decide +kernel
theorem dX2_joinedRows_1 : decode cX2_joinedRows 1 = .ok (.getfield 31, 3) := by decide +kernel
theorem dX2_joinedRows_4 : decode cX2_joinedRows 4 = .ok (.getfield 120, 3) := by decide +kernel
theorem dX2_joinedRows_7 : decode cX2_joinedRows 7 = .ok (.iload_n 1, 1) := by decide +kernel
theorem dX2_joinedRows_8 : decode cX2_joinedRows 8 = .ok (.aaload, 1) := by decide +kernel
theorem dX2_joinedRows_9 : decode cX2_joinedRows 9 = .ok (.astore_n 2, 1) := by decide +kernel
theorem dX2_joinedRows_10 : decode cX2_joinedRows 10 = .ok (.iconst 0, 1) := by decide +kernel
theorem dX2_joinedRows_11 : decode cX2_joinedRows 11 = .ok (.istore_n 3, 1) := by decide +kernel
theorem dX2_joinedRows_12 : decode cX2_joinedRows 12 = .ok (.aload_n 2, 1) := by decide +kernel
theorem dX2_joinedRows_13 : decode cX2_joinedRows 13 = .ok (.getfield 148, 3) := by decide +kernel
theorem dX2_joinedRows_16 : decode cX2_joinedRows 16 = .ok (.istore 4, 2) := by decide +kernel
theorem dX2_joinedRows_18 : decode cX2_joinedRows 18 = .ok (.iload 4, 2) := by decide +kernel
theorem dX2_joinedRows_20 : decode cX2_joinedRows 20 = .ok (.aload_n 2, 1) := by decide +kernel
theorem dX2_joinedRows_21 : decode cX2_joinedRows 21 = .ok (.invokevirtual 169, 3) := by decide +kernel
theorem dX2_joinedRows_24 : decode cX2_joinedRows 24 = .ok (.if_icmp .ge 23, 3) := by decide +kernel
theorem dX2_joinedRows_27 : decode cX2_joinedRows 27 = .ok (.aload_n 0, 1) := by decide +kernel
theorem dX2_joinedRows_28 : decode cX2_joinedRows 28 = .ok (.iload_n 1, 1) := by decide +kernel
theorem dX2_joinedRows_29 : decode cX2_joinedRows 29 = .ok (.iload 4, 2) := by decide +kernel
theorem dX2_joinedRows_31 : decode cX2_joinedRows 31 = .ok (.invokevirtual 173, 3) := by decide +kernel
theorem dX2_joinedRows_34 : decode cX2_joinedRows 34 = .ok (.iconst (-1), 1) := by decide +kernel
theorem dX2_joinedRows_35 : decode cX2_joinedRows 35 = .ok (.if_icmp .eq 6, 3) := by decide +kernel
theorem dX2_joinedRows_38 : decode cX2_joinedRows 38 = .ok (.iinc 3 1, 3) := by decide +kernel
theorem dX2_joinedRows_41 : decode cX2_joinedRows 41 = .ok (.iinc 4 1, 3) := by decide +kernel
theorem dX2_joinedRows_44 : decode cX2_joinedRows 44 = .ok (.goto (-26), 3) := by decide +kernel
theorem dX2_joinedRows_47 : decode cX2_joinedRows 47 = .ok (.iload_n 3, 1) := by decide +kernel
theorem dX2_joinedRows_48 : decode cX2_joinedRows 48 = .ok (.ireturn, 1) := by decide +kernel
theorem dX2_joinedSum_0 : decode cX2_joinedSum 0 = .ok (.aload_n 0, 1) := by decide +kernel
theorem dX2_joinedSum_1 : decode cX2_joinedSum 1 = .ok (.getfield 31, 3) := by decide +kernel
theorem dX2_joinedSum_4 : decode cX2_joinedSum 4 = .ok (.getfield 120, 3) := by decide +kernel
theorem dX2_joinedSum_7 : decode cX2_joinedSum 7 = .ok (.iload_n 1, 1) := by decide +kernel
theorem dX2_joinedSum_8 : decode cX2_joinedSum 8 = .ok (.aaload, 1) := by decide +kernel
theorem dX2_joinedSum_9 : decode cX2_joinedSum 9 = .ok (.astore_n 2, 1) := by decide +kernel
theorem dX2_joinedSum_10 : decode cX2_joinedSum 10 = .ok (.iconst 0, 1) := by decide +kernel
theorem dX2_joinedSum_11 : decode cX2_joinedSum 11 = .ok (.istore_n 3, 1) := by decide +kernel
theorem dX2_joinedSum_12 : decode cX2_joinedSum 12 = .ok (.aload_n 2, 1) := by decide +kernel
theorem dX2_joinedSum_13 : decode cX2_joinedSum 13 = .ok (.getfield 148, 3) := by decide +kernel
theorem dX2_joinedSum_16 : decode cX2_joinedSum 16 = .ok (.istore 4, 2) := by decide +kernel
theorem dX2_joinedSum_18 : decode cX2_joinedSum 18 = .ok (.iload 4, 2) := by decide +kernel
theorem dX2_joinedSum_20 : decode cX2_joinedSum 20 = .ok (.aload_n 2, 1) := by decide +kernel
theorem dX2_joinedSum_21 : decode cX2_joinedSum 21 = .ok (.invokevirtual 169, 3) := by decide +kernel
theorem dX2_joinedSum_24 : decode cX2_joinedSum 24 = .ok (.if_icmp .ge 40, 3) := by decide +kernel
theorem dX2_joinedSum_27 : decode cX2_joinedSum 27 = .ok (.aload_n 0, 1) := by decide +kernel
theorem dX2_joinedSum_28 : decode cX2_joinedSum 28 = .ok (.iload_n 1, 1) := by decide +kernel
theorem dX2_joinedSum_29 : decode cX2_joinedSum 29 = .ok (.iload 4, 2) := by decide +kernel
theorem dX2_joinedSum_31 : decode cX2_joinedSum 31 = .ok (.invokevirtual 173, 3) := by decide +kernel
theorem dX2_joinedSum_34 : decode cX2_joinedSum 34 = .ok (.istore 5, 2) := by decide +kernel
theorem dX2_joinedSum_36 : decode cX2_joinedSum 36 = .ok (.iload 5, 2) := by decide +kernel
theorem dX2_joinedSum_38 : decode cX2_joinedSum 38 = .ok (.iconst (-1), 1) := by decide +kernel
theorem dX2_joinedSum_39 : decode cX2_joinedSum 39 = .ok (.if_icmp .eq 19, 3) := by decide +kernel
theorem dX2_joinedSum_42 : decode cX2_joinedSum 42 = .ok (.iload_n 3, 1) := by decide +kernel
theorem dX2_joinedSum_43 : decode cX2_joinedSum 43 = .ok (.aload_n 0, 1) := by decide +kernel
theorem dX2_joinedSum_44 : decode cX2_joinedSum 44 = .ok (.getfield 35, 3) := by decide +kernel
theorem dX2_joinedSum_47 : decode cX2_joinedSum 47 = .ok (.aload_n 2, 1) := by decide +kernel
theorem dX2_joinedSum_48 : decode cX2_joinedSum 48 = .ok (.getfield 139, 3) := by decide +kernel
theorem dX2_joinedSum_51 : decode cX2_joinedSum 51 = .ok (.iload 5, 2) := by decide +kernel
theorem dX2_joinedSum_53 : decode cX2_joinedSum 53 = .ok (.invokevirtual 142, 3) := by decide +kernel
theorem dX2_joinedSum_56 : decode cX2_joinedSum 56 = .ok (.iadd, 1) := by decide +kernel
theorem dX2_joinedSum_57 : decode cX2_joinedSum 57 = .ok (.istore_n 3, 1) := by decide +kernel
theorem dX2_joinedSum_58 : decode cX2_joinedSum 58 = .ok (.iinc 4 1, 3) := by decide +kernel
theorem dX2_joinedSum_61 : decode cX2_joinedSum 61 = .ok (.goto (-43), 3) := by decide +kernel
theorem dX2_joinedSum_64 : decode cX2_joinedSum 64 = .ok (.iload_n 3, 1) := by decide +kernel
theorem dX2_joinedSum_65 : decode cX2_joinedSum 65 = .ok (.ireturn, 1) := by decide +kernel
theorem dX2_compareWithJoined_0 : decode cX2_compareWithJoined 0 = .ok (.aload_n 0, 1) := by decide +kernel
theorem dX2_compareWithJoined_1 : decode cX2_compareWithJoined 1 = .ok (.iconst 0, 1) := by decide +kernel
theorem dX2_compareWithJoined_2 : decode cX2_compareWithJoined 2 = .ok (.putfield 176, 3) := by decide +kernel
theorem dX2_compareWithJoined_5 : decode cX2_compareWithJoined 5 = .ok (.aload_n 0, 1) := by decide +kernel
theorem dX2_compareWithJoined_6 : decode cX2_compareWithJoined 6 = .ok (.iconst 0, 1) := by decide +kernel
theorem dX2_compareWithJoined_7 : decode cX2_compareWithJoined 7 = .ok (.putfield 179, 3) := by decide +kernel
theorem dX2_compareWithJoined_10 : decode cX2_compareWithJoined 10 = .ok (.iconst 0, 1) := by decide +kernel
theorem dX2_compareWithJoined_11 : decode cX2_compareWithJoined 11 = .ok (.istore_n 2, 1) := by decide +kernel
theorem dX2_compareWithJoined_12 : decode cX2_compareWithJoined 12 = .ok (.iload_n 2, 1) := by decide +kernel
theorem dX2_compareWithJoined_13 : decode cX2_compareWithJoined 13 = .ok (.aload_n 0, 1) := by decide +kernel
theorem dX2_compareWithJoined_14 : decode cX2_compareWithJoined 14 = .ok (.getfield 31, 3) := by decide +kernel
theorem dX2_compareWithJoined_17 : decode cX2_compareWithJoined 17 = .ok (.getfield 117, 3) := by decide +kernel
theorem dX2_compareWithJoined_20 : decode cX2_compareWithJoined 20 = .ok (.if_icmp .ge 67, 3) := by decide +kernel
theorem dX2_compareWithJoined_23 : decode cX2_compareWithJoined 23 = .ok (.aload_n 0, 1) := by decide +kernel
theorem dX2_compareWithJoined_24 : decode cX2_compareWithJoined 24 = .ok (.getfield 39, 3) := by decide +kernel
theorem dX2_compareWithJoined_27 : decode cX2_compareWithJoined 27 = .ok (.iload_n 1, 1) := by decide +kernel
theorem dX2_compareWithJoined_28 : decode cX2_compareWithJoined 28 = .ok (.iload_n 2, 1) := by decide +kernel
theorem dX2_compareWithJoined_29 : decode cX2_compareWithJoined 29 = .ok (.invokestatic 81, 3) := by decide +kernel
theorem dX2_compareWithJoined_32 : decode cX2_compareWithJoined 32 = .ok (.invokevirtual 132, 3) := by decide +kernel
theorem dX2_compareWithJoined_35 : decode cX2_compareWithJoined 35 = .ok (.ifCond .eq 46, 3) := by decide +kernel
theorem dX2_compareWithJoined_38 : decode cX2_compareWithJoined 38 = .ok (.aload_n 0, 1) := by decide +kernel
theorem dX2_compareWithJoined_39 : decode cX2_compareWithJoined 39 = .ok (.iload_n 1, 1) := by decide +kernel
theorem dX2_compareWithJoined_40 : decode cX2_compareWithJoined 40 = .ok (.iload_n 2, 1) := by decide +kernel
theorem dX2_compareWithJoined_41 : decode cX2_compareWithJoined 41 = .ok (.invokevirtual 182, 3) := by decide +kernel
theorem dX2_compareWithJoined_44 : decode cX2_compareWithJoined 44 = .ok (.istore_n 3, 1) := by decide +kernel
theorem dX2_compareWithJoined_45 : decode cX2_compareWithJoined 45 = .ok (.aload_n 0, 1) := by decide +kernel
theorem dX2_compareWithJoined_46 : decode cX2_compareWithJoined 46 = .ok (.dup, 1) := by decide +kernel
theorem dX2_compareWithJoined_47 : decode cX2_compareWithJoined 47 = .ok (.getfield 176, 3) := by decide +kernel
theorem dX2_compareWithJoined_50 : decode cX2_compareWithJoined 50 = .ok (.iload_n 3, 1) := by decide +kernel
theorem dX2_compareWithJoined_51 : decode cX2_compareWithJoined 51 = .ok (.ifCond .eq 7, 3) := by decide +kernel
theorem dX2_compareWithJoined_54 : decode cX2_compareWithJoined 54 = .ok (.iconst 1, 1) := by decide +kernel
theorem dX2_compareWithJoined_55 : decode cX2_compareWithJoined 55 = .ok (.goto 4, 3) := by decide +kernel
theorem dX2_compareWithJoined_58 : decode cX2_compareWithJoined 58 = .ok (.iconst 0, 1) := by decide +kernel
theorem dX2_compareWithJoined_59 : decode cX2_compareWithJoined 59 = .ok (.iadd, 1) := by decide +kernel
theorem dX2_compareWithJoined_60 : decode cX2_compareWithJoined 60 = .ok (.putfield 176, 3) := by decide +kernel
theorem dX2_compareWithJoined_63 : decode cX2_compareWithJoined 63 = .ok (.aload_n 0, 1) := by decide +kernel
theorem dX2_compareWithJoined_64 : decode cX2_compareWithJoined 64 = .ok (.dup, 1) := by decide +kernel
theorem dX2_compareWithJoined_65 : decode cX2_compareWithJoined 65 = .ok (.getfield 179, 3) := by decide +kernel
theorem dX2_compareWithJoined_68 : decode cX2_compareWithJoined 68 = .ok (.iload_n 3, 1) := by decide +kernel
theorem dX2_compareWithJoined_69 : decode cX2_compareWithJoined 69 = .ok (.ifCond .ge 7, 3) := by decide +kernel
theorem dX2_compareWithJoined_72 : decode cX2_compareWithJoined 72 = .ok (.iconst 1, 1) := by decide +kernel
theorem dX2_compareWithJoined_73 : decode cX2_compareWithJoined 73 = .ok (.goto 4, 3) := by decide +kernel
theorem dX2_compareWithJoined_76 : decode cX2_compareWithJoined 76 = .ok (.iconst 0, 1) := by decide +kernel
theorem dX2_compareWithJoined_77 : decode cX2_compareWithJoined 77 = .ok (.iadd, 1) := by decide +kernel
theorem dX2_compareWithJoined_78 : decode cX2_compareWithJoined 78 = .ok (.putfield 179, 3) := by decide +kernel
theorem dX2_compareWithJoined_81 : decode cX2_compareWithJoined 81 = .ok (.iinc 2 1, 3) := by decide +kernel
theorem dX2_compareWithJoined_84 : decode cX2_compareWithJoined 84 = .ok (.goto (-72), 3) := by decide +kernel
theorem dX2_compareWithJoined_87 : decode cX2_compareWithJoined 87 = .ok (.return_, 1) := by decide +kernel
theorem dX2_costOverJoined_0 : decode cX2_costOverJoined 0 = .ok (.aload_n 0, 1) := by decide +kernel
theorem dX2_costOverJoined_1 : decode cX2_costOverJoined 1 = .ok (.getfield 31, 3) := by decide +kernel
theorem dX2_costOverJoined_4 : decode cX2_costOverJoined 4 = .ok (.getfield 120, 3) := by decide +kernel
theorem dX2_costOverJoined_7 : decode cX2_costOverJoined 7 = .ok (.iload_n 2, 1) := by decide +kernel
theorem dX2_costOverJoined_8 : decode cX2_costOverJoined 8 = .ok (.aaload, 1) := by decide +kernel
theorem dX2_costOverJoined_9 : decode cX2_costOverJoined 9 = .ok (.astore_n 3, 1) := by decide +kernel
theorem dX2_costOverJoined_10 : decode cX2_costOverJoined 10 = .ok (.iconst 0, 1) := by decide +kernel
theorem dX2_costOverJoined_11 : decode cX2_costOverJoined 11 = .ok (.istore 4, 2) := by decide +kernel
theorem dX2_costOverJoined_13 : decode cX2_costOverJoined 13 = .ok (.aload_n 3, 1) := by decide +kernel
theorem dX2_costOverJoined_14 : decode cX2_costOverJoined 14 = .ok (.getfield 148, 3) := by decide +kernel
theorem dX2_costOverJoined_17 : decode cX2_costOverJoined 17 = .ok (.istore 5, 2) := by decide +kernel
theorem dX2_costOverJoined_19 : decode cX2_costOverJoined 19 = .ok (.iload 5, 2) := by decide +kernel
theorem dX2_costOverJoined_21 : decode cX2_costOverJoined 21 = .ok (.aload_n 3, 1) := by decide +kernel
theorem dX2_costOverJoined_22 : decode cX2_costOverJoined 22 = .ok (.invokevirtual 169, 3) := by decide +kernel
theorem dX2_costOverJoined_25 : decode cX2_costOverJoined 25 = .ok (.if_icmp .ge 64, 3) := by decide +kernel
theorem dX2_costOverJoined_28 : decode cX2_costOverJoined 28 = .ok (.aload_n 0, 1) := by decide +kernel
theorem dX2_costOverJoined_29 : decode cX2_costOverJoined 29 = .ok (.iload_n 2, 1) := by decide +kernel
theorem dX2_costOverJoined_30 : decode cX2_costOverJoined 30 = .ok (.iload 5, 2) := by decide +kernel
theorem dX2_costOverJoined_32 : decode cX2_costOverJoined 32 = .ok (.invokevirtual 173, 3) := by decide +kernel
theorem dX2_costOverJoined_35 : decode cX2_costOverJoined 35 = .ok (.istore 6, 2) := by decide +kernel
theorem dX2_costOverJoined_37 : decode cX2_costOverJoined 37 = .ok (.aload_n 0, 1) := by decide +kernel
theorem dX2_costOverJoined_38 : decode cX2_costOverJoined 38 = .ok (.getfield 39, 3) := by decide +kernel
theorem dX2_costOverJoined_41 : decode cX2_costOverJoined 41 = .ok (.iload_n 1, 1) := by decide +kernel
theorem dX2_costOverJoined_42 : decode cX2_costOverJoined 42 = .ok (.iload_n 2, 1) := by decide +kernel
theorem dX2_costOverJoined_43 : decode cX2_costOverJoined 43 = .ok (.iload 5, 2) := by decide +kernel
theorem dX2_costOverJoined_45 : decode cX2_costOverJoined 45 = .ok (.invokevirtual 185, 3) := by decide +kernel
theorem dX2_costOverJoined_48 : decode cX2_costOverJoined 48 = .ok (.istore 7, 2) := by decide +kernel
theorem dX2_costOverJoined_50 : decode cX2_costOverJoined 50 = .ok (.iload 6, 2) := by decide +kernel
theorem dX2_costOverJoined_52 : decode cX2_costOverJoined 52 = .ok (.iconst (-1), 1) := by decide +kernel
theorem dX2_costOverJoined_53 : decode cX2_costOverJoined 53 = .ok (.if_icmp .eq 30, 3) := by decide +kernel
theorem dX2_costOverJoined_56 : decode cX2_costOverJoined 56 = .ok (.iload 7, 2) := by decide +kernel
theorem dX2_costOverJoined_58 : decode cX2_costOverJoined 58 = .ok (.iconst (-1), 1) := by decide +kernel
theorem dX2_costOverJoined_59 : decode cX2_costOverJoined 59 = .ok (.if_icmp .eq 24, 3) := by decide +kernel
theorem dX2_costOverJoined_62 : decode cX2_costOverJoined 62 = .ok (.iload 4, 2) := by decide +kernel
theorem dX2_costOverJoined_64 : decode cX2_costOverJoined 64 = .ok (.iload 7, 2) := by decide +kernel
theorem dX2_costOverJoined_66 : decode cX2_costOverJoined 66 = .ok (.aload_n 0, 1) := by decide +kernel
theorem dX2_costOverJoined_67 : decode cX2_costOverJoined 67 = .ok (.getfield 35, 3) := by decide +kernel
theorem dX2_costOverJoined_70 : decode cX2_costOverJoined 70 = .ok (.aload_n 3, 1) := by decide +kernel
theorem dX2_costOverJoined_71 : decode cX2_costOverJoined 71 = .ok (.getfield 139, 3) := by decide +kernel
theorem dX2_costOverJoined_74 : decode cX2_costOverJoined 74 = .ok (.iload 6, 2) := by decide +kernel
theorem dX2_costOverJoined_76 : decode cX2_costOverJoined 76 = .ok (.invokevirtual 142, 3) := by decide +kernel
theorem dX2_costOverJoined_79 : decode cX2_costOverJoined 79 = .ok (.isub, 1) := by decide +kernel
theorem dX2_costOverJoined_80 : decode cX2_costOverJoined 80 = .ok (.iadd, 1) := by decide +kernel
theorem dX2_costOverJoined_81 : decode cX2_costOverJoined 81 = .ok (.istore 4, 2) := by decide +kernel
theorem dX2_costOverJoined_83 : decode cX2_costOverJoined 83 = .ok (.iinc 5 1, 3) := by decide +kernel
theorem dX2_costOverJoined_86 : decode cX2_costOverJoined 86 = .ok (.goto (-67), 3) := by decide +kernel
theorem dX2_costOverJoined_89 : decode cX2_costOverJoined 89 = .ok (.iload 4, 2) := by decide +kernel
theorem dX2_costOverJoined_91 : decode cX2_costOverJoined 91 = .ok (.ireturn, 1) := by decide +kernel
theorem dX2_rowsWithHeads_0 : decode cX2_rowsWithHeads 0 = .ok (.lconst 1, 1) := by decide +kernel
theorem dX2_rowsWithHeads_1 : decode cX2_rowsWithHeads 1 = .ok (.lstore_n 2, 1) := by decide +kernel
theorem dX2_rowsWithHeads_2 : decode cX2_rowsWithHeads 2 = .ok (.lconst 0, 1) := by decide +kernel
theorem dX2_rowsWithHeads_3 : decode cX2_rowsWithHeads 3 = .ok (.lstore 4, 2) := by decide +kernel
theorem dX2_rowsWithHeads_5 : decode cX2_rowsWithHeads 5 = .ok (.iconst 0, 1) := by decide +kernel
theorem dX2_rowsWithHeads_6 : decode cX2_rowsWithHeads 6 = .ok (.istore 6, 2) := by decide +kernel
theorem dX2_rowsWithHeads_8 : decode cX2_rowsWithHeads 8 = .ok (.iload 6, 2) := by decide +kernel
theorem dX2_rowsWithHeads_10 : decode cX2_rowsWithHeads 10 = .ok (.iload_n 0, 1) := by decide +kernel
theorem dX2_rowsWithHeads_11 : decode cX2_rowsWithHeads 11 = .ok (.if_icmp .gt 35, 3) := by decide +kernel
theorem dX2_rowsWithHeads_14 : decode cX2_rowsWithHeads 14 = .ok (.iload 6, 2) := by decide +kernel
theorem dX2_rowsWithHeads_16 : decode cX2_rowsWithHeads 16 = .ok (.iload_n 1, 1) := by decide +kernel
theorem dX2_rowsWithHeads_17 : decode cX2_rowsWithHeads 17 = .ok (.if_icmp .lt 9, 3) := by decide +kernel
theorem dX2_rowsWithHeads_20 : decode cX2_rowsWithHeads 20 = .ok (.lload 4, 2) := by decide +kernel
theorem dX2_rowsWithHeads_22 : decode cX2_rowsWithHeads 22 = .ok (.lload_n 2, 1) := by decide +kernel
theorem dX2_rowsWithHeads_23 : decode cX2_rowsWithHeads 23 = .ok (.ladd, 1) := by decide +kernel
theorem dX2_rowsWithHeads_24 : decode cX2_rowsWithHeads 24 = .ok (.lstore 4, 2) := by decide +kernel
theorem dX2_rowsWithHeads_26 : decode cX2_rowsWithHeads 26 = .ok (.lload_n 2, 1) := by decide +kernel
theorem dX2_rowsWithHeads_27 : decode cX2_rowsWithHeads 27 = .ok (.iload_n 0, 1) := by decide +kernel
theorem dX2_rowsWithHeads_28 : decode cX2_rowsWithHeads 28 = .ok (.iload 6, 2) := by decide +kernel
theorem dX2_rowsWithHeads_30 : decode cX2_rowsWithHeads 30 = .ok (.isub, 1) := by decide +kernel
theorem dX2_rowsWithHeads_31 : decode cX2_rowsWithHeads 31 = .ok (.i2l, 1) := by decide +kernel
theorem dX2_rowsWithHeads_32 : decode cX2_rowsWithHeads 32 = .ok (.lmul, 1) := by decide +kernel
theorem dX2_rowsWithHeads_33 : decode cX2_rowsWithHeads 33 = .ok (.iload 6, 2) := by decide +kernel
theorem dX2_rowsWithHeads_35 : decode cX2_rowsWithHeads 35 = .ok (.iconst 1, 1) := by decide +kernel
theorem dX2_rowsWithHeads_36 : decode cX2_rowsWithHeads 36 = .ok (.iadd, 1) := by decide +kernel
theorem dX2_rowsWithHeads_37 : decode cX2_rowsWithHeads 37 = .ok (.i2l, 1) := by decide +kernel
theorem dX2_rowsWithHeads_38 : decode cX2_rowsWithHeads 38 = .ok (.ldiv, 1) := by decide +kernel
theorem dX2_rowsWithHeads_39 : decode cX2_rowsWithHeads 39 = .ok (.lstore_n 2, 1) := by decide +kernel
theorem dX2_rowsWithHeads_40 : decode cX2_rowsWithHeads 40 = .ok (.iinc 6 1, 3) := by decide +kernel
theorem dX2_rowsWithHeads_43 : decode cX2_rowsWithHeads 43 = .ok (.goto (-35), 3) := by decide +kernel
theorem dX2_rowsWithHeads_46 : decode cX2_rowsWithHeads 46 = .ok (.lload 4, 2) := by decide +kernel
theorem dX2_rowsWithHeads_48 : decode cX2_rowsWithHeads 48 = .ok (.lreturn, 1) := by decide +kernel
theorem dX3_init_0 : decode cX3_init 0 = .ok (.aload_n 0, 1) := by decide +kernel
theorem dX3_init_1 : decode cX3_init 1 = .ok (.invokespecial 1, 3) := by decide +kernel
theorem dX3_init_4 : decode cX3_init 4 = .ok (.aload_n 0, 1) := by decide +kernel
theorem dX3_init_5 : decode cX3_init 5 = .ok (.iload_n 1, 1) := by decide +kernel
theorem dX3_init_6 : decode cX3_init 6 = .ok (.putfield 7, 3) := by decide +kernel
theorem dX3_init_9 : decode cX3_init 9 = .ok (.aload_n 0, 1) := by decide +kernel
theorem dX3_init_10 : decode cX3_init 10 = .ok (.iload_n 2, 1) := by decide +kernel
theorem dX3_init_11 : decode cX3_init 11 = .ok (.putfield 13, 3) := by decide +kernel
theorem dX3_init_14 : decode cX3_init 14 = .ok (.aload_n 0, 1) := by decide +kernel
theorem dX3_init_15 : decode cX3_init 15 = .ok (.iload_n 3, 1) := by decide +kernel
theorem dX3_init_16 : decode cX3_init 16 = .ok (.putfield 16, 3) := by decide +kernel
theorem dX3_init_19 : decode cX3_init 19 = .ok (.aload_n 0, 1) := by decide +kernel
theorem dX3_init_20 : decode cX3_init 20 = .ok (.iload 4, 2) := by decide +kernel
theorem dX3_init_22 : decode cX3_init 22 = .ok (.putfield 19, 3) := by decide +kernel
theorem dX3_init_25 : decode cX3_init 25 = .ok (.aload_n 0, 1) := by decide +kernel
theorem dX3_init_26 : decode cX3_init 26 = .ok (.aload 5, 2) := by decide +kernel
theorem dX3_init_28 : decode cX3_init 28 = .ok (.putfield 22, 3) := by decide +kernel
theorem dX3_init_31 : decode cX3_init 31 = .ok (.return_, 1) := by decide +kernel
theorem dX4_init_0 : decode cX4_init 0 = .ok (.aload_n 0, 1) := by decide +kernel
theorem dX4_init_1 : decode cX4_init 1 = .ok (.invokespecial 3, 3) := by decide +kernel
theorem dX4_init_4 : decode cX4_init 4 = .ok (.aload_n 0, 1) := by decide +kernel
theorem dX4_init_5 : decode cX4_init 5 = .ok (.bipush 20, 2) := by decide +kernel
theorem dX4_init_7 : decode cX4_init 7 = .ok (.newarray .int, 2) := by decide +kernel
theorem dX4_init_9 : decode cX4_init 9 = .ok (.putfield 9, 3) := by decide +kernel
theorem dX4_init_12 : decode cX4_init 12 = .ok (.aload_n 0, 1) := by decide +kernel
theorem dX4_init_13 : decode cX4_init 13 = .ok (.iconst 4, 1) := by decide +kernel
theorem dX4_init_14 : decode cX4_init 14 = .ok (.newarray .int, 2) := by decide +kernel
theorem dX4_init_16 : decode cX4_init 16 = .ok (.putfield 15, 3) := by decide +kernel
theorem dX4_init_19 : decode cX4_init 19 = .ok (.aload_n 0, 1) := by decide +kernel
theorem dX4_init_20 : decode cX4_init 20 = .ok (.iconst 4, 1) := by decide +kernel
theorem dX4_init_21 : decode cX4_init 21 = .ok (.newarray .int, 2) := by decide +kernel
theorem dX4_init_23 : decode cX4_init 23 = .ok (.putfield 18, 3) := by decide +kernel
theorem dX4_init_26 : decode cX4_init 26 = .ok (.aload_n 0, 1) := by decide +kernel
theorem dX4_init_27 : decode cX4_init 27 = .ok (.iconst 4, 1) := by decide +kernel
theorem dX4_init_28 : decode cX4_init 28 = .ok (.newarray .int, 2) := by decide +kernel
theorem dX4_init_30 : decode cX4_init 30 = .ok (.putfield 21, 3) := by decide +kernel
theorem dX4_init_33 : decode cX4_init 33 = .ok (.aload_n 0, 1) := by decide +kernel
theorem dX4_init_34 : decode cX4_init 34 = .ok (.iconst 4, 1) := by decide +kernel
theorem dX4_init_35 : decode cX4_init 35 = .ok (.newarray .int, 2) := by decide +kernel
theorem dX4_init_37 : decode cX4_init 37 = .ok (.putfield 24, 3) := by decide +kernel
theorem dX4_init_40 : decode cX4_init 40 = .ok (.aload_n 0, 1) := by decide +kernel
theorem dX4_init_41 : decode cX4_init 41 = .ok (.aload_n 1, 1) := by decide +kernel
theorem dX4_init_42 : decode cX4_init 42 = .ok (.putfield 27, 3) := by decide +kernel
theorem dX4_init_45 : decode cX4_init 45 = .ok (.aload_n 0, 1) := by decide +kernel
theorem dX4_init_46 : decode cX4_init 46 = .ok (.aload_n 2, 1) := by decide +kernel
theorem dX4_init_47 : decode cX4_init 47 = .ok (.putfield 31, 3) := by decide +kernel
theorem dX4_init_50 : decode cX4_init 50 = .ok (.aload_n 0, 1) := by decide +kernel
theorem dX4_init_51 : decode cX4_init 51 = .ok (.getfield 9, 3) := by decide +kernel
theorem dX4_init_54 : decode cX4_init 54 = .ok (.iconst (-1), 1) := by decide +kernel
theorem dX4_init_55 : decode cX4_init 55 = .ok (.invokestatic 35, 3) := by decide +kernel
theorem dX4_init_58 : decode cX4_init 58 = .ok (.return_, 1) := by decide +kernel
theorem dX4_choose_0 : decode cX4_choose 0 = .ok (.aload_n 0, 1) := by decide +kernel
theorem dX4_choose_1 : decode cX4_choose 1 = .ok (.iconst 0, 1) := by decide +kernel
theorem dX4_choose_2 : decode cX4_choose 2 = .ok (.putfield 41, 3) := by decide +kernel
theorem dX4_choose_5 : decode cX4_choose 5 = .ok (.iconst 0, 1) := by decide +kernel
theorem dX4_choose_6 : decode cX4_choose 6 = .ok (.istore 4, 2) := by decide +kernel
theorem dX4_choose_8 : decode cX4_choose 8 = .ok (.iload 4, 2) := by decide +kernel
theorem dX4_choose_10 : decode cX4_choose 10 = .ok (.aload_n 0, 1) := by decide +kernel
theorem dX4_choose_11 : decode cX4_choose 11 = .ok (.getfield 27, 3) := by decide +kernel
theorem dX4_choose_14 : decode cX4_choose 14 = .ok (.getfield 45, 3) := by decide +kernel
theorem dX4_choose_17 : decode cX4_choose 17 = .ok (.if_icmp .ge 83, 3) := by decide +kernel
theorem dX4_choose_20 : decode cX4_choose 20 = .ok (.aload_n 0, 1) := by decide +kernel
theorem dX4_choose_21 : decode cX4_choose 21 = .ok (.getfield 41, 3) := by decide +kernel
theorem dX4_choose_24 : decode cX4_choose 24 = .ok (.iconst 4, 1) := by decide +kernel
theorem dX4_choose_25 : decode cX4_choose 25 = .ok (.if_icmp .ge 75, 3) := by decide +kernel
theorem dX4_choose_28 : decode cX4_choose 28 = .ok (.iload_n 3, 1) := by decide +kernel
theorem dX4_choose_29 : decode cX4_choose 29 = .ok (.iload 4, 2) := by decide +kernel
theorem dX4_choose_31 : decode cX4_choose 31 = .ok (.ishr, 1) := by decide +kernel
theorem dX4_choose_32 : decode cX4_choose 32 = .ok (.iconst 1, 1) := by decide +kernel
theorem dX4_choose_33 : decode cX4_choose 33 = .ok (.iand, 1) := by decide +kernel
theorem dX4_choose_34 : decode cX4_choose 34 = .ok (.iconst 1, 1) := by decide +kernel
theorem dX4_choose_35 : decode cX4_choose 35 = .ok (.if_icmp .ne 59, 3) := by decide +kernel
theorem dX4_choose_38 : decode cX4_choose 38 = .ok (.aload_n 0, 1) := by decide +kernel
theorem dX4_choose_39 : decode cX4_choose 39 = .ok (.getfield 15, 3) := by decide +kernel
theorem dX4_choose_42 : decode cX4_choose 42 = .ok (.aload_n 0, 1) := by decide +kernel
theorem dX4_choose_43 : decode cX4_choose 43 = .ok (.getfield 41, 3) := by decide +kernel
theorem dX4_choose_46 : decode cX4_choose 46 = .ok (.iload 4, 2) := by decide +kernel
theorem dX4_choose_48 : decode cX4_choose 48 = .ok (.iastore, 1) := by decide +kernel
theorem dX4_choose_49 : decode cX4_choose 49 = .ok (.aload_n 0, 1) := by decide +kernel
theorem dX4_choose_50 : decode cX4_choose 50 = .ok (.getfield 18, 3) := by decide +kernel
theorem dX4_choose_53 : decode cX4_choose 53 = .ok (.aload_n 0, 1) := by decide +kernel
theorem dX4_choose_54 : decode cX4_choose 54 = .ok (.getfield 41, 3) := by decide +kernel
theorem dX4_choose_57 : decode cX4_choose 57 = .ok (.aload_n 0, 1) := by decide +kernel
theorem dX4_choose_58 : decode cX4_choose 58 = .ok (.getfield 27, 3) := by decide +kernel
theorem dX4_choose_61 : decode cX4_choose 61 = .ok (.iload_n 1, 1) := by decide +kernel
theorem dX4_choose_62 : decode cX4_choose 62 = .ok (.iload 4, 2) := by decide +kernel
theorem dX4_choose_64 : decode cX4_choose 64 = .ok (.iload_n 2, 1) := by decide +kernel
theorem dX4_choose_65 : decode cX4_choose 65 = .ok (.invokevirtual 50, 3) := by decide +kernel
theorem dX4_choose_68 : decode cX4_choose 68 = .ok (.iastore, 1) := by decide +kernel
theorem dX4_choose_69 : decode cX4_choose 69 = .ok (.aload_n 0, 1) := by decide +kernel
