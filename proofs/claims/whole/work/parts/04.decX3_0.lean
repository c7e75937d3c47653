theorem dX3_init_0 : decode cX3_init 0 = .ok (.aload_n 0, 1) := by decide +kernel
theorem dX3_init_1 : decode cX3_init 1 = .ok (.invokespecial 3, 3) := by decide +kernel
theorem dX3_init_4 : decode cX3_init 4 = .ok (.aload_n 0, 1) := by decide +kernel
theorem dX3_init_5 : decode cX3_init 5 = .ok (.iconst 2, 1) := by decide +kernel
theorem dX3_init_6 : decode cX3_init 6 = .ok (.anewarray 9, 3) := by decide +kernel
theorem dX3_init_9 : decode cX3_init 9 = .ok (.dup, 1) := by decide +kernel
theorem dX3_init_10 : decode cX3_init 10 = .ok (.iconst 0, 1) := by decide +kernel
theorem dX3_init_11 : decode cX3_init 11 = .ok (.new 9, 3) := by decide +kernel
theorem dX3_init_14 : decode cX3_init 14 = .ok (.dup, 1) := by decide +kernel
theorem dX3_init_15 : decode cX3_init 15 = .ok (.invokespecial 11, 3) := by decide +kernel
theorem dX3_init_18 : decode cX3_init 18 = .ok (.aastore, 1) := by decide +kernel
theorem dX3_init_19 : decode cX3_init 19 = .ok (.dup, 1) := by decide +kernel
theorem dX3_init_20 : decode cX3_init 20 = .ok (.iconst 1, 1) := by decide +kernel
theorem dX3_init_21 : decode cX3_init 21 = .ok (.new 9, 3) := by decide +kernel
theorem dX3_init_24 : decode cX3_init 24 = .ok (.dup, 1) := by decide +kernel
theorem dX3_init_25 : decode cX3_init 25 = .ok (.invokespecial 11, 3) := by decide +kernel
theorem dX3_init_28 : decode cX3_init 28 = .ok (.aastore, 1) := by decide +kernel
theorem dX3_init_29 : decode cX3_init 29 = .ok (.putfield 12, 3) := by decide +kernel
theorem dX3_init_32 : decode cX3_init 32 = .ok (.aload_n 0, 1) := by decide +kernel
theorem dX3_init_33 : decode cX3_init 33 = .ok (.new 9, 3) := by decide +kernel
theorem dX3_init_36 : decode cX3_init 36 = .ok (.dup, 1) := by decide +kernel
theorem dX3_init_37 : decode cX3_init 37 = .ok (.invokespecial 11, 3) := by decide +kernel
theorem dX3_init_40 : decode cX3_init 40 = .ok (.putfield 18, 3) := by decide +kernel
theorem dX3_init_43 : decode cX3_init 43 = .ok (.aload_n 0, 1) := by decide +kernel
theorem dX3_init_44 : decode cX3_init 44 = .ok (.iconst 0, 1) := by decide +kernel
theorem dX3_init_45 : decode cX3_init 45 = .ok (.putfield 22, 3) := by decide +kernel
theorem dX3_init_48 : decode cX3_init 48 = .ok (.aload_n 0, 1) := by decide +kernel
theorem dX3_init_49 : decode cX3_init 49 = .ok (.iconst 1, 1) := by decide +kernel
theorem dX3_init_50 : decode cX3_init 50 = .ok (.putfield 26, 3) := by decide +kernel
theorem dX3_init_53 : decode cX3_init 53 = .ok (.return_, 1) := by decide +kernel
theorem dX3_isOpen_0 : decode cX3_isOpen 0 = .ok (.aload_n 0, 1) := by decide +kernel
theorem dX3_isOpen_1 : decode cX3_isOpen 1 = .ok (.getfield 18, 3) := by decide +kernel
theorem dX3_isOpen_4 : decode cX3_isOpen 4 = .ok (.invokevirtual 29, 3) := by decide +kernel
theorem dX3_isOpen_7 : decode cX3_isOpen 7 = .ok (.ifCond .ne 7, 3) := by decide +kernel
theorem dX3_isOpen_10 : decode cX3_isOpen 10 = .ok (.iconst 1, 1) := by decide +kernel
theorem dX3_isOpen_11 : decode cX3_isOpen 11 = .ok (.goto 4, 3) := by decide +kernel
theorem dX3_isOpen_14 : decode cX3_isOpen 14 = .ok (.iconst 0, 1) := by decide +kernel
theorem dX3_isOpen_15 : decode cX3_isOpen 15 = .ok (.ireturn, 1) := by decide +kernel
theorem dX3_copy_0 : decode cX3_copy 0 = .ok (.aload_n 0, 1) := by decide +kernel
theorem dX3_copy_1 : decode cX3_copy 1 = .ok (.getfield 12, 3) := by decide +kernel
theorem dX3_copy_4 : decode cX3_copy 4 = .ok (.iconst 0, 1) := by decide +kernel
theorem dX3_copy_5 : decode cX3_copy 5 = .ok (.aaload, 1) := by decide +kernel
theorem dX3_copy_6 : decode cX3_copy 6 = .ok (.aload_n 1, 1) := by decide +kernel
theorem dX3_copy_7 : decode cX3_copy 7 = .ok (.getfield 12, 3) := by decide +kernel
theorem dX3_copy_10 : decode cX3_copy 10 = .ok (.iconst 0, 1) := by decide +kernel
theorem dX3_copy_11 : decode cX3_copy 11 = .ok (.aaload, 1) := by decide +kernel
theorem dX3_copy_12 : decode cX3_copy 12 = .ok (.invokevirtual 33, 3) := by decide +kernel
theorem dX3_copy_15 : decode cX3_copy 15 = .ok (.aload_n 0, 1) := by decide +kernel
theorem dX3_copy_16 : decode cX3_copy 16 = .ok (.getfield 12, 3) := by decide +kernel
theorem dX3_copy_19 : decode cX3_copy 19 = .ok (.iconst 1, 1) := by decide +kernel
theorem dX3_copy_20 : decode cX3_copy 20 = .ok (.aaload, 1) := by decide +kernel
theorem dX3_copy_21 : decode cX3_copy 21 = .ok (.aload_n 1, 1) := by decide +kernel
theorem dX3_copy_22 : decode cX3_copy 22 = .ok (.getfield 12, 3) := by decide +kernel
theorem dX3_copy_25 : decode cX3_copy 25 = .ok (.iconst 1, 1) := by decide +kernel
theorem dX3_copy_26 : decode cX3_copy 26 = .ok (.aaload, 1) := by decide +kernel
theorem dX3_copy_27 : decode cX3_copy 27 = .ok (.invokevirtual 33, 3) := by decide +kernel
theorem dX3_copy_30 : decode cX3_copy 30 = .ok (.aload_n 0, 1) := by decide +kernel
theorem dX3_copy_31 : decode cX3_copy 31 = .ok (.getfield 18, 3) := by decide +kernel
theorem dX3_copy_34 : decode cX3_copy 34 = .ok (.aload_n 1, 1) := by decide +kernel
theorem dX3_copy_35 : decode cX3_copy 35 = .ok (.getfield 18, 3) := by decide +kernel
theorem dX3_copy_38 : decode cX3_copy 38 = .ok (.invokevirtual 33, 3) := by decide +kernel
theorem dX3_copy_41 : decode cX3_copy 41 = .ok (.aload_n 0, 1) := by decide +kernel
theorem dX3_copy_42 : decode cX3_copy 42 = .ok (.aload_n 1, 1) := by decide +kernel
theorem dX3_copy_43 : decode cX3_copy 43 = .ok (.getfield 22, 3) := by decide +kernel
theorem dX3_copy_46 : decode cX3_copy 46 = .ok (.putfield 22, 3) := by decide +kernel
theorem dX3_copy_49 : decode cX3_copy 49 = .ok (.aload_n 0, 1) := by decide +kernel
theorem dX3_copy_50 : decode cX3_copy 50 = .ok (.aload_n 1, 1) := by decide +kernel
theorem dX3_copy_51 : decode cX3_copy 51 = .ok (.getfield 26, 3) := by decide +kernel
theorem dX3_copy_54 : decode cX3_copy 54 = .ok (.putfield 26, 3) := by decide +kernel
theorem dX3_copy_57 : decode cX3_copy 57 = .ok (.return_, 1) := by decide +kernel
theorem dX3_startAnew_0 : decode cX3_startAnew 0 = .ok (.aload_n 0, 1) := by decide +kernel
theorem dX3_startAnew_1 : decode cX3_startAnew 1 = .ok (.getfield 12, 3) := by decide +kernel
theorem dX3_startAnew_4 : decode cX3_startAnew 4 = .ok (.iconst 0, 1) := by decide +kernel
theorem dX3_startAnew_5 : decode cX3_startAnew 5 = .ok (.aaload, 1) := by decide +kernel
theorem dX3_startAnew_6 : decode cX3_startAnew 6 = .ok (.invokevirtual 37, 3) := by decide +kernel
theorem dX3_startAnew_9 : decode cX3_startAnew 9 = .ok (.aload_n 0, 1) := by decide +kernel
theorem dX3_startAnew_10 : decode cX3_startAnew 10 = .ok (.getfield 12, 3) := by decide +kernel
theorem dX3_startAnew_13 : decode cX3_startAnew 13 = .ok (.iconst 1, 1) := by decide +kernel
theorem dX3_startAnew_14 : decode cX3_startAnew 14 = .ok (.aaload, 1) := by decide +kernel
theorem dX3_startAnew_15 : decode cX3_startAnew 15 = .ok (.invokevirtual 37, 3) := by decide +kernel
theorem dX3_startAnew_18 : decode cX3_startAnew 18 = .ok (.aload_n 0, 1) := by decide +kernel
theorem dX3_startAnew_19 : decode cX3_startAnew 19 = .ok (.getfield 18, 3) := by decide +kernel
theorem dX3_startAnew_22 : decode cX3_startAnew 22 = .ok (.invokevirtual 37, 3) := by decide +kernel
theorem dX3_startAnew_25 : decode cX3_startAnew 25 = .ok (.aload_n 0, 1) := by decide +kernel
theorem dX3_startAnew_26 : decode cX3_startAnew 26 = .ok (.iload_n 1, 1) := by decide +kernel
theorem dX3_startAnew_27 : decode cX3_startAnew 27 = .ok (.putfield 22, 3) := by decide +kernel
theorem dX3_startAnew_30 : decode cX3_startAnew 30 = .ok (.aload_n 0, 1) := by decide +kernel
theorem dX3_startAnew_31 : decode cX3_startAnew 31 = .ok (.iload_n 2, 1) := by decide +kernel
theorem dX3_startAnew_32 : decode cX3_startAnew 32 = .ok (.putfield 26, 3) := by decide +kernel
theorem dX3_startAnew_35 : decode cX3_startAnew 35 = .ok (.return_, 1) := by decide +kernel
theorem dX3_joinWith_0 : decode cX3_joinWith 0 = .ok (.aload_n 3, 1) := by decide +kernel
theorem dX3_joinWith_1 : decode cX3_joinWith 1 = .ok (.aload_n 0, 1) := by decide +kernel
theorem dX3_joinWith_2 : decode cX3_joinWith 2 = .ok (.getfield 12, 3) := by decide +kernel
theorem dX3_joinWith_5 : decode cX3_joinWith 5 = .ok (.iconst 0, 1) := by decide +kernel
theorem dX3_joinWith_6 : decode cX3_joinWith 6 = .ok (.aaload, 1) := by decide +kernel
theorem dX3_joinWith_7 : decode cX3_joinWith 7 = .ok (.aload_n 1, 1) := by decide +kernel
theorem dX3_joinWith_8 : decode cX3_joinWith 8 = .ok (.invokevirtual 40, 3) := by decide +kernel
theorem dX3_joinWith_11 : decode cX3_joinWith 11 = .ok (.ifCond .eq 17, 3) := by decide +kernel
theorem dX3_joinWith_14 : decode cX3_joinWith 14 = .ok (.aload_n 3, 1) := by decide +kernel
theorem dX3_joinWith_15 : decode cX3_joinWith 15 = .ok (.aload_n 0, 1) := by decide +kernel
theorem dX3_joinWith_16 : decode cX3_joinWith 16 = .ok (.getfield 12, 3) := by decide +kernel
theorem dX3_joinWith_19 : decode cX3_joinWith 19 = .ok (.iconst 1, 1) := by decide +kernel
theorem dX3_joinWith_20 : decode cX3_joinWith 20 = .ok (.aaload, 1) := by decide +kernel
theorem dX3_joinWith_21 : decode cX3_joinWith 21 = .ok (.aload_n 2, 1) := by decide +kernel
theorem dX3_joinWith_22 : decode cX3_joinWith 22 = .ok (.invokevirtual 40, 3) := by decide +kernel
theorem dX3_joinWith_25 : decode cX3_joinWith 25 = .ok (.ifCond .ne 6, 3) := by decide +kernel
theorem dX3_joinWith_28 : decode cX3_joinWith 28 = .ok (.bipush (-2), 2) := by decide +kernel
theorem dX3_joinWith_30 : decode cX3_joinWith 30 = .ok (.ireturn, 1) := by decide +kernel
theorem dX3_joinWith_31 : decode cX3_joinWith 31 = .ok (.aload_n 0, 1) := by decide +kernel
theorem dX3_joinWith_32 : decode cX3_joinWith 32 = .ok (.invokevirtual 46, 3) := by decide +kernel
theorem dX3_joinWith_35 : decode cX3_joinWith 35 = .ok (.ifCond .eq 13, 3) := by decide +kernel
theorem dX3_joinWith_38 : decode cX3_joinWith 38 = .ok (.aload_n 0, 1) := by decide +kernel
theorem dX3_joinWith_39 : decode cX3_joinWith 39 = .ok (.aload_n 1, 1) := by decide +kernel
theorem dX3_joinWith_40 : decode cX3_joinWith 40 = .ok (.aload_n 2, 1) := by decide +kernel
theorem dX3_joinWith_41 : decode cX3_joinWith 41 = .ok (.aload_n 3, 1) := by decide +kernel
theorem dX3_joinWith_42 : decode cX3_joinWith 42 = .ok (.invokevirtual 49, 3) := by decide +kernel
theorem dX3_joinWith_45 : decode cX3_joinWith 45 = .ok (.goto 9, 3) := by decide +kernel
theorem dX3_joinWith_48 : decode cX3_joinWith 48 = .ok (.aload_n 3, 1) := by decide +kernel
theorem dX3_joinWith_49 : decode cX3_joinWith 49 = .ok (.aload_n 1, 1) := by decide +kernel
theorem dX3_joinWith_50 : decode cX3_joinWith 50 = .ok (.aload_n 2, 1) := by decide +kernel
theorem dX3_joinWith_51 : decode cX3_joinWith 51 = .ok (.invokevirtual 53, 3) := by decide +kernel
theorem dX3_joinWith_54 : decode cX3_joinWith 54 = .ok (.aload_n 3, 1) := by decide +kernel
theorem dX3_joinWith_55 : decode cX3_joinWith 55 = .ok (.aload_n 0, 1) := by decide +kernel
theorem dX3_joinWith_56 : decode cX3_joinWith 56 = .ok (.getfield 18, 3) := by decide +kernel
theorem dX3_joinWith_59 : decode cX3_joinWith 59 = .ok (.aload_n 3, 1) := by decide +kernel
theorem dX3_joinWith_60 : decode cX3_joinWith 60 = .ok (.getfield 57, 3) := by decide +kernel
theorem dX3_joinWith_63 : decode cX3_joinWith 63 = .ok (.invokevirtual 40, 3) := by decide +kernel
theorem dX3_joinWith_66 : decode cX3_joinWith 66 = .ok (.ifCond .ne 6, 3) := by decide +kernel
theorem dX3_joinWith_69 : decode cX3_joinWith 69 = .ok (.bipush (-2), 2) := by decide +kernel
theorem dX3_joinWith_71 : decode cX3_joinWith 71 = .ok (.ireturn, 1) := by decide +kernel
theorem dX3_joinWith_72 : decode cX3_joinWith 72 = .ok (.aload_n 3, 1) := by decide +kernel
theorem dX3_joinWith_73 : decode cX3_joinWith 73 = .ok (.getfield 57, 3) := by decide +kernel
theorem dX3_joinWith_76 : decode cX3_joinWith 76 = .ok (.invokevirtual 29, 3) := by decide +kernel
theorem dX3_joinWith_79 : decode cX3_joinWith 79 = .ok (.ifCond .eq 6, 3) := by decide +kernel
theorem dX3_joinWith_82 : decode cX3_joinWith 82 = .ok (.bipush (-4), 2) := by decide +kernel
theorem dX3_joinWith_84 : decode cX3_joinWith 84 = .ok (.ireturn, 1) := by decide +kernel
theorem dX3_joinWith_85 : decode cX3_joinWith 85 = .ok (.aload_n 0, 1) := by decide +kernel
theorem dX3_joinWith_86 : decode cX3_joinWith 86 = .ok (.getfield 12, 3) := by decide +kernel
theorem dX3_joinWith_89 : decode cX3_joinWith 89 = .ok (.iconst 0, 1) := by decide +kernel
theorem dX3_joinWith_90 : decode cX3_joinWith 90 = .ok (.aaload, 1) := by decide +kernel
theorem dX3_joinWith_91 : decode cX3_joinWith 91 = .ok (.aload_n 1, 1) := by decide +kernel
theorem dX3_joinWith_92 : decode cX3_joinWith 92 = .ok (.invokevirtual 60, 3) := by decide +kernel
theorem dX3_joinWith_95 : decode cX3_joinWith 95 = .ok (.aload_n 0, 1) := by decide +kernel
theorem dX3_joinWith_96 : decode cX3_joinWith 96 = .ok (.getfield 12, 3) := by decide +kernel
theorem dX3_joinWith_99 : decode cX3_joinWith 99 = .ok (.iconst 1, 1) := by decide +kernel
theorem dX3_joinWith_100 : decode cX3_joinWith 100 = .ok (.aaload, 1) := by decide +kernel
theorem dX3_joinWith_101 : decode cX3_joinWith 101 = .ok (.aload_n 2, 1) := by decide +kernel
theorem dX3_joinWith_102 : decode cX3_joinWith 102 = .ok (.invokevirtual 60, 3) := by decide +kernel
theorem dX3_joinWith_105 : decode cX3_joinWith 105 = .ok (.aload_n 0, 1) := by decide +kernel
theorem dX3_joinWith_106 : decode cX3_joinWith 106 = .ok (.getfield 18, 3) := by decide +kernel
theorem dX3_joinWith_109 : decode cX3_joinWith 109 = .ok (.aload_n 3, 1) := by decide +kernel
theorem dX3_joinWith_110 : decode cX3_joinWith 110 = .ok (.getfield 57, 3) := by decide +kernel
theorem dX3_joinWith_113 : decode cX3_joinWith 113 = .ok (.invokevirtual 60, 3) := by decide +kernel
theorem dX3_joinWith_116 : decode cX3_joinWith 116 = .ok (.iconst 1, 1) := by decide +kernel
theorem dX3_joinWith_117 : decode cX3_joinWith 117 = .ok (.ireturn, 1) := by decide +kernel
theorem dX3_findNewParts_0 : decode cX3_findNewParts 0 = .ok (.aload_n 3, 1) := by decide +kernel
theorem dX3_findNewParts_1 : decode cX3_findNewParts 1 = .ok (.aload_n 1, 1) := by decide +kernel
theorem dX3_findNewParts_2 : decode cX3_findNewParts 2 = .ok (.aload_n 0, 1) := by decide +kernel
theorem dX3_findNewParts_3 : decode cX3_findNewParts 3 = .ok (.getfield 18, 3) := by decide +kernel
theorem dX3_findNewParts_6 : decode cX3_findNewParts 6 = .ok (.aload_n 0, 1) := by decide +kernel
theorem dX3_findNewParts_7 : decode cX3_findNewParts 7 = .ok (.getfield 12, 3) := by decide +kernel
theorem dX3_findNewParts_10 : decode cX3_findNewParts 10 = .ok (.iconst 0, 1) := by decide +kernel
theorem dX3_findNewParts_11 : decode cX3_findNewParts 11 = .ok (.aaload, 1) := by decide +kernel
theorem dX3_findNewParts_12 : decode cX3_findNewParts 12 = .ok (.invokevirtual 63, 3) := by decide +kernel
theorem dX3_findNewParts_15 : decode cX3_findNewParts 15 = .ok (.aload_n 3, 1) := by decide +kernel
theorem dX3_findNewParts_16 : decode cX3_findNewParts 16 = .ok (.getfield 57, 3) := by decide +kernel
theorem dX3_findNewParts_19 : decode cX3_findNewParts 19 = .ok (.aload_n 3, 1) := by decide +kernel
theorem dX3_findNewParts_20 : decode cX3_findNewParts 20 = .ok (.getfield 67, 3) := by decide +kernel
theorem dX3_findNewParts_23 : decode cX3_findNewParts 23 = .ok (.invokevirtual 33, 3) := by decide +kernel
theorem dX3_findNewParts_26 : decode cX3_findNewParts 26 = .ok (.aload_n 3, 1) := by decide +kernel
theorem dX3_findNewParts_27 : decode cX3_findNewParts 27 = .ok (.aload_n 2, 1) := by decide +kernel
theorem dX3_findNewParts_28 : decode cX3_findNewParts 28 = .ok (.aload_n 0, 1) := by decide +kernel
theorem dX3_findNewParts_29 : decode cX3_findNewParts 29 = .ok (.getfield 18, 3) := by decide +kernel
theorem dX3_findNewParts_32 : decode cX3_findNewParts 32 = .ok (.aload_n 0, 1) := by decide +kernel
theorem dX3_findNewParts_33 : decode cX3_findNewParts 33 = .ok (.getfield 12, 3) := by decide +kernel
theorem dX3_findNewParts_36 : decode cX3_findNewParts 36 = .ok (.iconst 1, 1) := by decide +kernel
theorem dX3_findNewParts_37 : decode cX3_findNewParts 37 = .ok (.aaload, 1) := by decide +kernel
theorem dX3_findNewParts_38 : decode cX3_findNewParts 38 = .ok (.invokevirtual 63, 3) := by decide +kernel
theorem dX3_findNewParts_41 : decode cX3_findNewParts 41 = .ok (.aload_n 3, 1) := by decide +kernel
theorem dX3_findNewParts_42 : decode cX3_findNewParts 42 = .ok (.getfield 67, 3) := by decide +kernel
theorem dX3_findNewParts_45 : decode cX3_findNewParts 45 = .ok (.aload_n 3, 1) := by decide +kernel
theorem dX3_findNewParts_46 : decode cX3_findNewParts 46 = .ok (.getfield 57, 3) := by decide +kernel
theorem dX3_findNewParts_49 : decode cX3_findNewParts 49 = .ok (.invokevirtual 70, 3) := by decide +kernel
theorem dX3_findNewParts_52 : decode cX3_findNewParts 52 = .ok (.ifCond .ge 14, 3) := by decide +kernel
theorem dX3_findNewParts_55 : decode cX3_findNewParts 55 = .ok (.aload_n 3, 1) := by decide +kernel
theorem dX3_findNewParts_56 : decode cX3_findNewParts 56 = .ok (.getfield 57, 3) := by decide +kernel
theorem dX3_findNewParts_59 : decode cX3_findNewParts 59 = .ok (.aload_n 3, 1) := by decide +kernel
theorem dX3_findNewParts_60 : decode cX3_findNewParts 60 = .ok (.getfield 67, 3) := by decide +kernel
theorem dX3_findNewParts_63 : decode cX3_findNewParts 63 = .ok (.invokevirtual 33, 3) := by decide +kernel
theorem dX3_findNewParts_66 : decode cX3_findNewParts 66 = .ok (.return_, 1) := by decide +kernel
theorem dX3_leaveWith_0 : decode cX3_leaveWith 0 = .ok (.aload_n 1, 1) := by decide +kernel
theorem dX3_leaveWith_1 : decode cX3_leaveWith 1 = .ok (.aload_n 0, 1) := by decide +kernel
theorem dX3_leaveWith_2 : decode cX3_leaveWith 2 = .ok (.getfield 18, 3) := by decide +kernel
theorem dX3_leaveWith_5 : decode cX3_leaveWith 5 = .ok (.invokevirtual 70, 3) := by decide +kernel
theorem dX3_leaveWith_8 : decode cX3_leaveWith 8 = .ok (.ifCond .le 6, 3) := by decide +kernel
theorem dX3_leaveWith_11 : decode cX3_leaveWith 11 = .ok (.bipush (-3), 2) := by decide +kernel
theorem dX3_leaveWith_13 : decode cX3_leaveWith 13 = .ok (.ireturn, 1) := by decide +kernel
theorem dX3_leaveWith_14 : decode cX3_leaveWith 14 = .ok (.aload_n 1, 1) := by decide +kernel
theorem dX3_leaveWith_15 : decode cX3_leaveWith 15 = .ok (.invokevirtual 29, 3) := by decide +kernel
theorem dX3_leaveWith_18 : decode cX3_leaveWith 18 = .ok (.ifCond .eq 6, 3) := by decide +kernel
theorem dX3_leaveWith_21 : decode cX3_leaveWith 21 = .ok (.bipush (-4), 2) := by decide +kernel
theorem dX3_leaveWith_23 : decode cX3_leaveWith 23 = .ok (.ireturn, 1) := by decide +kernel
theorem dX3_leaveWith_24 : decode cX3_leaveWith 24 = .ok (.aload_n 2, 1) := by decide +kernel
theorem dX3_leaveWith_25 : decode cX3_leaveWith 25 = .ok (.aload_n 0, 1) := by decide +kernel
theorem dX3_leaveWith_26 : decode cX3_leaveWith 26 = .ok (.getfield 12, 3) := by decide +kernel
theorem dX3_leaveWith_29 : decode cX3_leaveWith 29 = .ok (.iconst 0, 1) := by decide +kernel
theorem dX3_leaveWith_30 : decode cX3_leaveWith 30 = .ok (.aaload, 1) := by decide +kernel
theorem dX3_leaveWith_31 : decode cX3_leaveWith 31 = .ok (.aload_n 1, 1) := by decide +kernel
theorem dX3_leaveWith_32 : decode cX3_leaveWith 32 = .ok (.aload_n 0, 1) := by decide +kernel
theorem dX3_leaveWith_33 : decode cX3_leaveWith 33 = .ok (.getfield 18, 3) := by decide +kernel
theorem dX3_leaveWith_36 : decode cX3_leaveWith 36 = .ok (.invokevirtual 63, 3) := by decide +kernel
theorem dX3_leaveWith_39 : decode cX3_leaveWith 39 = .ok (.aload_n 2, 1) := by decide +kernel
theorem dX3_leaveWith_40 : decode cX3_leaveWith 40 = .ok (.getfield 57, 3) := by decide +kernel
theorem dX3_leaveWith_43 : decode cX3_leaveWith 43 = .ok (.aload_n 2, 1) := by decide +kernel
theorem dX3_leaveWith_44 : decode cX3_leaveWith 44 = .ok (.getfield 67, 3) := by decide +kernel
theorem dX3_leaveWith_47 : decode cX3_leaveWith 47 = .ok (.invokevirtual 33, 3) := by decide +kernel
theorem dX3_leaveWith_50 : decode cX3_leaveWith 50 = .ok (.aload_n 2, 1) := by decide +kernel
theorem dX3_leaveWith_51 : decode cX3_leaveWith 51 = .ok (.aload_n 0, 1) := by decide +kernel
theorem dX3_leaveWith_52 : decode cX3_leaveWith 52 = .ok (.getfield 12, 3) := by decide +kernel
theorem dX3_leaveWith_55 : decode cX3_leaveWith 55 = .ok (.iconst 1, 1) := by decide +kernel
theorem dX3_leaveWith_56 : decode cX3_leaveWith 56 = .ok (.aaload, 1) := by decide +kernel
theorem dX3_leaveWith_57 : decode cX3_leaveWith 57 = .ok (.aload_n 1, 1) := by decide +kernel
theorem dX3_leaveWith_58 : decode cX3_leaveWith 58 = .ok (.aload_n 0, 1) := by decide +kernel
theorem dX3_leaveWith_59 : decode cX3_leaveWith 59 = .ok (.getfield 18, 3) := by decide +kernel
theorem dX3_leaveWith_62 : decode cX3_leaveWith 62 = .ok (.invokevirtual 63, 3) := by decide +kernel
theorem dX3_leaveWith_65 : decode cX3_leaveWith 65 = .ok (.aload_n 2, 1) := by decide +kernel
theorem dX3_leaveWith_66 : decode cX3_leaveWith 66 = .ok (.getfield 74, 3) := by decide +kernel
theorem dX3_leaveWith_69 : decode cX3_leaveWith 69 = .ok (.aload_n 2, 1) := by decide +kernel
theorem dX3_leaveWith_70 : decode cX3_leaveWith 70 = .ok (.getfield 67, 3) := by decide +kernel
theorem dX3_leaveWith_73 : decode cX3_leaveWith 73 = .ok (.invokevirtual 33, 3) := by decide +kernel
theorem dX3_leaveWith_76 : decode cX3_leaveWith 76 = .ok (.aload_n 0, 1) := by decide +kernel
theorem dX3_leaveWith_77 : decode cX3_leaveWith 77 = .ok (.getfield 12, 3) := by decide +kernel
theorem dX3_leaveWith_80 : decode cX3_leaveWith 80 = .ok (.iconst 0, 1) := by decide +kernel
theorem dX3_leaveWith_81 : decode cX3_leaveWith 81 = .ok (.aaload, 1) := by decide +kernel
theorem dX3_leaveWith_82 : decode cX3_leaveWith 82 = .ok (.aload_n 2, 1) := by decide +kernel
theorem dX3_leaveWith_83 : decode cX3_leaveWith 83 = .ok (.getfield 57, 3) := by decide +kernel
theorem dX3_leaveWith_86 : decode cX3_leaveWith 86 = .ok (.invokevirtual 77, 3) := by decide +kernel
theorem dX3_leaveWith_89 : decode cX3_leaveWith 89 = .ok (.aload_n 0, 1) := by decide +kernel
theorem dX3_leaveWith_90 : decode cX3_leaveWith 90 = .ok (.getfield 12, 3) := by decide +kernel
theorem dX3_leaveWith_93 : decode cX3_leaveWith 93 = .ok (.iconst 1, 1) := by decide +kernel
theorem dX3_leaveWith_94 : decode cX3_leaveWith 94 = .ok (.aaload, 1) := by decide +kernel
theorem dX3_leaveWith_95 : decode cX3_leaveWith 95 = .ok (.aload_n 2, 1) := by decide +kernel
theorem dX3_leaveWith_96 : decode cX3_leaveWith 96 = .ok (.getfield 74, 3) := by decide +kernel
theorem dX3_leaveWith_99 : decode cX3_leaveWith 99 = .ok (.invokevirtual 77, 3) := by decide +kernel
theorem dX3_leaveWith_102 : decode cX3_leaveWith 102 = .ok (.aload_n 0, 1) := by decide +kernel
theorem dX3_leaveWith_103 : decode cX3_leaveWith 103 = .ok (.getfield 18, 3) := by decide +kernel
theorem dX3_leaveWith_106 : decode cX3_leaveWith 106 = .ok (.aload_n 1, 1) := by decide +kernel
theorem dX3_leaveWith_107 : decode cX3_leaveWith 107 = .ok (.invokevirtual 77, 3) := by decide +kernel
theorem dX3_leaveWith_110 : decode cX3_leaveWith 110 = .ok (.iconst 1, 1) := by decide +kernel
theorem dX3_leaveWith_111 : decode cX3_leaveWith 111 = .ok (.ireturn, 1) := by decide +kernel
theorem dX3_swapGiven_0 : decode cX3_swapGiven 0 = .ok (.aload_n 0, 1) := by decide +kernel
theorem dX3_swapGiven_1 : decode cX3_swapGiven 1 = .ok (.getfield 12, 3) := by decide +kernel
theorem dX3_swapGiven_4 : decode cX3_swapGiven 4 = .ok (.iload_n 1, 1) := by decide +kernel
theorem dX3_swapGiven_5 : decode cX3_swapGiven 5 = .ok (.aaload, 1) := by decide +kernel
theorem dX3_swapGiven_6 : decode cX3_swapGiven 6 = .ok (.astore 4, 2) := by decide +kernel
theorem dX3_swapGiven_8 : decode cX3_swapGiven 8 = .ok (.aload_n 0, 1) := by decide +kernel
theorem dX3_swapGiven_9 : decode cX3_swapGiven 9 = .ok (.getfield 12, 3) := by decide +kernel
theorem dX3_swapGiven_12 : decode cX3_swapGiven 12 = .ok (.iconst 1, 1) := by decide +kernel
theorem dX3_swapGiven_13 : decode cX3_swapGiven 13 = .ok (.iload_n 1, 1) := by decide +kernel
theorem dX3_swapGiven_14 : decode cX3_swapGiven 14 = .ok (.isub, 1) := by decide +kernel
theorem dX3_swapGiven_15 : decode cX3_swapGiven 15 = .ok (.aaload, 1) := by decide +kernel
theorem dX3_swapGiven_16 : decode cX3_swapGiven 16 = .ok (.astore 5, 2) := by decide +kernel
theorem dX3_swapGiven_18 : decode cX3_swapGiven 18 = .ok (.aload_n 3, 1) := by decide +kernel
theorem dX3_swapGiven_19 : decode cX3_swapGiven 19 = .ok (.aload 4, 2) := by decide +kernel
theorem dX3_swapGiven_21 : decode cX3_swapGiven 21 = .ok (.aload_n 2, 1) := by decide +kernel
theorem dX3_swapGiven_22 : decode cX3_swapGiven 22 = .ok (.invokevirtual 40, 3) := by decide +kernel
theorem dX3_swapGiven_25 : decode cX3_swapGiven 25 = .ok (.ifCond .ne 6, 3) := by decide +kernel
theorem dX3_swapGiven_28 : decode cX3_swapGiven 28 = .ok (.bipush (-2), 2) := by decide +kernel
theorem dX3_swapGiven_30 : decode cX3_swapGiven 30 = .ok (.ireturn, 1) := by decide +kernel
theorem dX3_swapGiven_31 : decode cX3_swapGiven 31 = .ok (.aload_n 0, 1) := by decide +kernel
theorem dX3_swapGiven_32 : decode cX3_swapGiven 32 = .ok (.invokevirtual 46, 3) := by decide +kernel
theorem dX3_swapGiven_35 : decode cX3_swapGiven 35 = .ok (.ifCond .ne 6, 3) := by decide +kernel
theorem dX3_swapGiven_38 : decode cX3_swapGiven 38 = .ok (.bipush (-4), 2) := by decide +kernel
theorem dX3_swapGiven_40 : decode cX3_swapGiven 40 = .ok (.ireturn, 1) := by decide +kernel
theorem dX3_swapGiven_41 : decode cX3_swapGiven 41 = .ok (.aload_n 3, 1) := by decide +kernel
theorem dX3_swapGiven_42 : decode cX3_swapGiven 42 = .ok (.getfield 57, 3) := by decide +kernel
theorem dX3_swapGiven_45 : decode cX3_swapGiven 45 = .ok (.aload_n 2, 1) := by decide +kernel
theorem dX3_swapGiven_46 : decode cX3_swapGiven 46 = .ok (.invokevirtual 33, 3) := by decide +kernel
theorem dX3_swapGiven_49 : decode cX3_swapGiven 49 = .ok (.aload_n 3, 1) := by decide +kernel
theorem dX3_swapGiven_50 : decode cX3_swapGiven 50 = .ok (.getfield 57, 3) := by decide +kernel
theorem dX3_swapGiven_53 : decode cX3_swapGiven 53 = .ok (.aload_n 0, 1) := by decide +kernel
theorem dX3_swapGiven_54 : decode cX3_swapGiven 54 = .ok (.getfield 26, 3) := by decide +kernel
theorem dX3_swapGiven_57 : decode cX3_swapGiven 57 = .ok (.aload_n 0, 1) := by decide +kernel
theorem dX3_swapGiven_58 : decode cX3_swapGiven 58 = .ok (.getfield 22, 3) := by decide +kernel
theorem dX3_swapGiven_61 : decode cX3_swapGiven 61 = .ok (.isub, 1) := by decide +kernel
theorem dX3_swapGiven_62 : decode cX3_swapGiven 62 = .ok (.iconst 0, 1) := by decide +kernel
theorem dX3_swapGiven_63 : decode cX3_swapGiven 63 = .ok (.invokevirtual 80, 3) := by decide +kernel
theorem dX3_swapGiven_66 : decode cX3_swapGiven 66 = .ok (.aload_n 3, 1) := by decide +kernel
theorem dX3_swapGiven_67 : decode cX3_swapGiven 67 = .ok (.getfield 84, 3) := by decide +kernel
theorem dX3_swapGiven_70 : decode cX3_swapGiven 70 = .ok (.aload 5, 2) := by decide +kernel
theorem dX3_swapGiven_72 : decode cX3_swapGiven 72 = .ok (.aload_n 3, 1) := by decide +kernel
theorem dX3_swapGiven_73 : decode cX3_swapGiven 73 = .ok (.getfield 57, 3) := by decide +kernel
theorem dX3_swapGiven_76 : decode cX3_swapGiven 76 = .ok (.invokevirtual 87, 3) := by decide +kernel
theorem dX3_swapGiven_79 : decode cX3_swapGiven 79 = .ok (.aload_n 3, 1) := by decide +kernel
theorem dX3_swapGiven_80 : decode cX3_swapGiven 80 = .ok (.getfield 90, 3) := by decide +kernel
theorem dX3_swapGiven_83 : decode cX3_swapGiven 83 = .ok (.aload 4, 2) := by decide +kernel
theorem dX3_swapGiven_85 : decode cX3_swapGiven 85 = .ok (.invokevirtual 33, 3) := by decide +kernel
theorem dX3_swapGiven_88 : decode cX3_swapGiven 88 = .ok (.aload_n 3, 1) := by decide +kernel
theorem dX3_swapGiven_89 : decode cX3_swapGiven 89 = .ok (.getfield 90, 3) := by decide +kernel
theorem dX3_swapGiven_92 : decode cX3_swapGiven 92 = .ok (.aload_n 0, 1) := by decide +kernel
theorem dX3_swapGiven_93 : decode cX3_swapGiven 93 = .ok (.getfield 26, 3) := by decide +kernel
theorem dX3_swapGiven_96 : decode cX3_swapGiven 96 = .ok (.iconst 0, 1) := by decide +kernel
theorem dX3_swapGiven_97 : decode cX3_swapGiven 97 = .ok (.invokevirtual 80, 3) := by decide +kernel
theorem dX3_swapGiven_100 : decode cX3_swapGiven 100 = .ok (.aload_n 3, 1) := by decide +kernel
theorem dX3_swapGiven_101 : decode cX3_swapGiven 101 = .ok (.getfield 90, 3) := by decide +kernel
theorem dX3_swapGiven_104 : decode cX3_swapGiven 104 = .ok (.aload_n 3, 1) := by decide +kernel
theorem dX3_swapGiven_105 : decode cX3_swapGiven 105 = .ok (.getfield 57, 3) := by decide +kernel
theorem dX3_swapGiven_108 : decode cX3_swapGiven 108 = .ok (.invokevirtual 60, 3) := by decide +kernel
theorem dX3_swapGiven_111 : decode cX3_swapGiven 111 = .ok (.aload_n 3, 1) := by decide +kernel
theorem dX3_swapGiven_112 : decode cX3_swapGiven 112 = .ok (.invokevirtual 93, 3) := by decide +kernel
theorem dX3_swapGiven_115 : decode cX3_swapGiven 115 = .ok (.aload_n 3, 1) := by decide +kernel
theorem dX3_swapGiven_116 : decode cX3_swapGiven 116 = .ok (.getfield 57, 3) := by decide +kernel
theorem dX3_swapGiven_119 : decode cX3_swapGiven 119 = .ok (.aload_n 3, 1) := by decide +kernel
theorem dX3_swapGiven_120 : decode cX3_swapGiven 120 = .ok (.getfield 67, 3) := by decide +kernel
theorem dX3_swapGiven_123 : decode cX3_swapGiven 123 = .ok (.invokevirtual 33, 3) := by decide +kernel
theorem dX3_swapGiven_126 : decode cX3_swapGiven 126 = .ok (.aload_n 3, 1) := by decide +kernel
theorem dX3_swapGiven_127 : decode cX3_swapGiven 127 = .ok (.getfield 57, 3) := by decide +kernel
theorem dX3_swapGiven_130 : decode cX3_swapGiven 130 = .ok (.invokevirtual 29, 3) := by decide +kernel
theorem dX3_swapGiven_133 : decode cX3_swapGiven 133 = .ok (.ifCond .eq 6, 3) := by decide +kernel
theorem dX3_swapGiven_136 : decode cX3_swapGiven 136 = .ok (.bipush (-4), 2) := by decide +kernel
theorem dX3_swapGiven_138 : decode cX3_swapGiven 138 = .ok (.ireturn, 1) := by decide +kernel
theorem dX3_swapGiven_139 : decode cX3_swapGiven 139 = .ok (.aload 4, 2) := by decide +kernel
theorem dX3_swapGiven_141 : decode cX3_swapGiven 141 = .ok (.aload_n 2, 1) := by decide +kernel
theorem dX3_swapGiven_142 : decode cX3_swapGiven 142 = .ok (.invokevirtual 60, 3) := by decide +kernel
theorem dX3_swapGiven_145 : decode cX3_swapGiven 145 = .ok (.aload 5, 2) := by decide +kernel
theorem dX3_swapGiven_147 : decode cX3_swapGiven 147 = .ok (.aload_n 3, 1) := by decide +kernel
theorem dX3_swapGiven_148 : decode cX3_swapGiven 148 = .ok (.getfield 57, 3) := by decide +kernel
theorem dX3_swapGiven_151 : decode cX3_swapGiven 151 = .ok (.invokevirtual 77, 3) := by decide +kernel
theorem dX3_swapGiven_154 : decode cX3_swapGiven 154 = .ok (.iconst 1, 1) := by decide +kernel
theorem dX3_swapGiven_155 : decode cX3_swapGiven 155 = .ok (.ireturn, 1) := by decide +kernel
theorem dX3_swapAsked_0 : decode cX3_swapAsked 0 = .ok (.aload_n 0, 1) := by decide +kernel
theorem dX3_swapAsked_1 : decode cX3_swapAsked 1 = .ok (.getfield 12, 3) := by decide +kernel
theorem dX3_swapAsked_4 : decode cX3_swapAsked 4 = .ok (.iload_n 1, 1) := by decide +kernel
theorem dX3_swapAsked_5 : decode cX3_swapAsked 5 = .ok (.aaload, 1) := by decide +kernel
theorem dX3_swapAsked_6 : decode cX3_swapAsked 6 = .ok (.astore 4, 2) := by decide +kernel
theorem dX3_swapAsked_8 : decode cX3_swapAsked 8 = .ok (.aload_n 0, 1) := by decide +kernel
theorem dX3_swapAsked_9 : decode cX3_swapAsked 9 = .ok (.getfield 12, 3) := by decide +kernel
theorem dX3_swapAsked_12 : decode cX3_swapAsked 12 = .ok (.iconst 1, 1) := by decide +kernel
theorem dX3_swapAsked_13 : decode cX3_swapAsked 13 = .ok (.iload_n 1, 1) := by decide +kernel
theorem dX3_swapAsked_14 : decode cX3_swapAsked 14 = .ok (.isub, 1) := by decide +kernel
theorem dX3_swapAsked_15 : decode cX3_swapAsked 15 = .ok (.aaload, 1) := by decide +kernel
theorem dX3_swapAsked_16 : decode cX3_swapAsked 16 = .ok (.astore 5, 2) := by decide +kernel
theorem dX3_swapAsked_18 : decode cX3_swapAsked 18 = .ok (.aload_n 2, 1) := by decide +kernel
theorem dX3_swapAsked_19 : decode cX3_swapAsked 19 = .ok (.aload 5, 2) := by decide +kernel
theorem dX3_swapAsked_21 : decode cX3_swapAsked 21 = .ok (.invokevirtual 70, 3) := by decide +kernel
theorem dX3_swapAsked_24 : decode cX3_swapAsked 24 = .ok (.ifCond .lt 6, 3) := by decide +kernel
theorem dX3_swapAsked_27 : decode cX3_swapAsked 27 = .ok (.bipush (-3), 2) := by decide +kernel
theorem dX3_swapAsked_29 : decode cX3_swapAsked 29 = .ok (.ireturn, 1) := by decide +kernel
theorem dX3_swapAsked_30 : decode cX3_swapAsked 30 = .ok (.aload_n 3, 1) := by decide +kernel
theorem dX3_swapAsked_31 : decode cX3_swapAsked 31 = .ok (.getfield 57, 3) := by decide +kernel
theorem dX3_swapAsked_34 : decode cX3_swapAsked 34 = .ok (.aload 4, 2) := by decide +kernel
theorem dX3_swapAsked_36 : decode cX3_swapAsked 36 = .ok (.invokevirtual 33, 3) := by decide +kernel
theorem dX3_swapAsked_39 : decode cX3_swapAsked 39 = .ok (.aload_n 3, 1) := by decide +kernel
theorem dX3_swapAsked_40 : decode cX3_swapAsked 40 = .ok (.getfield 57, 3) := by decide +kernel
theorem dX3_swapAsked_43 : decode cX3_swapAsked 43 = .ok (.aload_n 0, 1) := by decide +kernel
theorem dX3_swapAsked_44 : decode cX3_swapAsked 44 = .ok (.getfield 26, 3) := by decide +kernel
theorem dX3_swapAsked_47 : decode cX3_swapAsked 47 = .ok (.iconst 0, 1) := by decide +kernel
theorem dX3_swapAsked_48 : decode cX3_swapAsked 48 = .ok (.invokevirtual 80, 3) := by decide +kernel
theorem dX3_swapAsked_51 : decode cX3_swapAsked 51 = .ok (.aload_n 3, 1) := by decide +kernel
theorem dX3_swapAsked_52 : decode cX3_swapAsked 52 = .ok (.getfield 84, 3) := by decide +kernel
theorem dX3_swapAsked_55 : decode cX3_swapAsked 55 = .ok (.aload_n 3, 1) := by decide +kernel
theorem dX3_swapAsked_56 : decode cX3_swapAsked 56 = .ok (.getfield 57, 3) := by decide +kernel
theorem dX3_swapAsked_59 : decode cX3_swapAsked 59 = .ok (.aload_n 2, 1) := by decide +kernel
theorem dX3_swapAsked_60 : decode cX3_swapAsked 60 = .ok (.invokevirtual 87, 3) := by decide +kernel
theorem dX3_swapAsked_63 : decode cX3_swapAsked 63 = .ok (.aload_n 3, 1) := by decide +kernel
theorem dX3_swapAsked_64 : decode cX3_swapAsked 64 = .ok (.getfield 90, 3) := by decide +kernel
theorem dX3_swapAsked_67 : decode cX3_swapAsked 67 = .ok (.aload 5, 2) := by decide +kernel
theorem dX3_swapAsked_69 : decode cX3_swapAsked 69 = .ok (.invokevirtual 33, 3) := by decide +kernel
theorem dX3_swapAsked_72 : decode cX3_swapAsked 72 = .ok (.aload_n 3, 1) := by decide +kernel
theorem dX3_swapAsked_73 : decode cX3_swapAsked 73 = .ok (.getfield 90, 3) := by decide +kernel
theorem dX3_swapAsked_76 : decode cX3_swapAsked 76 = .ok (.aload_n 2, 1) := by decide +kernel
theorem dX3_swapAsked_77 : decode cX3_swapAsked 77 = .ok (.invokevirtual 77, 3) := by decide +kernel
theorem dX3_swapAsked_80 : decode cX3_swapAsked 80 = .ok (.aload_n 3, 1) := by decide +kernel
theorem dX3_swapAsked_81 : decode cX3_swapAsked 81 = .ok (.getfield 90, 3) := by decide +kernel
theorem dX3_swapAsked_84 : decode cX3_swapAsked 84 = .ok (.aload_n 0, 1) := by decide +kernel
theorem dX3_swapAsked_85 : decode cX3_swapAsked 85 = .ok (.getfield 26, 3) := by decide +kernel
theorem dX3_swapAsked_88 : decode cX3_swapAsked 88 = .ok (.aload_n 0, 1) := by decide +kernel
theorem dX3_swapAsked_89 : decode cX3_swapAsked 89 = .ok (.getfield 22, 3) := by decide +kernel
theorem dX3_swapAsked_92 : decode cX3_swapAsked 92 = .ok (.isub, 1) := by decide +kernel
theorem dX3_swapAsked_93 : decode cX3_swapAsked 93 = .ok (.iconst 0, 1) := by decide +kernel
theorem dX3_swapAsked_94 : decode cX3_swapAsked 94 = .ok (.invokevirtual 80, 3) := by decide +kernel
theorem dX3_swapAsked_97 : decode cX3_swapAsked 97 = .ok (.aload_n 3, 1) := by decide +kernel
theorem dX3_swapAsked_98 : decode cX3_swapAsked 98 = .ok (.invokevirtual 93, 3) := by decide +kernel
theorem dX3_swapAsked_101 : decode cX3_swapAsked 101 = .ok (.aload_n 3, 1) := by decide +kernel
theorem dX3_swapAsked_102 : decode cX3_swapAsked 102 = .ok (.iconst 1, 1) := by decide +kernel
theorem dX3_swapAsked_103 : decode cX3_swapAsked 103 = .ok (.invokevirtual 96, 3) := by decide +kernel
theorem dX3_swapAsked_106 : decode cX3_swapAsked 106 = .ok (.aload_n 3, 1) := by decide +kernel
theorem dX3_swapAsked_107 : decode cX3_swapAsked 107 = .ok (.getfield 57, 3) := by decide +kernel
theorem dX3_swapAsked_110 : decode cX3_swapAsked 110 = .ok (.aload_n 3, 1) := by decide +kernel
theorem dX3_swapAsked_111 : decode cX3_swapAsked 111 = .ok (.getfield 67, 3) := by decide +kernel
theorem dX3_swapAsked_114 : decode cX3_swapAsked 114 = .ok (.invokevirtual 33, 3) := by decide +kernel
theorem dX3_swapAsked_117 : decode cX3_swapAsked 117 = .ok (.aload_n 3, 1) := by decide +kernel
theorem dX3_swapAsked_118 : decode cX3_swapAsked 118 = .ok (.aload 4, 2) := by decide +kernel
theorem dX3_swapAsked_120 : decode cX3_swapAsked 120 = .ok (.aload_n 3, 1) := by decide +kernel
theorem dX3_swapAsked_121 : decode cX3_swapAsked 121 = .ok (.getfield 57, 3) := by decide +kernel
theorem dX3_swapAsked_124 : decode cX3_swapAsked 124 = .ok (.invokevirtual 40, 3) := by decide +kernel
theorem dX3_swapAsked_127 : decode cX3_swapAsked 127 = .ok (.ifCond .ne 6, 3) := by decide +kernel
theorem dX3_swapAsked_130 : decode cX3_swapAsked 130 = .ok (.bipush (-2), 2) := by decide +kernel
theorem dX3_swapAsked_132 : decode cX3_swapAsked 132 = .ok (.ireturn, 1) := by decide +kernel
theorem dX3_swapAsked_133 : decode cX3_swapAsked 133 = .ok (.aload_n 2, 1) := by decide +kernel
theorem dX3_swapAsked_134 : decode cX3_swapAsked 134 = .ok (.invokevirtual 29, 3) := by decide +kernel
theorem dX3_swapAsked_137 : decode cX3_swapAsked 137 = .ok (.ifCond .eq 6, 3) := by decide +kernel
theorem dX3_swapAsked_140 : decode cX3_swapAsked 140 = .ok (.bipush (-4), 2) := by decide +kernel
theorem dX3_swapAsked_142 : decode cX3_swapAsked 142 = .ok (.ireturn, 1) := by decide +kernel
theorem dX3_swapAsked_143 : decode cX3_swapAsked 143 = .ok (.aload 4, 2) := by decide +kernel
theorem dX3_swapAsked_145 : decode cX3_swapAsked 145 = .ok (.aload_n 3, 1) := by decide +kernel
theorem dX3_swapAsked_146 : decode cX3_swapAsked 146 = .ok (.getfield 57, 3) := by decide +kernel
theorem dX3_swapAsked_149 : decode cX3_swapAsked 149 = .ok (.invokevirtual 60, 3) := by decide +kernel
theorem dX3_swapAsked_152 : decode cX3_swapAsked 152 = .ok (.aload 5, 2) := by decide +kernel
theorem dX3_swapAsked_154 : decode cX3_swapAsked 154 = .ok (.aload_n 2, 1) := by decide +kernel
theorem dX3_swapAsked_155 : decode cX3_swapAsked 155 = .ok (.invokevirtual 77, 3) := by decide +kernel
theorem dX3_swapAsked_158 : decode cX3_swapAsked 158 = .ok (.iconst 1, 1) := by decide +kernel
theorem dX3_swapAsked_159 : decode cX3_swapAsked 159 = .ok (.ireturn, 1) := by decide +kernel
