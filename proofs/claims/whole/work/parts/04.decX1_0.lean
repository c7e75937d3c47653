theorem dX1_init_0 : decode cX1_init 0 = .ok (.aload_n 0, 1) := by decide +kernel
theorem dX1_init_1 : decode cX1_init 1 = .ok (.invokespecial 3, 3) := by decide +kernel
theorem dX1_init_4 : decode cX1_init 4 = .ok (.aload_n 0, 1) := by decide +kernel
theorem dX1_init_5 : decode cX1_init 5 = .ok (.new 9, 3) := by decide +kernel
theorem dX1_init_8 : decode cX1_init 8 = .ok (.dup, 1) := by decide +kernel
theorem dX1_init_9 : decode cX1_init 9 = .ok (.invokespecial 11, 3) := by decide +kernel
theorem dX1_init_12 : decode cX1_init 12 = .ok (.putfield 12, 3) := by decide +kernel
theorem dX1_init_15 : decode cX1_init 15 = .ok (.aload_n 0, 1) := by decide +kernel
theorem dX1_init_16 : decode cX1_init 16 = .ok (.new 9, 3) := by decide +kernel
theorem dX1_init_19 : decode cX1_init 19 = .ok (.dup, 1) := by decide +kernel
theorem dX1_init_20 : decode cX1_init 20 = .ok (.invokespecial 11, 3) := by decide +kernel
theorem dX1_init_23 : decode cX1_init 23 = .ok (.putfield 18, 3) := by decide +kernel
theorem dX1_init_26 : decode cX1_init 26 = .ok (.aload_n 0, 1) := by decide +kernel
theorem dX1_init_27 : decode cX1_init 27 = .ok (.new 9, 3) := by decide +kernel
theorem dX1_init_30 : decode cX1_init 30 = .ok (.dup, 1) := by decide +kernel
theorem dX1_init_31 : decode cX1_init 31 = .ok (.invokespecial 11, 3) := by decide +kernel
theorem dX1_init_34 : decode cX1_init 34 = .ok (.putfield 21, 3) := by decide +kernel
theorem dX1_init_37 : decode cX1_init 37 = .ok (.aload_n 0, 1) := by decide +kernel
theorem dX1_init_38 : decode cX1_init 38 = .ok (.new 9, 3) := by decide +kernel
theorem dX1_init_41 : decode cX1_init 41 = .ok (.dup, 1) := by decide +kernel
theorem dX1_init_42 : decode cX1_init 42 = .ok (.invokespecial 11, 3) := by decide +kernel
theorem dX1_init_45 : decode cX1_init 45 = .ok (.putfield 24, 3) := by decide +kernel
theorem dX1_init_48 : decode cX1_init 48 = .ok (.aload_n 0, 1) := by decide +kernel
theorem dX1_init_49 : decode cX1_init 49 = .ok (.new 9, 3) := by decide +kernel
theorem dX1_init_52 : decode cX1_init 52 = .ok (.dup, 1) := by decide +kernel
theorem dX1_init_53 : decode cX1_init 53 = .ok (.invokespecial 11, 3) := by decide +kernel
theorem dX1_init_56 : decode cX1_init 56 = .ok (.putfield 27, 3) := by decide +kernel
theorem dX1_init_59 : decode cX1_init 59 = .ok (.aload_n 0, 1) := by decide +kernel
theorem dX1_init_60 : decode cX1_init 60 = .ok (.new 9, 3) := by decide +kernel
theorem dX1_init_63 : decode cX1_init 63 = .ok (.dup, 1) := by decide +kernel
theorem dX1_init_64 : decode cX1_init 64 = .ok (.invokespecial 11, 3) := by decide +kernel
theorem dX1_init_67 : decode cX1_init 67 = .ok (.putfield 30, 3) := by decide +kernel
theorem dX1_init_70 : decode cX1_init 70 = .ok (.aload_n 0, 1) := by decide +kernel
theorem dX1_init_71 : decode cX1_init 71 = .ok (.new 9, 3) := by decide +kernel
theorem dX1_init_74 : decode cX1_init 74 = .ok (.dup, 1) := by decide +kernel
theorem dX1_init_75 : decode cX1_init 75 = .ok (.invokespecial 11, 3) := by decide +kernel
theorem dX1_init_78 : decode cX1_init 78 = .ok (.putfield 33, 3) := by decide +kernel
theorem dX1_init_81 : decode cX1_init 81 = .ok (.aload_n 0, 1) := by decide +kernel
theorem dX1_init_82 : decode cX1_init 82 = .ok (.new 9, 3) := by decide +kernel
theorem dX1_init_85 : decode cX1_init 85 = .ok (.dup, 1) := by decide +kernel
theorem dX1_init_86 : decode cX1_init 86 = .ok (.invokespecial 11, 3) := by decide +kernel
theorem dX1_init_89 : decode cX1_init 89 = .ok (.putfield 36, 3) := by decide +kernel
theorem dX1_init_92 : decode cX1_init 92 = .ok (.return_, 1) := by decide +kernel
theorem dX1_split_0 : decode cX1_split 0 = .ok (.aload_n 0, 1) := by decide +kernel
theorem dX1_split_1 : decode cX1_split 1 = .ok (.getfield 21, 3) := by decide +kernel
theorem dX1_split_4 : decode cX1_split 4 = .ok (.invokevirtual 39, 3) := by decide +kernel
theorem dX1_split_7 : decode cX1_split 7 = .ok (.aload_n 0, 1) := by decide +kernel
theorem dX1_split_8 : decode cX1_split 8 = .ok (.getfield 24, 3) := by decide +kernel
theorem dX1_split_11 : decode cX1_split 11 = .ok (.aload_n 0, 1) := by decide +kernel
theorem dX1_split_12 : decode cX1_split 12 = .ok (.getfield 12, 3) := by decide +kernel
theorem dX1_split_15 : decode cX1_split 15 = .ok (.invokevirtual 42, 3) := by decide +kernel
theorem dX1_split_18 : decode cX1_split 18 = .ok (.aload_n 0, 1) := by decide +kernel
theorem dX1_split_19 : decode cX1_split 19 = .ok (.getfield 18, 3) := by decide +kernel
theorem dX1_split_22 : decode cX1_split 22 = .ok (.invokevirtual 46, 3) := by decide +kernel
theorem dX1_split_25 : decode cX1_split 25 = .ok (.istore_n 1, 1) := by decide +kernel
theorem dX1_split_26 : decode cX1_split 26 = .ok (.iload_n 1, 1) := by decide +kernel
theorem dX1_split_27 : decode cX1_split 27 = .ok (.ifCond .ne 4, 3) := by decide +kernel
theorem dX1_split_30 : decode cX1_split 30 = .ok (.return_, 1) := by decide +kernel
theorem dX1_split_31 : decode cX1_split 31 = .ok (.ldc 50, 2) := by decide +kernel
theorem dX1_split_33 : decode cX1_split 33 = .ok (.aload_n 0, 1) := by decide +kernel
theorem dX1_split_34 : decode cX1_split 34 = .ok (.getfield 18, 3) := by decide +kernel
theorem dX1_split_37 : decode cX1_split 37 = .ok (.getfield 51, 3) := by decide +kernel
theorem dX1_split_40 : decode cX1_split 40 = .ok (.iload_n 1, 1) := by decide +kernel
theorem dX1_split_41 : decode cX1_split 41 = .ok (.iconst 1, 1) := by decide +kernel
theorem dX1_split_42 : decode cX1_split 42 = .ok (.isub, 1) := by decide +kernel
theorem dX1_split_43 : decode cX1_split 43 = .ok (.iaload, 1) := by decide +kernel
theorem dX1_split_44 : decode cX1_split 44 = .ok (.iconst 1, 1) := by decide +kernel
theorem dX1_split_45 : decode cX1_split 45 = .ok (.iadd, 1) := by decide +kernel
theorem dX1_split_46 : decode cX1_split 46 = .ok (.idiv, 1) := by decide +kernel
theorem dX1_split_47 : decode cX1_split 47 = .ok (.istore_n 2, 1) := by decide +kernel
theorem dX1_split_48 : decode cX1_split 48 = .ok (.aload_n 0, 1) := by decide +kernel
theorem dX1_split_49 : decode cX1_split 49 = .ok (.getfield 27, 3) := by decide +kernel
theorem dX1_split_52 : decode cX1_split 52 = .ok (.aload_n 0, 1) := by decide +kernel
theorem dX1_split_53 : decode cX1_split 53 = .ok (.getfield 18, 3) := by decide +kernel
theorem dX1_split_56 : decode cX1_split 56 = .ok (.invokevirtual 42, 3) := by decide +kernel
theorem dX1_split_59 : decode cX1_split 59 = .ok (.aload_n 0, 1) := by decide +kernel
theorem dX1_split_60 : decode cX1_split 60 = .ok (.getfield 27, 3) := by decide +kernel
theorem dX1_split_63 : decode cX1_split 63 = .ok (.iload_n 2, 1) := by decide +kernel
theorem dX1_split_64 : decode cX1_split 64 = .ok (.iconst 0, 1) := by decide +kernel
theorem dX1_split_65 : decode cX1_split 65 = .ok (.invokevirtual 55, 3) := by decide +kernel
theorem dX1_split_68 : decode cX1_split 68 = .ok (.aload_n 0, 1) := by decide +kernel
theorem dX1_split_69 : decode cX1_split 69 = .ok (.getfield 24, 3) := by decide +kernel
theorem dX1_split_72 : decode cX1_split 72 = .ok (.iload_n 2, 1) := by decide +kernel
theorem dX1_split_73 : decode cX1_split 73 = .ok (.iconst 0, 1) := by decide +kernel
theorem dX1_split_74 : decode cX1_split 74 = .ok (.invokevirtual 55, 3) := by decide +kernel
theorem dX1_split_77 : decode cX1_split 77 = .ok (.aload_n 0, 1) := by decide +kernel
theorem dX1_split_78 : decode cX1_split 78 = .ok (.getfield 24, 3) := by decide +kernel
theorem dX1_split_81 : decode cX1_split 81 = .ok (.invokevirtual 46, 3) := by decide +kernel
theorem dX1_split_84 : decode cX1_split 84 = .ok (.bipush 23, 2) := by decide +kernel
theorem dX1_split_86 : decode cX1_split 86 = .ok (.invokestatic 59, 3) := by decide +kernel
theorem dX1_split_89 : decode cX1_split 89 = .ok (.iload_n 1, 1) := by decide +kernel
theorem dX1_split_90 : decode cX1_split 90 = .ok (.isub, 1) := by decide +kernel
theorem dX1_split_91 : decode cX1_split 91 = .ok (.istore_n 3, 1) := by decide +kernel
theorem dX1_split_92 : decode cX1_split 92 = .ok (.iload_n 3, 1) := by decide +kernel
theorem dX1_split_93 : decode cX1_split 93 = .ok (.ifCond .lt 24, 3) := by decide +kernel
theorem dX1_split_96 : decode cX1_split 96 = .ok (.aload_n 0, 1) := by decide +kernel
theorem dX1_split_97 : decode cX1_split 97 = .ok (.getfield 21, 3) := by decide +kernel
theorem dX1_split_100 : decode cX1_split 100 = .ok (.getfield 51, 3) := by decide +kernel
theorem dX1_split_103 : decode cX1_split 103 = .ok (.iload_n 3, 1) := by decide +kernel
theorem dX1_split_104 : decode cX1_split 104 = .ok (.aload_n 0, 1) := by decide +kernel
theorem dX1_split_105 : decode cX1_split 105 = .ok (.iload_n 3, 1) := by decide +kernel
theorem dX1_split_106 : decode cX1_split 106 = .ok (.iload_n 1, 1) := by decide +kernel
theorem dX1_split_107 : decode cX1_split 107 = .ok (.invokevirtual 65, 3) := by decide +kernel
theorem dX1_split_110 : decode cX1_split 110 = .ok (.iastore, 1) := by decide +kernel
theorem dX1_split_111 : decode cX1_split 111 = .ok (.iinc 3 (-1), 3) := by decide +kernel
theorem dX1_split_114 : decode cX1_split 114 = .ok (.goto (-22), 3) := by decide +kernel
theorem dX1_split_117 : decode cX1_split 117 = .ok (.aload_n 0, 1) := by decide +kernel
theorem dX1_split_118 : decode cX1_split 118 = .ok (.getfield 24, 3) := by decide +kernel
theorem dX1_split_121 : decode cX1_split 121 = .ok (.iload_n 2, 1) := by decide +kernel
theorem dX1_split_122 : decode cX1_split 122 = .ok (.invokevirtual 68, 3) := by decide +kernel
theorem dX1_split_125 : decode cX1_split 125 = .ok (.pop, 1) := by decide +kernel
theorem dX1_split_126 : decode cX1_split 126 = .ok (.return_, 1) := by decide +kernel
theorem dX1_nextLimb_0 : decode cX1_nextLimb 0 = .ok (.aload_n 0, 1) := by decide +kernel
theorem dX1_nextLimb_1 : decode cX1_nextLimb 1 = .ok (.getfield 24, 3) := by decide +kernel
theorem dX1_nextLimb_4 : decode cX1_nextLimb 4 = .ok (.iload_n 1, 1) := by decide +kernel
theorem dX1_nextLimb_5 : decode cX1_nextLimb 5 = .ok (.iload_n 2, 1) := by decide +kernel
theorem dX1_nextLimb_6 : decode cX1_nextLimb 6 = .ok (.iadd, 1) := by decide +kernel
theorem dX1_nextLimb_7 : decode cX1_nextLimb 7 = .ok (.invokevirtual 72, 3) := by decide +kernel
theorem dX1_nextLimb_10 : decode cX1_nextLimb 10 = .ok (.i2l, 1) := by decide +kernel
theorem dX1_nextLimb_11 : decode cX1_nextLimb 11 = .ok (.bipush 32, 2) := by decide +kernel
theorem dX1_nextLimb_13 : decode cX1_nextLimb 13 = .ok (.lshl, 1) := by decide +kernel
theorem dX1_nextLimb_14 : decode cX1_nextLimb 14 = .ok (.aload_n 0, 1) := by decide +kernel
theorem dX1_nextLimb_15 : decode cX1_nextLimb 15 = .ok (.getfield 24, 3) := by decide +kernel
theorem dX1_nextLimb_18 : decode cX1_nextLimb 18 = .ok (.iload_n 1, 1) := by decide +kernel
theorem dX1_nextLimb_19 : decode cX1_nextLimb 19 = .ok (.iload_n 2, 1) := by decide +kernel
theorem dX1_nextLimb_20 : decode cX1_nextLimb 20 = .ok (.iadd, 1) := by decide +kernel
theorem dX1_nextLimb_21 : decode cX1_nextLimb 21 = .ok (.iconst 1, 1) := by decide +kernel
theorem dX1_nextLimb_22 : decode cX1_nextLimb 22 = .ok (.isub, 1) := by decide +kernel
theorem dX1_nextLimb_23 : decode cX1_nextLimb 23 = .ok (.invokevirtual 72, 3) := by decide +kernel
theorem dX1_nextLimb_26 : decode cX1_nextLimb 26 = .ok (.i2l, 1) := by decide +kernel
theorem dX1_nextLimb_27 : decode cX1_nextLimb 27 = .ok (.bipush 16, 2) := by decide +kernel
theorem dX1_nextLimb_29 : decode cX1_nextLimb 29 = .ok (.lshl, 1) := by decide +kernel
theorem dX1_nextLimb_30 : decode cX1_nextLimb 30 = .ok (.lor, 1) := by decide +kernel
theorem dX1_nextLimb_31 : decode cX1_nextLimb 31 = .ok (.aload_n 0, 1) := by decide +kernel
theorem dX1_nextLimb_32 : decode cX1_nextLimb 32 = .ok (.getfield 24, 3) := by decide +kernel
theorem dX1_nextLimb_35 : decode cX1_nextLimb 35 = .ok (.iload_n 1, 1) := by decide +kernel
theorem dX1_nextLimb_36 : decode cX1_nextLimb 36 = .ok (.iload_n 2, 1) := by decide +kernel
theorem dX1_nextLimb_37 : decode cX1_nextLimb 37 = .ok (.iadd, 1) := by decide +kernel
theorem dX1_nextLimb_38 : decode cX1_nextLimb 38 = .ok (.iconst 2, 1) := by decide +kernel
theorem dX1_nextLimb_39 : decode cX1_nextLimb 39 = .ok (.isub, 1) := by decide +kernel
theorem dX1_nextLimb_40 : decode cX1_nextLimb 40 = .ok (.invokevirtual 72, 3) := by decide +kernel
theorem dX1_nextLimb_43 : decode cX1_nextLimb 43 = .ok (.i2l, 1) := by decide +kernel
theorem dX1_nextLimb_44 : decode cX1_nextLimb 44 = .ok (.lor, 1) := by decide +kernel
theorem dX1_nextLimb_45 : decode cX1_nextLimb 45 = .ok (.lstore_n 3, 1) := by decide +kernel
theorem dX1_nextLimb_46 : decode cX1_nextLimb 46 = .ok (.aload_n 0, 1) := by decide +kernel
theorem dX1_nextLimb_47 : decode cX1_nextLimb 47 = .ok (.getfield 27, 3) := by decide +kernel
theorem dX1_nextLimb_50 : decode cX1_nextLimb 50 = .ok (.iload_n 2, 1) := by decide +kernel
theorem dX1_nextLimb_51 : decode cX1_nextLimb 51 = .ok (.iconst 1, 1) := by decide +kernel
theorem dX1_nextLimb_52 : decode cX1_nextLimb 52 = .ok (.isub, 1) := by decide +kernel
theorem dX1_nextLimb_53 : decode cX1_nextLimb 53 = .ok (.invokevirtual 72, 3) := by decide +kernel
theorem dX1_nextLimb_56 : decode cX1_nextLimb 56 = .ok (.i2l, 1) := by decide +kernel
theorem dX1_nextLimb_57 : decode cX1_nextLimb 57 = .ok (.bipush 16, 2) := by decide +kernel
theorem dX1_nextLimb_59 : decode cX1_nextLimb 59 = .ok (.lshl, 1) := by decide +kernel
theorem dX1_nextLimb_60 : decode cX1_nextLimb 60 = .ok (.aload_n 0, 1) := by decide +kernel
theorem dX1_nextLimb_61 : decode cX1_nextLimb 61 = .ok (.getfield 27, 3) := by decide +kernel
theorem dX1_nextLimb_64 : decode cX1_nextLimb 64 = .ok (.iload_n 2, 1) := by decide +kernel
theorem dX1_nextLimb_65 : decode cX1_nextLimb 65 = .ok (.iconst 2, 1) := by decide +kernel
theorem dX1_nextLimb_66 : decode cX1_nextLimb 66 = .ok (.isub, 1) := by decide +kernel
theorem dX1_nextLimb_67 : decode cX1_nextLimb 67 = .ok (.invokevirtual 72, 3) := by decide +kernel
theorem dX1_nextLimb_70 : decode cX1_nextLimb 70 = .ok (.i2l, 1) := by decide +kernel
theorem dX1_nextLimb_71 : decode cX1_nextLimb 71 = .ok (.lor, 1) := by decide +kernel
theorem dX1_nextLimb_72 : decode cX1_nextLimb 72 = .ok (.lstore 5, 2) := by decide +kernel
theorem dX1_nextLimb_74 : decode cX1_nextLimb 74 = .ok (.lload 5, 2) := by decide +kernel
theorem dX1_nextLimb_76 : decode cX1_nextLimb 76 = .ok (.lconst 0, 1) := by decide +kernel
theorem dX1_nextLimb_77 : decode cX1_nextLimb 77 = .ok (.lcmp, 1) := by decide +kernel
theorem dX1_nextLimb_78 : decode cX1_nextLimb 78 = .ok (.ifCond .ne 5, 3) := by decide +kernel
theorem dX1_nextLimb_81 : decode cX1_nextLimb 81 = .ok (.iconst 0, 1) := by decide +kernel
theorem dX1_nextLimb_82 : decode cX1_nextLimb 82 = .ok (.ireturn, 1) := by decide +kernel
theorem dX1_nextLimb_83 : decode cX1_nextLimb 83 = .ok (.lload_n 3, 1) := by decide +kernel
theorem dX1_nextLimb_84 : decode cX1_nextLimb 84 = .ok (.lload 5, 2) := by decide +kernel
theorem dX1_nextLimb_86 : decode cX1_nextLimb 86 = .ok (.ldiv, 1) := by decide +kernel
theorem dX1_nextLimb_87 : decode cX1_nextLimb 87 = .ok (.ldc2_w 75, 3) := by decide +kernel
theorem dX1_nextLimb_90 : decode cX1_nextLimb 90 = .ok (.invokestatic 77, 3) := by decide +kernel
theorem dX1_nextLimb_93 : decode cX1_nextLimb 93 = .ok (.l2i, 1) := by decide +kernel
theorem dX1_nextLimb_94 : decode cX1_nextLimb 94 = .ok (.istore 7, 2) := by decide +kernel
theorem dX1_nextLimb_96 : decode cX1_nextLimb 96 = .ok (.aload_n 0, 1) := by decide +kernel
theorem dX1_nextLimb_97 : decode cX1_nextLimb 97 = .ok (.iload 7, 2) := by decide +kernel
theorem dX1_nextLimb_99 : decode cX1_nextLimb 99 = .ok (.iload_n 1, 1) := by decide +kernel
theorem dX1_nextLimb_100 : decode cX1_nextLimb 100 = .ok (.iload_n 2, 1) := by decide +kernel
theorem dX1_nextLimb_101 : decode cX1_nextLimb 101 = .ok (.invokevirtual 80, 3) := by decide +kernel
theorem dX1_nextLimb_104 : decode cX1_nextLimb 104 = .ok (.ifCond .ge 14, 3) := by decide +kernel
theorem dX1_nextLimb_107 : decode cX1_nextLimb 107 = .ok (.iinc 7 (-1), 3) := by decide +kernel
theorem dX1_nextLimb_110 : decode cX1_nextLimb 110 = .ok (.aload_n 0, 1) := by decide +kernel
theorem dX1_nextLimb_111 : decode cX1_nextLimb 111 = .ok (.iconst (-1), 1) := by decide +kernel
theorem dX1_nextLimb_112 : decode cX1_nextLimb 112 = .ok (.iload_n 1, 1) := by decide +kernel
theorem dX1_nextLimb_113 : decode cX1_nextLimb 113 = .ok (.iload_n 2, 1) := by decide +kernel
theorem dX1_nextLimb_114 : decode cX1_nextLimb 114 = .ok (.invokevirtual 80, 3) := by decide +kernel
theorem dX1_nextLimb_117 : decode cX1_nextLimb 117 = .ok (.pop, 1) := by decide +kernel
theorem dX1_nextLimb_118 : decode cX1_nextLimb 118 = .ok (.iload 7, 2) := by decide +kernel
theorem dX1_nextLimb_120 : decode cX1_nextLimb 120 = .ok (.ireturn, 1) := by decide +kernel
theorem dX1_takeFromRest_0 : decode cX1_takeFromRest 0 = .ok (.lconst 0, 1) := by decide +kernel
theorem dX1_takeFromRest_1 : decode cX1_takeFromRest 1 = .ok (.lstore 4, 2) := by decide +kernel
theorem dX1_takeFromRest_3 : decode cX1_takeFromRest 3 = .ok (.iconst 0, 1) := by decide +kernel
theorem dX1_takeFromRest_4 : decode cX1_takeFromRest 4 = .ok (.istore 6, 2) := by decide +kernel
theorem dX1_takeFromRest_6 : decode cX1_takeFromRest 6 = .ok (.iload 6, 2) := by decide +kernel
theorem dX1_takeFromRest_8 : decode cX1_takeFromRest 8 = .ok (.iload_n 3, 1) := by decide +kernel
theorem dX1_takeFromRest_9 : decode cX1_takeFromRest 9 = .ok (.if_icmp .ge 76, 3) := by decide +kernel
theorem dX1_takeFromRest_12 : decode cX1_takeFromRest 12 = .ok (.iload 6, 2) := by decide +kernel
theorem dX1_takeFromRest_14 : decode cX1_takeFromRest 14 = .ok (.iload_n 2, 1) := by decide +kernel
theorem dX1_takeFromRest_15 : decode cX1_takeFromRest 15 = .ok (.iadd, 1) := by decide +kernel
theorem dX1_takeFromRest_16 : decode cX1_takeFromRest 16 = .ok (.bipush 24, 2) := by decide +kernel
theorem dX1_takeFromRest_18 : decode cX1_takeFromRest 18 = .ok (.if_icmp .ge 67, 3) := by decide +kernel
theorem dX1_takeFromRest_21 : decode cX1_takeFromRest 21 = .ok (.aload_n 0, 1) := by decide +kernel
theorem dX1_takeFromRest_22 : decode cX1_takeFromRest 22 = .ok (.getfield 24, 3) := by decide +kernel
theorem dX1_takeFromRest_25 : decode cX1_takeFromRest 25 = .ok (.getfield 51, 3) := by decide +kernel
theorem dX1_takeFromRest_28 : decode cX1_takeFromRest 28 = .ok (.iload 6, 2) := by decide +kernel
theorem dX1_takeFromRest_30 : decode cX1_takeFromRest 30 = .ok (.iload_n 2, 1) := by decide +kernel
theorem dX1_takeFromRest_31 : decode cX1_takeFromRest 31 = .ok (.iadd, 1) := by decide +kernel
theorem dX1_takeFromRest_32 : decode cX1_takeFromRest 32 = .ok (.iaload, 1) := by decide +kernel
theorem dX1_takeFromRest_33 : decode cX1_takeFromRest 33 = .ok (.i2l, 1) := by decide +kernel
theorem dX1_takeFromRest_34 : decode cX1_takeFromRest 34 = .ok (.iload_n 1, 1) := by decide +kernel
theorem dX1_takeFromRest_35 : decode cX1_takeFromRest 35 = .ok (.i2l, 1) := by decide +kernel
theorem dX1_takeFromRest_36 : decode cX1_takeFromRest 36 = .ok (.aload_n 0, 1) := by decide +kernel
theorem dX1_takeFromRest_37 : decode cX1_takeFromRest 37 = .ok (.getfield 27, 3) := by decide +kernel
theorem dX1_takeFromRest_40 : decode cX1_takeFromRest 40 = .ok (.getfield 51, 3) := by decide +kernel
theorem dX1_takeFromRest_43 : decode cX1_takeFromRest 43 = .ok (.iload 6, 2) := by decide +kernel
theorem dX1_takeFromRest_45 : decode cX1_takeFromRest 45 = .ok (.iaload, 1) := by decide +kernel
theorem dX1_takeFromRest_46 : decode cX1_takeFromRest 46 = .ok (.i2l, 1) := by decide +kernel
theorem dX1_takeFromRest_47 : decode cX1_takeFromRest 47 = .ok (.lmul, 1) := by decide +kernel
theorem dX1_takeFromRest_48 : decode cX1_takeFromRest 48 = .ok (.lsub, 1) := by decide +kernel
theorem dX1_takeFromRest_49 : decode cX1_takeFromRest 49 = .ok (.lload 4, 2) := by decide +kernel
theorem dX1_takeFromRest_51 : decode cX1_takeFromRest 51 = .ok (.ladd, 1) := by decide +kernel
theorem dX1_takeFromRest_52 : decode cX1_takeFromRest 52 = .ok (.lstore 7, 2) := by decide +kernel
theorem dX1_takeFromRest_54 : decode cX1_takeFromRest 54 = .ok (.aload_n 0, 1) := by decide +kernel
theorem dX1_takeFromRest_55 : decode cX1_takeFromRest 55 = .ok (.getfield 24, 3) := by decide +kernel
theorem dX1_takeFromRest_58 : decode cX1_takeFromRest 58 = .ok (.getfield 51, 3) := by decide +kernel
theorem dX1_takeFromRest_61 : decode cX1_takeFromRest 61 = .ok (.iload 6, 2) := by decide +kernel
theorem dX1_takeFromRest_63 : decode cX1_takeFromRest 63 = .ok (.iload_n 2, 1) := by decide +kernel
theorem dX1_takeFromRest_64 : decode cX1_takeFromRest 64 = .ok (.iadd, 1) := by decide +kernel
theorem dX1_takeFromRest_65 : decode cX1_takeFromRest 65 = .ok (.lload 7, 2) := by decide +kernel
theorem dX1_takeFromRest_67 : decode cX1_takeFromRest 67 = .ok (.l2i, 1) := by decide +kernel
theorem dX1_takeFromRest_68 : decode cX1_takeFromRest 68 = .ok (.ldc 84, 2) := by decide +kernel
theorem dX1_takeFromRest_70 : decode cX1_takeFromRest 70 = .ok (.iand, 1) := by decide +kernel
theorem dX1_takeFromRest_71 : decode cX1_takeFromRest 71 = .ok (.iastore, 1) := by decide +kernel
theorem dX1_takeFromRest_72 : decode cX1_takeFromRest 72 = .ok (.lload 7, 2) := by decide +kernel
theorem dX1_takeFromRest_74 : decode cX1_takeFromRest 74 = .ok (.bipush 16, 2) := by decide +kernel
theorem dX1_takeFromRest_76 : decode cX1_takeFromRest 76 = .ok (.lshr, 1) := by decide +kernel
theorem dX1_takeFromRest_77 : decode cX1_takeFromRest 77 = .ok (.lstore 4, 2) := by decide +kernel
theorem dX1_takeFromRest_79 : decode cX1_takeFromRest 79 = .ok (.iinc 6 1, 3) := by decide +kernel
theorem dX1_takeFromRest_82 : decode cX1_takeFromRest 82 = .ok (.goto (-76), 3) := by decide +kernel
theorem dX1_takeFromRest_85 : decode cX1_takeFromRest 85 = .ok (.iload_n 2, 1) := by decide +kernel
theorem dX1_takeFromRest_86 : decode cX1_takeFromRest 86 = .ok (.iload_n 3, 1) := by decide +kernel
theorem dX1_takeFromRest_87 : decode cX1_takeFromRest 87 = .ok (.iadd, 1) := by decide +kernel
theorem dX1_takeFromRest_88 : decode cX1_takeFromRest 88 = .ok (.bipush 24, 2) := by decide +kernel
theorem dX1_takeFromRest_90 : decode cX1_takeFromRest 90 = .ok (.if_icmp .lt 5, 3) := by decide +kernel
theorem dX1_takeFromRest_93 : decode cX1_takeFromRest 93 = .ok (.iconst 0, 1) := by decide +kernel
theorem dX1_takeFromRest_94 : decode cX1_takeFromRest 94 = .ok (.ireturn, 1) := by decide +kernel
theorem dX1_takeFromRest_95 : decode cX1_takeFromRest 95 = .ok (.aload_n 0, 1) := by decide +kernel
theorem dX1_takeFromRest_96 : decode cX1_takeFromRest 96 = .ok (.getfield 24, 3) := by decide +kernel
theorem dX1_takeFromRest_99 : decode cX1_takeFromRest 99 = .ok (.getfield 51, 3) := by decide +kernel
theorem dX1_takeFromRest_102 : decode cX1_takeFromRest 102 = .ok (.iload_n 2, 1) := by decide +kernel
theorem dX1_takeFromRest_103 : decode cX1_takeFromRest 103 = .ok (.iload_n 3, 1) := by decide +kernel
theorem dX1_takeFromRest_104 : decode cX1_takeFromRest 104 = .ok (.iadd, 1) := by decide +kernel
theorem dX1_takeFromRest_105 : decode cX1_takeFromRest 105 = .ok (.iaload, 1) := by decide +kernel
theorem dX1_takeFromRest_106 : decode cX1_takeFromRest 106 = .ok (.i2l, 1) := by decide +kernel
theorem dX1_takeFromRest_107 : decode cX1_takeFromRest 107 = .ok (.lload 4, 2) := by decide +kernel
theorem dX1_takeFromRest_109 : decode cX1_takeFromRest 109 = .ok (.ladd, 1) := by decide +kernel
theorem dX1_takeFromRest_110 : decode cX1_takeFromRest 110 = .ok (.lstore 6, 2) := by decide +kernel
theorem dX1_takeFromRest_112 : decode cX1_takeFromRest 112 = .ok (.aload_n 0, 1) := by decide +kernel
theorem dX1_takeFromRest_113 : decode cX1_takeFromRest 113 = .ok (.getfield 24, 3) := by decide +kernel
theorem dX1_takeFromRest_116 : decode cX1_takeFromRest 116 = .ok (.getfield 51, 3) := by decide +kernel
theorem dX1_takeFromRest_119 : decode cX1_takeFromRest 119 = .ok (.iload_n 2, 1) := by decide +kernel
theorem dX1_takeFromRest_120 : decode cX1_takeFromRest 120 = .ok (.iload_n 3, 1) := by decide +kernel
theorem dX1_takeFromRest_121 : decode cX1_takeFromRest 121 = .ok (.iadd, 1) := by decide +kernel
theorem dX1_takeFromRest_122 : decode cX1_takeFromRest 122 = .ok (.lload 6, 2) := by decide +kernel
theorem dX1_takeFromRest_124 : decode cX1_takeFromRest 124 = .ok (.l2i, 1) := by decide +kernel
theorem dX1_takeFromRest_125 : decode cX1_takeFromRest 125 = .ok (.ldc 84, 2) := by decide +kernel
theorem dX1_takeFromRest_127 : decode cX1_takeFromRest 127 = .ok (.iand, 1) := by decide +kernel
theorem dX1_takeFromRest_128 : decode cX1_takeFromRest 128 = .ok (.iastore, 1) := by decide +kernel
theorem dX1_takeFromRest_129 : decode cX1_takeFromRest 129 = .ok (.lload 6, 2) := by decide +kernel
theorem dX1_takeFromRest_131 : decode cX1_takeFromRest 131 = .ok (.lconst 0, 1) := by decide +kernel
theorem dX1_takeFromRest_132 : decode cX1_takeFromRest 132 = .ok (.lcmp, 1) := by decide +kernel
theorem dX1_takeFromRest_133 : decode cX1_takeFromRest 133 = .ok (.ifCond .ge 7, 3) := by decide +kernel
theorem dX1_takeFromRest_136 : decode cX1_takeFromRest 136 = .ok (.iconst (-1), 1) := by decide +kernel
theorem dX1_takeFromRest_137 : decode cX1_takeFromRest 137 = .ok (.goto 4, 3) := by decide +kernel
theorem dX1_takeFromRest_140 : decode cX1_takeFromRest 140 = .ok (.iconst 0, 1) := by decide +kernel
theorem dX1_takeFromRest_141 : decode cX1_takeFromRest 141 = .ok (.ireturn, 1) := by decide +kernel
theorem dX1_settle_0 : decode cX1_settle 0 = .ok (.aload_n 0, 1) := by decide +kernel
theorem dX1_settle_1 : decode cX1_settle 1 = .ok (.iload_n 1, 1) := by decide +kernel
theorem dX1_settle_2 : decode cX1_settle 2 = .ok (.invokevirtual 85, 3) := by decide +kernel
theorem dX1_settle_5 : decode cX1_settle 5 = .ok (.ifCond .eq 10, 3) := by decide +kernel
theorem dX1_settle_8 : decode cX1_settle 8 = .ok (.aload_n 0, 1) := by decide +kernel
theorem dX1_settle_9 : decode cX1_settle 9 = .ok (.getfield 21, 3) := by decide +kernel
theorem dX1_settle_12 : decode cX1_settle 12 = .ok (.invokevirtual 89, 3) := by decide +kernel
theorem dX1_settle_15 : decode cX1_settle 15 = .ok (.return_, 1) := by decide +kernel
theorem dX1_goesUp_0 : decode cX1_goesUp 0 = .ok (.iload_n 1, 1) := by decide +kernel
theorem dX1_goesUp_1 : decode cX1_goesUp 1 = .ok (.ifCond .eq 13, 3) := by decide +kernel
theorem dX1_goesUp_4 : decode cX1_goesUp 4 = .ok (.aload_n 0, 1) := by decide +kernel
theorem dX1_goesUp_5 : decode cX1_goesUp 5 = .ok (.getfield 24, 3) := by decide +kernel
theorem dX1_goesUp_8 : decode cX1_goesUp 8 = .ok (.invokevirtual 92, 3) := by decide +kernel
theorem dX1_goesUp_11 : decode cX1_goesUp 11 = .ok (.ifCond .eq 5, 3) := by decide +kernel
theorem dX1_goesUp_14 : decode cX1_goesUp 14 = .ok (.iconst 0, 1) := by decide +kernel
theorem dX1_goesUp_15 : decode cX1_goesUp 15 = .ok (.ireturn, 1) := by decide +kernel
theorem dX1_goesUp_16 : decode cX1_goesUp 16 = .ok (.iload_n 1, 1) := by decide +kernel
theorem dX1_goesUp_17 : decode cX1_goesUp 17 = .ok (.iconst 1, 1) := by decide +kernel
theorem dX1_goesUp_18 : decode cX1_goesUp 18 = .ok (.if_icmp .ne 5, 3) := by decide +kernel
theorem dX1_goesUp_21 : decode cX1_goesUp 21 = .ok (.iconst 1, 1) := by decide +kernel
theorem dX1_goesUp_22 : decode cX1_goesUp 22 = .ok (.ireturn, 1) := by decide +kernel
theorem dX1_goesUp_23 : decode cX1_goesUp 23 = .ok (.aload_n 0, 1) := by decide +kernel
theorem dX1_goesUp_24 : decode cX1_goesUp 24 = .ok (.getfield 30, 3) := by decide +kernel
theorem dX1_goesUp_27 : decode cX1_goesUp 27 = .ok (.aload_n 0, 1) := by decide +kernel
theorem dX1_goesUp_28 : decode cX1_goesUp 28 = .ok (.getfield 24, 3) := by decide +kernel
theorem dX1_goesUp_31 : decode cX1_goesUp 31 = .ok (.invokevirtual 42, 3) := by decide +kernel
theorem dX1_goesUp_34 : decode cX1_goesUp 34 = .ok (.aload_n 0, 1) := by decide +kernel
theorem dX1_goesUp_35 : decode cX1_goesUp 35 = .ok (.getfield 30, 3) := by decide +kernel
theorem dX1_goesUp_38 : decode cX1_goesUp 38 = .ok (.aload_n 0, 1) := by decide +kernel
theorem dX1_goesUp_39 : decode cX1_goesUp 39 = .ok (.getfield 24, 3) := by decide +kernel
theorem dX1_goesUp_42 : decode cX1_goesUp 42 = .ok (.invokevirtual 96, 3) := by decide +kernel
theorem dX1_goesUp_45 : decode cX1_goesUp 45 = .ok (.aload_n 0, 1) := by decide +kernel
theorem dX1_goesUp_46 : decode cX1_goesUp 46 = .ok (.getfield 30, 3) := by decide +kernel
theorem dX1_goesUp_49 : decode cX1_goesUp 49 = .ok (.aload_n 0, 1) := by decide +kernel
theorem dX1_goesUp_50 : decode cX1_goesUp 50 = .ok (.getfield 18, 3) := by decide +kernel
theorem dX1_goesUp_53 : decode cX1_goesUp 53 = .ok (.invokevirtual 99, 3) := by decide +kernel
theorem dX1_goesUp_56 : decode cX1_goesUp 56 = .ok (.istore_n 2, 1) := by decide +kernel
theorem dX1_goesUp_57 : decode cX1_goesUp 57 = .ok (.iload_n 2, 1) := by decide +kernel
theorem dX1_goesUp_58 : decode cX1_goesUp 58 = .ok (.ifCond .eq 13, 3) := by decide +kernel
theorem dX1_goesUp_61 : decode cX1_goesUp 61 = .ok (.iload_n 2, 1) := by decide +kernel
theorem dX1_goesUp_62 : decode cX1_goesUp 62 = .ok (.ifCond .le 7, 3) := by decide +kernel
theorem dX1_goesUp_65 : decode cX1_goesUp 65 = .ok (.iconst 1, 1) := by decide +kernel
theorem dX1_goesUp_66 : decode cX1_goesUp 66 = .ok (.goto 4, 3) := by decide +kernel
theorem dX1_goesUp_69 : decode cX1_goesUp 69 = .ok (.iconst 0, 1) := by decide +kernel
theorem dX1_goesUp_70 : decode cX1_goesUp 70 = .ok (.ireturn, 1) := by decide +kernel
theorem dX1_goesUp_71 : decode cX1_goesUp 71 = .ok (.iload_n 1, 1) := by decide +kernel
theorem dX1_goesUp_72 : decode cX1_goesUp 72 = .ok (.iconst 2, 1) := by decide +kernel
theorem dX1_goesUp_73 : decode cX1_goesUp 73 = .ok (.if_icmp .eq 18, 3) := by decide +kernel
theorem dX1_goesUp_76 : decode cX1_goesUp 76 = .ok (.iload_n 1, 1) := by decide +kernel
theorem dX1_goesUp_77 : decode cX1_goesUp 77 = .ok (.iconst 4, 1) := by decide +kernel
theorem dX1_goesUp_78 : decode cX1_goesUp 78 = .ok (.if_icmp .ne 17, 3) := by decide +kernel
theorem dX1_goesUp_81 : decode cX1_goesUp 81 = .ok (.aload_n 0, 1) := by decide +kernel
theorem dX1_goesUp_82 : decode cX1_goesUp 82 = .ok (.getfield 21, 3) := by decide +kernel
theorem dX1_goesUp_85 : decode cX1_goesUp 85 = .ok (.invokevirtual 103, 3) := by decide +kernel
theorem dX1_goesUp_88 : decode cX1_goesUp 88 = .ok (.ifCond .eq 7, 3) := by decide +kernel
theorem dX1_goesUp_91 : decode cX1_goesUp 91 = .ok (.iconst 1, 1) := by decide +kernel
theorem dX1_goesUp_92 : decode cX1_goesUp 92 = .ok (.goto 4, 3) := by decide +kernel
theorem dX1_goesUp_95 : decode cX1_goesUp 95 = .ok (.iconst 0, 1) := by decide +kernel
theorem dX1_goesUp_96 : decode cX1_goesUp 96 = .ok (.ireturn, 1) := by decide +kernel
theorem dX1_proportion_0 : decode cX1_proportion 0 = .ok (.aload_n 0, 1) := by decide +kernel
theorem dX1_proportion_1 : decode cX1_proportion 1 = .ok (.getfield 12, 3) := by decide +kernel
theorem dX1_proportion_4 : decode cX1_proportion 4 = .ok (.aload_n 1, 1) := by decide +kernel
theorem dX1_proportion_5 : decode cX1_proportion 5 = .ok (.aload_n 2, 1) := by decide +kernel
theorem dX1_proportion_6 : decode cX1_proportion 6 = .ok (.invokevirtual 106, 3) := by decide +kernel
theorem dX1_proportion_9 : decode cX1_proportion 9 = .ok (.aload_n 0, 1) := by decide +kernel
theorem dX1_proportion_10 : decode cX1_proportion 10 = .ok (.getfield 18, 3) := by decide +kernel
theorem dX1_proportion_13 : decode cX1_proportion 13 = .ok (.aload_n 3, 1) := by decide +kernel
theorem dX1_proportion_14 : decode cX1_proportion 14 = .ok (.invokevirtual 42, 3) := by decide +kernel
theorem dX1_proportion_17 : decode cX1_proportion 17 = .ok (.aload_n 0, 1) := by decide +kernel
theorem dX1_proportion_18 : decode cX1_proportion 18 = .ok (.invokevirtual 110, 3) := by decide +kernel
theorem dX1_proportion_21 : decode cX1_proportion 21 = .ok (.return_, 1) := by decide +kernel
theorem dX1_rootOfProduct_0 : decode cX1_rootOfProduct 0 = .ok (.aload_n 0, 1) := by decide +kernel
theorem dX1_rootOfProduct_1 : decode cX1_rootOfProduct 1 = .ok (.getfield 12, 3) := by decide +kernel
theorem dX1_rootOfProduct_4 : decode cX1_rootOfProduct 4 = .ok (.aload_n 1, 1) := by decide +kernel
theorem dX1_rootOfProduct_5 : decode cX1_rootOfProduct 5 = .ok (.aload_n 2, 1) := by decide +kernel
theorem dX1_rootOfProduct_6 : decode cX1_rootOfProduct 6 = .ok (.invokevirtual 106, 3) := by decide +kernel
theorem dX1_rootOfProduct_9 : decode cX1_rootOfProduct 9 = .ok (.aload_n 0, 1) := by decide +kernel
theorem dX1_rootOfProduct_10 : decode cX1_rootOfProduct 10 = .ok (.getfield 33, 3) := by decide +kernel
theorem dX1_rootOfProduct_13 : decode cX1_rootOfProduct 13 = .ok (.lconst 1, 1) := by decide +kernel
theorem dX1_rootOfProduct_14 : decode cX1_rootOfProduct 14 = .ok (.invokevirtual 113, 3) := by decide +kernel
theorem dX1_rootOfProduct_17 : decode cX1_rootOfProduct 17 = .ok (.aload_n 0, 1) := by decide +kernel
theorem dX1_rootOfProduct_18 : decode cX1_rootOfProduct 18 = .ok (.getfield 12, 3) := by decide +kernel
theorem dX1_rootOfProduct_21 : decode cX1_rootOfProduct 21 = .ok (.invokevirtual 46, 3) := by decide +kernel
theorem dX1_rootOfProduct_24 : decode cX1_rootOfProduct 24 = .ok (.istore_n 3, 1) := by decide +kernel
theorem dX1_rootOfProduct_25 : decode cX1_rootOfProduct 25 = .ok (.iload_n 3, 1) := by decide +kernel
theorem dX1_rootOfProduct_26 : decode cX1_rootOfProduct 26 = .ok (.ifCond .le 20, 3) := by decide +kernel
theorem dX1_rootOfProduct_29 : decode cX1_rootOfProduct 29 = .ok (.aload_n 0, 1) := by decide +kernel
theorem dX1_rootOfProduct_30 : decode cX1_rootOfProduct 30 = .ok (.getfield 33, 3) := by decide +kernel
theorem dX1_rootOfProduct_33 : decode cX1_rootOfProduct 33 = .ok (.sipush 256, 3) := by decide +kernel
theorem dX1_rootOfProduct_36 : decode cX1_rootOfProduct 36 = .ok (.iconst 0, 1) := by decide +kernel
theorem dX1_rootOfProduct_37 : decode cX1_rootOfProduct 37 = .ok (.invokevirtual 55, 3) := by decide +kernel
theorem dX1_rootOfProduct_40 : decode cX1_rootOfProduct 40 = .ok (.iinc 3 (-1), 3) := by decide +kernel
theorem dX1_rootOfProduct_43 : decode cX1_rootOfProduct 43 = .ok (.goto (-18), 3) := by decide +kernel
theorem dX1_rootOfProduct_46 : decode cX1_rootOfProduct 46 = .ok (.iconst 0, 1) := by decide +kernel
theorem dX1_rootOfProduct_47 : decode cX1_rootOfProduct 47 = .ok (.istore_n 3, 1) := by decide +kernel
theorem dX1_rootOfProduct_48 : decode cX1_rootOfProduct 48 = .ok (.iload_n 3, 1) := by decide +kernel
theorem dX1_rootOfProduct_49 : decode cX1_rootOfProduct 49 = .ok (.bipush 64, 2) := by decide +kernel
theorem dX1_rootOfProduct_51 : decode cX1_rootOfProduct 51 = .ok (.if_icmp .ge 70, 3) := by decide +kernel
theorem dX1_rootOfProduct_54 : decode cX1_rootOfProduct 54 = .ok (.aload_n 0, 1) := by decide +kernel
theorem dX1_rootOfProduct_55 : decode cX1_rootOfProduct 55 = .ok (.getfield 18, 3) := by decide +kernel
theorem dX1_rootOfProduct_58 : decode cX1_rootOfProduct 58 = .ok (.aload_n 0, 1) := by decide +kernel
theorem dX1_rootOfProduct_59 : decode cX1_rootOfProduct 59 = .ok (.getfield 33, 3) := by decide +kernel
theorem dX1_rootOfProduct_62 : decode cX1_rootOfProduct 62 = .ok (.invokevirtual 42, 3) := by decide +kernel
theorem dX1_rootOfProduct_65 : decode cX1_rootOfProduct 65 = .ok (.aload_n 0, 1) := by decide +kernel
theorem dX1_rootOfProduct_66 : decode cX1_rootOfProduct 66 = .ok (.invokevirtual 110, 3) := by decide +kernel
theorem dX1_rootOfProduct_69 : decode cX1_rootOfProduct 69 = .ok (.aload_n 0, 1) := by decide +kernel
theorem dX1_rootOfProduct_70 : decode cX1_rootOfProduct 70 = .ok (.getfield 21, 3) := by decide +kernel
theorem dX1_rootOfProduct_73 : decode cX1_rootOfProduct 73 = .ok (.aload_n 0, 1) := by decide +kernel
theorem dX1_rootOfProduct_74 : decode cX1_rootOfProduct 74 = .ok (.getfield 33, 3) := by decide +kernel
theorem dX1_rootOfProduct_77 : decode cX1_rootOfProduct 77 = .ok (.invokevirtual 96, 3) := by decide +kernel
theorem dX1_rootOfProduct_80 : decode cX1_rootOfProduct 80 = .ok (.aload_n 0, 1) := by decide +kernel
theorem dX1_rootOfProduct_81 : decode cX1_rootOfProduct 81 = .ok (.getfield 21, 3) := by decide +kernel
theorem dX1_rootOfProduct_84 : decode cX1_rootOfProduct 84 = .ok (.iconst 2, 1) := by decide +kernel
theorem dX1_rootOfProduct_85 : decode cX1_rootOfProduct 85 = .ok (.invokevirtual 68, 3) := by decide +kernel
theorem dX1_rootOfProduct_88 : decode cX1_rootOfProduct 88 = .ok (.pop, 1) := by decide +kernel
theorem dX1_rootOfProduct_89 : decode cX1_rootOfProduct 89 = .ok (.aload_n 0, 1) := by decide +kernel
theorem dX1_rootOfProduct_90 : decode cX1_rootOfProduct 90 = .ok (.getfield 21, 3) := by decide +kernel
theorem dX1_rootOfProduct_93 : decode cX1_rootOfProduct 93 = .ok (.aload_n 0, 1) := by decide +kernel
theorem dX1_rootOfProduct_94 : decode cX1_rootOfProduct 94 = .ok (.getfield 33, 3) := by decide +kernel
theorem dX1_rootOfProduct_97 : decode cX1_rootOfProduct 97 = .ok (.invokevirtual 99, 3) := by decide +kernel
theorem dX1_rootOfProduct_100 : decode cX1_rootOfProduct 100 = .ok (.ifCond .lt 4, 3) := by decide +kernel
theorem dX1_rootOfProduct_103 : decode cX1_rootOfProduct 103 = .ok (.return_, 1) := by decide +kernel
theorem dX1_rootOfProduct_104 : decode cX1_rootOfProduct 104 = .ok (.aload_n 0, 1) := by decide +kernel
theorem dX1_rootOfProduct_105 : decode cX1_rootOfProduct 105 = .ok (.getfield 33, 3) := by decide +kernel
theorem dX1_rootOfProduct_108 : decode cX1_rootOfProduct 108 = .ok (.aload_n 0, 1) := by decide +kernel
theorem dX1_rootOfProduct_109 : decode cX1_rootOfProduct 109 = .ok (.getfield 21, 3) := by decide +kernel
theorem dX1_rootOfProduct_112 : decode cX1_rootOfProduct 112 = .ok (.invokevirtual 42, 3) := by decide +kernel
theorem dX1_rootOfProduct_115 : decode cX1_rootOfProduct 115 = .ok (.iinc 3 1, 3) := by decide +kernel
theorem dX1_rootOfProduct_118 : decode cX1_rootOfProduct 118 = .ok (.goto (-70), 3) := by decide +kernel
theorem dX1_rootOfProduct_121 : decode cX1_rootOfProduct 121 = .ok (.return_, 1) := by decide +kernel
theorem dX1_bothFitPool_0 : decode cX1_bothFitPool 0 = .ok (.aload_n 0, 1) := by decide +kernel
theorem dX1_bothFitPool_1 : decode cX1_bothFitPool 1 = .ok (.getfield 30, 3) := by decide +kernel
theorem dX1_bothFitPool_4 : decode cX1_bothFitPool 4 = .ok (.aload_n 1, 1) := by decide +kernel
theorem dX1_bothFitPool_5 : decode cX1_bothFitPool 5 = .ok (.invokevirtual 42, 3) := by decide +kernel
theorem dX1_bothFitPool_8 : decode cX1_bothFitPool 8 = .ok (.aload_n 0, 1) := by decide +kernel
theorem dX1_bothFitPool_9 : decode cX1_bothFitPool 9 = .ok (.getfield 30, 3) := by decide +kernel
theorem dX1_bothFitPool_12 : decode cX1_bothFitPool 12 = .ok (.aload_n 2, 1) := by decide +kernel
theorem dX1_bothFitPool_13 : decode cX1_bothFitPool 13 = .ok (.invokevirtual 96, 3) := by decide +kernel
theorem dX1_bothFitPool_16 : decode cX1_bothFitPool 16 = .ok (.aload_n 0, 1) := by decide +kernel
theorem dX1_bothFitPool_17 : decode cX1_bothFitPool 17 = .ok (.getfield 30, 3) := by decide +kernel
theorem dX1_bothFitPool_20 : decode cX1_bothFitPool 20 = .ok (.invokevirtual 117, 3) := by decide +kernel
theorem dX1_bothFitPool_23 : decode cX1_bothFitPool 23 = .ok (.ireturn, 1) := by decide +kernel
