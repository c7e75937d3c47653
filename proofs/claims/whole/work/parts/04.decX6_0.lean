theorem dX6_init_0 : decode cX6_init 0 = .ok (.aload_n 0, 1) := by decide +kernel
theorem dX6_init_1 : decode cX6_init 1 = .ok (.invokespecial 1, 3) := by decide +kernel
theorem dX6_init_4 : decode cX6_init 4 = .ok (.aload_n 0, 1) := by decide +kernel
theorem dX6_init_5 : decode cX6_init 5 = .ok (.new 7, 3) := by decide +kernel
theorem dX6_init_8 : decode cX6_init 8 = .ok (.dup, 1) := by decide +kernel
theorem dX6_init_9 : decode cX6_init 9 = .ok (.invokespecial 9, 3) := by decide +kernel
theorem dX6_init_12 : decode cX6_init 12 = .ok (.putfield 10, 3) := by decide +kernel
theorem dX6_init_15 : decode cX6_init 15 = .ok (.aload_n 0, 1) := by decide +kernel
theorem dX6_init_16 : decode cX6_init 16 = .ok (.new 7, 3) := by decide +kernel
theorem dX6_init_19 : decode cX6_init 19 = .ok (.dup, 1) := by decide +kernel
theorem dX6_init_20 : decode cX6_init 20 = .ok (.invokespecial 9, 3) := by decide +kernel
theorem dX6_init_23 : decode cX6_init 23 = .ok (.putfield 16, 3) := by decide +kernel
theorem dX6_init_26 : decode cX6_init 26 = .ok (.aload_n 0, 1) := by decide +kernel
theorem dX6_init_27 : decode cX6_init 27 = .ok (.new 19, 3) := by decide +kernel
theorem dX6_init_30 : decode cX6_init 30 = .ok (.dup, 1) := by decide +kernel
theorem dX6_init_31 : decode cX6_init 31 = .ok (.invokespecial 21, 3) := by decide +kernel
theorem dX6_init_34 : decode cX6_init 34 = .ok (.putfield 22, 3) := by decide +kernel
theorem dX6_init_37 : decode cX6_init 37 = .ok (.aload_n 0, 1) := by decide +kernel
theorem dX6_init_38 : decode cX6_init 38 = .ok (.new 26, 3) := by decide +kernel
theorem dX6_init_41 : decode cX6_init 41 = .ok (.dup, 1) := by decide +kernel
theorem dX6_init_42 : decode cX6_init 42 = .ok (.invokespecial 28, 3) := by decide +kernel
theorem dX6_init_45 : decode cX6_init 45 = .ok (.putfield 29, 3) := by decide +kernel
theorem dX6_init_48 : decode cX6_init 48 = .ok (.aload_n 0, 1) := by decide +kernel
theorem dX6_init_49 : decode cX6_init 49 = .ok (.new 33, 3) := by decide +kernel
theorem dX6_init_52 : decode cX6_init 52 = .ok (.dup, 1) := by decide +kernel
theorem dX6_init_53 : decode cX6_init 53 = .ok (.invokespecial 35, 3) := by decide +kernel
theorem dX6_init_56 : decode cX6_init 56 = .ok (.putfield 36, 3) := by decide +kernel
theorem dX6_init_59 : decode cX6_init 59 = .ok (.aload_n 0, 1) := by decide +kernel
theorem dX6_init_60 : decode cX6_init 60 = .ok (.bipush 12, 2) := by decide +kernel
theorem dX6_init_62 : decode cX6_init 62 = .ok (.newarray .long, 2) := by decide +kernel
theorem dX6_init_64 : decode cX6_init 64 = .ok (.putfield 40, 3) := by decide +kernel
theorem dX6_init_67 : decode cX6_init 67 = .ok (.aload_n 0, 1) := by decide +kernel
theorem dX6_init_68 : decode cX6_init 68 = .ok (.bipush 12, 2) := by decide +kernel
theorem dX6_init_70 : decode cX6_init 70 = .ok (.newarray .long, 2) := by decide +kernel
theorem dX6_init_72 : decode cX6_init 72 = .ok (.putfield 44, 3) := by decide +kernel
theorem dX6_init_75 : decode cX6_init 75 = .ok (.aload_n 0, 1) := by decide +kernel
theorem dX6_init_76 : decode cX6_init 76 = .ok (.bipush 12, 2) := by decide +kernel
theorem dX6_init_78 : decode cX6_init 78 = .ok (.iconst 4, 1) := by decide +kernel
theorem dX6_init_79 : decode cX6_init 79 = .ok (.multianewarray 47 2, 4) := by decide +kernel
theorem dX6_init_83 : decode cX6_init 83 = .ok (.putfield 49, 3) := by decide +kernel
theorem dX6_init_86 : decode cX6_init 86 = .ok (.aload_n 0, 1) := by decide +kernel
theorem dX6_init_87 : decode cX6_init 87 = .ok (.iconst 0, 1) := by decide +kernel
theorem dX6_init_88 : decode cX6_init 88 = .ok (.putfield 52, 3) := by decide +kernel
theorem dX6_init_91 : decode cX6_init 91 = .ok (.aload_n 0, 1) := by decide +kernel
theorem dX6_init_92 : decode cX6_init 92 = .ok (.iconst 2, 1) := by decide +kernel
theorem dX6_init_93 : decode cX6_init 93 = .ok (.putfield 56, 3) := by decide +kernel
theorem dX6_init_96 : decode cX6_init 96 = .ok (.aload_n 0, 1) := by decide +kernel
theorem dX6_init_97 : decode cX6_init 97 = .ok (.bipush (-4), 2) := by decide +kernel
theorem dX6_init_99 : decode cX6_init 99 = .ok (.putfield 59, 3) := by decide +kernel
theorem dX6_init_102 : decode cX6_init 102 = .ok (.aload_n 0, 1) := by decide +kernel
theorem dX6_init_103 : decode cX6_init 103 = .ok (.iconst 0, 1) := by decide +kernel
theorem dX6_init_104 : decode cX6_init 104 = .ok (.putfield 62, 3) := by decide +kernel
theorem dX6_init_107 : decode cX6_init 107 = .ok (.aload_n 0, 1) := by decide +kernel
theorem dX6_init_108 : decode cX6_init 108 = .ok (.iconst 0, 1) := by decide +kernel
theorem dX6_init_109 : decode cX6_init 109 = .ok (.putfield 65, 3) := by decide +kernel
theorem dX6_init_112 : decode cX6_init 112 = .ok (.return_, 1) := by decide +kernel
theorem dX6_put_0 : decode cX6_put 0 = .ok (.iload_n 1, 1) := by decide +kernel
theorem dX6_put_1 : decode cX6_put 1 = .ok (.invokestatic 68, 3) := by decide +kernel
theorem dX6_put_4 : decode cX6_put 4 = .ok (.ifCond .eq 9, 3) := by decide +kernel
theorem dX6_put_7 : decode cX6_put 7 = .ok (.lload_n 2, 1) := by decide +kernel
theorem dX6_put_8 : decode cX6_put 8 = .ok (.lconst 0, 1) := by decide +kernel
theorem dX6_put_9 : decode cX6_put 9 = .ok (.lcmp, 1) := by decide +kernel
theorem dX6_put_10 : decode cX6_put 10 = .ok (.ifCond .ge 5, 3) := by decide +kernel
theorem dX6_put_13 : decode cX6_put 13 = .ok (.iconst (-1), 1) := by decide +kernel
theorem dX6_put_14 : decode cX6_put 14 = .ok (.ireturn, 1) := by decide +kernel
theorem dX6_put_15 : decode cX6_put 15 = .ok (.aload_n 0, 1) := by decide +kernel
theorem dX6_put_16 : decode cX6_put 16 = .ok (.getfield 10, 3) := by decide +kernel
theorem dX6_put_19 : decode cX6_put 19 = .ok (.getfield 72, 3) := by decide +kernel
theorem dX6_put_22 : decode cX6_put 22 = .ok (.iload_n 1, 1) := by decide +kernel
theorem dX6_put_23 : decode cX6_put 23 = .ok (.aaload, 1) := by decide +kernel
theorem dX6_put_24 : decode cX6_put 24 = .ok (.lload_n 2, 1) := by decide +kernel
theorem dX6_put_25 : decode cX6_put 25 = .ok (.invokevirtual 76, 3) := by decide +kernel
theorem dX6_put_28 : decode cX6_put 28 = .ok (.iconst 1, 1) := by decide +kernel
theorem dX6_put_29 : decode cX6_put 29 = .ok (.ireturn, 1) := by decide +kernel
theorem dX6_more_0 : decode cX6_more 0 = .ok (.iload_n 1, 1) := by decide +kernel
theorem dX6_more_1 : decode cX6_more 1 = .ok (.invokestatic 68, 3) := by decide +kernel
theorem dX6_more_4 : decode cX6_more 4 = .ok (.ifCond .ne 5, 3) := by decide +kernel
theorem dX6_more_7 : decode cX6_more 7 = .ok (.iconst (-1), 1) := by decide +kernel
theorem dX6_more_8 : decode cX6_more 8 = .ok (.ireturn, 1) := by decide +kernel
theorem dX6_more_9 : decode cX6_more 9 = .ok (.aload_n 0, 1) := by decide +kernel
theorem dX6_more_10 : decode cX6_more 10 = .ok (.getfield 22, 3) := by decide +kernel
theorem dX6_more_13 : decode cX6_more 13 = .ok (.getfield 82, 3) := by decide +kernel
theorem dX6_more_16 : decode cX6_more 16 = .ok (.aload_n 0, 1) := by decide +kernel
theorem dX6_more_17 : decode cX6_more 17 = .ok (.getfield 10, 3) := by decide +kernel
theorem dX6_more_20 : decode cX6_more 20 = .ok (.getfield 72, 3) := by decide +kernel
theorem dX6_more_23 : decode cX6_more 23 = .ok (.iload_n 1, 1) := by decide +kernel
theorem dX6_more_24 : decode cX6_more 24 = .ok (.aaload, 1) := by decide +kernel
theorem dX6_more_25 : decode cX6_more 25 = .ok (.invokevirtual 86, 3) := by decide +kernel
theorem dX6_more_28 : decode cX6_more 28 = .ok (.aload_n 0, 1) := by decide +kernel
theorem dX6_more_29 : decode cX6_more 29 = .ok (.getfield 22, 3) := by decide +kernel
theorem dX6_more_32 : decode cX6_more 32 = .ok (.getfield 82, 3) := by decide +kernel
theorem dX6_more_35 : decode cX6_more 35 = .ok (.ldc 90, 2) := by decide +kernel
theorem dX6_more_37 : decode cX6_more 37 = .ok (.iload_n 2, 1) := by decide +kernel
theorem dX6_more_38 : decode cX6_more 38 = .ok (.bipush 16, 2) := by decide +kernel
theorem dX6_more_40 : decode cX6_more 40 = .ok (.iushr, 1) := by decide +kernel
theorem dX6_more_41 : decode cX6_more 41 = .ok (.invokevirtual 91, 3) := by decide +kernel
theorem dX6_more_44 : decode cX6_more 44 = .ok (.aload_n 0, 1) := by decide +kernel
theorem dX6_more_45 : decode cX6_more 45 = .ok (.getfield 22, 3) := by decide +kernel
theorem dX6_more_48 : decode cX6_more 48 = .ok (.getfield 82, 3) := by decide +kernel
theorem dX6_more_51 : decode cX6_more 51 = .ok (.ldc 90, 2) := by decide +kernel
theorem dX6_more_53 : decode cX6_more 53 = .ok (.iload_n 2, 1) := by decide +kernel
theorem dX6_more_54 : decode cX6_more 54 = .ok (.ldc 95, 2) := by decide +kernel
theorem dX6_more_56 : decode cX6_more 56 = .ok (.iand, 1) := by decide +kernel
theorem dX6_more_57 : decode cX6_more 57 = .ok (.invokevirtual 91, 3) := by decide +kernel
theorem dX6_more_60 : decode cX6_more 60 = .ok (.aload_n 0, 1) := by decide +kernel
theorem dX6_more_61 : decode cX6_more 61 = .ok (.iload_n 1, 1) := by decide +kernel
theorem dX6_more_62 : decode cX6_more 62 = .ok (.aload_n 0, 1) := by decide +kernel
theorem dX6_more_63 : decode cX6_more 63 = .ok (.getfield 22, 3) := by decide +kernel
theorem dX6_more_66 : decode cX6_more 66 = .ok (.getfield 82, 3) := by decide +kernel
theorem dX6_more_69 : decode cX6_more 69 = .ok (.invokevirtual 96, 3) := by decide +kernel
theorem dX6_more_72 : decode cX6_more 72 = .ok (.ireturn, 1) := by decide +kernel
theorem dX6_limb_0 : decode cX6_limb 0 = .ok (.iload_n 1, 1) := by decide +kernel
theorem dX6_limb_1 : decode cX6_limb 1 = .ok (.invokestatic 68, 3) := by decide +kernel
theorem dX6_limb_4 : decode cX6_limb 4 = .ok (.ifCond .eq 13, 3) := by decide +kernel
theorem dX6_limb_7 : decode cX6_limb 7 = .ok (.iload_n 2, 1) := by decide +kernel
theorem dX6_limb_8 : decode cX6_limb 8 = .ok (.ifCond .lt 9, 3) := by decide +kernel
theorem dX6_limb_11 : decode cX6_limb 11 = .ok (.iload_n 2, 1) := by decide +kernel
theorem dX6_limb_12 : decode cX6_limb 12 = .ok (.bipush 7, 2) := by decide +kernel
theorem dX6_limb_14 : decode cX6_limb 14 = .ok (.if_icmp .le 7, 3) := by decide +kernel
theorem dX6_limb_17 : decode cX6_limb 17 = .ok (.ldc2_w 100, 3) := by decide +kernel
theorem dX6_limb_20 : decode cX6_limb 20 = .ok (.lreturn, 1) := by decide +kernel
theorem dX6_limb_21 : decode cX6_limb 21 = .ok (.aload_n 0, 1) := by decide +kernel
theorem dX6_limb_22 : decode cX6_limb 22 = .ok (.getfield 10, 3) := by decide +kernel
theorem dX6_limb_25 : decode cX6_limb 25 = .ok (.getfield 72, 3) := by decide +kernel
theorem dX6_limb_28 : decode cX6_limb 28 = .ok (.iload_n 1, 1) := by decide +kernel
theorem dX6_limb_29 : decode cX6_limb 29 = .ok (.aaload, 1) := by decide +kernel
theorem dX6_limb_30 : decode cX6_limb 30 = .ok (.iload_n 2, 1) := by decide +kernel
theorem dX6_limb_31 : decode cX6_limb 31 = .ok (.invokevirtual 102, 3) := by decide +kernel
theorem dX6_limb_34 : decode cX6_limb 34 = .ok (.lreturn, 1) := by decide +kernel
theorem dX6_add_0 : decode cX6_add 0 = .ok (.iload_n 1, 1) := by decide +kernel
theorem dX6_add_1 : decode cX6_add 1 = .ok (.iload_n 2, 1) := by decide +kernel
theorem dX6_add_2 : decode cX6_add 2 = .ok (.iload_n 3, 1) := by decide +kernel
theorem dX6_add_3 : decode cX6_add 3 = .ok (.invokestatic 106, 3) := by decide +kernel
theorem dX6_add_6 : decode cX6_add 6 = .ok (.ifCond .ne 5, 3) := by decide +kernel
theorem dX6_add_9 : decode cX6_add 9 = .ok (.iconst (-1), 1) := by decide +kernel
theorem dX6_add_10 : decode cX6_add 10 = .ok (.ireturn, 1) := by decide +kernel
theorem dX6_add_11 : decode cX6_add 11 = .ok (.aload_n 0, 1) := by decide +kernel
theorem dX6_add_12 : decode cX6_add 12 = .ok (.getfield 22, 3) := by decide +kernel
theorem dX6_add_15 : decode cX6_add 15 = .ok (.getfield 82, 3) := by decide +kernel
theorem dX6_add_18 : decode cX6_add 18 = .ok (.aload_n 0, 1) := by decide +kernel
theorem dX6_add_19 : decode cX6_add 19 = .ok (.getfield 10, 3) := by decide +kernel
theorem dX6_add_22 : decode cX6_add 22 = .ok (.getfield 72, 3) := by decide +kernel
theorem dX6_add_25 : decode cX6_add 25 = .ok (.iload_n 2, 1) := by decide +kernel
theorem dX6_add_26 : decode cX6_add 26 = .ok (.aaload, 1) := by decide +kernel
theorem dX6_add_27 : decode cX6_add 27 = .ok (.invokevirtual 86, 3) := by decide +kernel
theorem dX6_add_30 : decode cX6_add 30 = .ok (.aload_n 0, 1) := by decide +kernel
theorem dX6_add_31 : decode cX6_add 31 = .ok (.getfield 22, 3) := by decide +kernel
theorem dX6_add_34 : decode cX6_add 34 = .ok (.getfield 82, 3) := by decide +kernel
theorem dX6_add_37 : decode cX6_add 37 = .ok (.aload_n 0, 1) := by decide +kernel
theorem dX6_add_38 : decode cX6_add 38 = .ok (.getfield 10, 3) := by decide +kernel
theorem dX6_add_41 : decode cX6_add 41 = .ok (.getfield 72, 3) := by decide +kernel
theorem dX6_add_44 : decode cX6_add 44 = .ok (.iload_n 3, 1) := by decide +kernel
theorem dX6_add_45 : decode cX6_add 45 = .ok (.aaload, 1) := by decide +kernel
theorem dX6_add_46 : decode cX6_add 46 = .ok (.invokevirtual 110, 3) := by decide +kernel
theorem dX6_add_49 : decode cX6_add 49 = .ok (.aload_n 0, 1) := by decide +kernel
theorem dX6_add_50 : decode cX6_add 50 = .ok (.iload_n 1, 1) := by decide +kernel
theorem dX6_add_51 : decode cX6_add 51 = .ok (.aload_n 0, 1) := by decide +kernel
theorem dX6_add_52 : decode cX6_add 52 = .ok (.getfield 22, 3) := by decide +kernel
theorem dX6_add_55 : decode cX6_add 55 = .ok (.getfield 82, 3) := by decide +kernel
theorem dX6_add_58 : decode cX6_add 58 = .ok (.invokevirtual 96, 3) := by decide +kernel
theorem dX6_add_61 : decode cX6_add 61 = .ok (.ireturn, 1) := by decide +kernel
theorem dX6_take_0 : decode cX6_take 0 = .ok (.iload_n 1, 1) := by decide +kernel
theorem dX6_take_1 : decode cX6_take 1 = .ok (.iload_n 2, 1) := by decide +kernel
theorem dX6_take_2 : decode cX6_take 2 = .ok (.iload_n 3, 1) := by decide +kernel
theorem dX6_take_3 : decode cX6_take 3 = .ok (.invokestatic 106, 3) := by decide +kernel
theorem dX6_take_6 : decode cX6_take 6 = .ok (.ifCond .ne 5, 3) := by decide +kernel
theorem dX6_take_9 : decode cX6_take 9 = .ok (.iconst (-1), 1) := by decide +kernel
theorem dX6_take_10 : decode cX6_take 10 = .ok (.ireturn, 1) := by decide +kernel
theorem dX6_take_11 : decode cX6_take 11 = .ok (.aload_n 0, 1) := by decide +kernel
theorem dX6_take_12 : decode cX6_take 12 = .ok (.getfield 10, 3) := by decide +kernel
theorem dX6_take_15 : decode cX6_take 15 = .ok (.getfield 72, 3) := by decide +kernel
theorem dX6_take_18 : decode cX6_take 18 = .ok (.iload_n 2, 1) := by decide +kernel
theorem dX6_take_19 : decode cX6_take 19 = .ok (.aaload, 1) := by decide +kernel
theorem dX6_take_20 : decode cX6_take 20 = .ok (.aload_n 0, 1) := by decide +kernel
theorem dX6_take_21 : decode cX6_take 21 = .ok (.getfield 10, 3) := by decide +kernel
theorem dX6_take_24 : decode cX6_take 24 = .ok (.getfield 72, 3) := by decide +kernel
theorem dX6_take_27 : decode cX6_take 27 = .ok (.iload_n 3, 1) := by decide +kernel
theorem dX6_take_28 : decode cX6_take 28 = .ok (.aaload, 1) := by decide +kernel
theorem dX6_take_29 : decode cX6_take 29 = .ok (.invokevirtual 113, 3) := by decide +kernel
theorem dX6_take_32 : decode cX6_take 32 = .ok (.ifCond .ge 6, 3) := by decide +kernel
theorem dX6_take_35 : decode cX6_take 35 = .ok (.bipush (-3), 2) := by decide +kernel
theorem dX6_take_37 : decode cX6_take 37 = .ok (.ireturn, 1) := by decide +kernel
theorem dX6_take_38 : decode cX6_take 38 = .ok (.aload_n 0, 1) := by decide +kernel
theorem dX6_take_39 : decode cX6_take 39 = .ok (.getfield 22, 3) := by decide +kernel
theorem dX6_take_42 : decode cX6_take 42 = .ok (.getfield 82, 3) := by decide +kernel
theorem dX6_take_45 : decode cX6_take 45 = .ok (.aload_n 0, 1) := by decide +kernel
theorem dX6_take_46 : decode cX6_take 46 = .ok (.getfield 10, 3) := by decide +kernel
theorem dX6_take_49 : decode cX6_take 49 = .ok (.getfield 72, 3) := by decide +kernel
theorem dX6_take_52 : decode cX6_take 52 = .ok (.iload_n 2, 1) := by decide +kernel
theorem dX6_take_53 : decode cX6_take 53 = .ok (.aaload, 1) := by decide +kernel
theorem dX6_take_54 : decode cX6_take 54 = .ok (.invokevirtual 86, 3) := by decide +kernel
theorem dX6_take_57 : decode cX6_take 57 = .ok (.aload_n 0, 1) := by decide +kernel
theorem dX6_take_58 : decode cX6_take 58 = .ok (.getfield 22, 3) := by decide +kernel
theorem dX6_take_61 : decode cX6_take 61 = .ok (.getfield 82, 3) := by decide +kernel
theorem dX6_take_64 : decode cX6_take 64 = .ok (.aload_n 0, 1) := by decide +kernel
theorem dX6_take_65 : decode cX6_take 65 = .ok (.getfield 10, 3) := by decide +kernel
theorem dX6_take_68 : decode cX6_take 68 = .ok (.getfield 72, 3) := by decide +kernel
theorem dX6_take_71 : decode cX6_take 71 = .ok (.iload_n 3, 1) := by decide +kernel
theorem dX6_take_72 : decode cX6_take 72 = .ok (.aaload, 1) := by decide +kernel
theorem dX6_take_73 : decode cX6_take 73 = .ok (.invokevirtual 117, 3) := by decide +kernel
theorem dX6_take_76 : decode cX6_take 76 = .ok (.aload_n 0, 1) := by decide +kernel
theorem dX6_take_77 : decode cX6_take 77 = .ok (.iload_n 1, 1) := by decide +kernel
theorem dX6_take_78 : decode cX6_take 78 = .ok (.aload_n 0, 1) := by decide +kernel
theorem dX6_take_79 : decode cX6_take 79 = .ok (.getfield 22, 3) := by decide +kernel
theorem dX6_take_82 : decode cX6_take 82 = .ok (.getfield 82, 3) := by decide +kernel
theorem dX6_take_85 : decode cX6_take 85 = .ok (.invokevirtual 96, 3) := by decide +kernel
theorem dX6_take_88 : decode cX6_take 88 = .ok (.ireturn, 1) := by decide +kernel
theorem dX6_times_0 : decode cX6_times 0 = .ok (.aload_n 0, 1) := by decide +kernel
theorem dX6_times_1 : decode cX6_times 1 = .ok (.iload_n 1, 1) := by decide +kernel
theorem dX6_times_2 : decode cX6_times 2 = .ok (.iload_n 2, 1) := by decide +kernel
theorem dX6_times_3 : decode cX6_times 3 = .ok (.lload_n 3, 1) := by decide +kernel
theorem dX6_times_4 : decode cX6_times 4 = .ok (.lload 5, 2) := by decide +kernel
theorem dX6_times_6 : decode cX6_times 6 = .ok (.iload 7, 2) := by decide +kernel
theorem dX6_times_8 : decode cX6_times 8 = .ok (.invokevirtual 120, 3) := by decide +kernel
theorem dX6_times_11 : decode cX6_times 11 = .ok (.istore 8, 2) := by decide +kernel
theorem dX6_times_13 : decode cX6_times 13 = .ok (.iload 8, 2) := by decide +kernel
theorem dX6_times_15 : decode cX6_times 15 = .ok (.bipush (-5), 2) := by decide +kernel
theorem dX6_times_17 : decode cX6_times 17 = .ok (.if_icmp .ne 13, 3) := by decide +kernel
theorem dX6_times_20 : decode cX6_times 20 = .ok (.new 124, 3) := by decide +kernel
theorem dX6_times_23 : decode cX6_times 23 = .ok (.dup, 1) := by decide +kernel
theorem dX6_times_24 : decode cX6_times 24 = .ok (.ldc 126, 2) := by decide +kernel
theorem dX6_times_26 : decode cX6_times 26 = .ok (.invokespecial 128, 3) := by decide +kernel
theorem dX6_times_29 : decode cX6_times 29 = .ok (.athrow, 1) := by decide +kernel
theorem dX6_times_30 : decode cX6_times 30 = .ok (.iload 8, 2) := by decide +kernel
theorem dX6_times_32 : decode cX6_times 32 = .ok (.ireturn, 1) := by decide +kernel
theorem dX6_round_0 : decode cX6_round 0 = .ok (.iload_n 1, 1) := by decide +kernel
theorem dX6_round_1 : decode cX6_round 1 = .ok (.invokestatic 68, 3) := by decide +kernel
theorem dX6_round_4 : decode cX6_round 4 = .ok (.ifCond .eq 28, 3) := by decide +kernel
theorem dX6_round_7 : decode cX6_round 7 = .ok (.iload_n 2, 1) := by decide +kernel
theorem dX6_round_8 : decode cX6_round 8 = .ok (.invokestatic 68, 3) := by decide +kernel
theorem dX6_round_11 : decode cX6_round 11 = .ok (.ifCond .eq 21, 3) := by decide +kernel
theorem dX6_round_14 : decode cX6_round 14 = .ok (.iload_n 3, 1) := by decide +kernel
theorem dX6_round_15 : decode cX6_round 15 = .ok (.ifCond .lt 17, 3) := by decide +kernel
theorem dX6_round_18 : decode cX6_round 18 = .ok (.iload_n 3, 1) := by decide +kernel
theorem dX6_round_19 : decode cX6_round 19 = .ok (.bipush 18, 2) := by decide +kernel
theorem dX6_round_21 : decode cX6_round 21 = .ok (.if_icmp .gt 11, 3) := by decide +kernel
theorem dX6_round_24 : decode cX6_round 24 = .ok (.iload 4, 2) := by decide +kernel
theorem dX6_round_26 : decode cX6_round 26 = .ok (.invokestatic 131, 3) := by decide +kernel
theorem dX6_round_29 : decode cX6_round 29 = .ok (.ifCond .ne 5, 3) := by decide +kernel
theorem dX6_round_32 : decode cX6_round 32 = .ok (.iconst (-1), 1) := by decide +kernel
theorem dX6_round_33 : decode cX6_round 33 = .ok (.ireturn, 1) := by decide +kernel
theorem dX6_round_34 : decode cX6_round 34 = .ok (.aload_n 0, 1) := by decide +kernel
theorem dX6_round_35 : decode cX6_round 35 = .ok (.getfield 22, 3) := by decide +kernel
theorem dX6_round_38 : decode cX6_round 38 = .ok (.getfield 134, 3) := by decide +kernel
theorem dX6_round_41 : decode cX6_round 41 = .ok (.aload_n 0, 1) := by decide +kernel
theorem dX6_round_42 : decode cX6_round 42 = .ok (.getfield 10, 3) := by decide +kernel
theorem dX6_round_45 : decode cX6_round 45 = .ok (.getfield 72, 3) := by decide +kernel
theorem dX6_round_48 : decode cX6_round 48 = .ok (.iload_n 2, 1) := by decide +kernel
theorem dX6_round_49 : decode cX6_round 49 = .ok (.aaload, 1) := by decide +kernel
theorem dX6_round_50 : decode cX6_round 50 = .ok (.invokevirtual 86, 3) := by decide +kernel
theorem dX6_round_53 : decode cX6_round 53 = .ok (.aload_n 0, 1) := by decide +kernel
theorem dX6_round_54 : decode cX6_round 54 = .ok (.getfield 22, 3) := by decide +kernel
theorem dX6_round_57 : decode cX6_round 57 = .ok (.getfield 137, 3) := by decide +kernel
theorem dX6_round_60 : decode cX6_round 60 = .ok (.iload_n 3, 1) := by decide +kernel
theorem dX6_round_61 : decode cX6_round 61 = .ok (.invokestatic 140, 3) := by decide +kernel
theorem dX6_round_64 : decode cX6_round 64 = .ok (.invokevirtual 76, 3) := by decide +kernel
theorem dX6_round_67 : decode cX6_round 67 = .ok (.aload_n 0, 1) := by decide +kernel
theorem dX6_round_68 : decode cX6_round 68 = .ok (.getfield 22, 3) := by decide +kernel
theorem dX6_round_71 : decode cX6_round 71 = .ok (.invokevirtual 143, 3) := by decide +kernel
theorem dX6_round_74 : decode cX6_round 74 = .ok (.aload_n 0, 1) := by decide +kernel
theorem dX6_round_75 : decode cX6_round 75 = .ok (.getfield 22, 3) := by decide +kernel
theorem dX6_round_78 : decode cX6_round 78 = .ok (.iload 4, 2) := by decide +kernel
theorem dX6_round_80 : decode cX6_round 80 = .ok (.invokevirtual 146, 3) := by decide +kernel
theorem dX6_round_83 : decode cX6_round 83 = .ok (.aload_n 0, 1) := by decide +kernel
theorem dX6_round_84 : decode cX6_round 84 = .ok (.getfield 22, 3) := by decide +kernel
theorem dX6_round_87 : decode cX6_round 87 = .ok (.getfield 82, 3) := by decide +kernel
theorem dX6_round_90 : decode cX6_round 90 = .ok (.aload_n 0, 1) := by decide +kernel
theorem dX6_round_91 : decode cX6_round 91 = .ok (.getfield 22, 3) := by decide +kernel
theorem dX6_round_94 : decode cX6_round 94 = .ok (.getfield 150, 3) := by decide +kernel
theorem dX6_round_97 : decode cX6_round 97 = .ok (.aload_n 0, 1) := by decide +kernel
theorem dX6_round_98 : decode cX6_round 98 = .ok (.getfield 22, 3) := by decide +kernel
theorem dX6_round_101 : decode cX6_round 101 = .ok (.getfield 137, 3) := by decide +kernel
theorem dX6_round_104 : decode cX6_round 104 = .ok (.invokevirtual 153, 3) := by decide +kernel
theorem dX6_round_107 : decode cX6_round 107 = .ok (.aload_n 0, 1) := by decide +kernel
theorem dX6_round_108 : decode cX6_round 108 = .ok (.iload_n 1, 1) := by decide +kernel
theorem dX6_round_109 : decode cX6_round 109 = .ok (.aload_n 0, 1) := by decide +kernel
theorem dX6_round_110 : decode cX6_round 110 = .ok (.getfield 22, 3) := by decide +kernel
theorem dX6_round_113 : decode cX6_round 113 = .ok (.getfield 82, 3) := by decide +kernel
theorem dX6_round_116 : decode cX6_round 116 = .ok (.invokevirtual 96, 3) := by decide +kernel
theorem dX6_round_119 : decode cX6_round 119 = .ok (.ireturn, 1) := by decide +kernel
theorem dX6_divide_0 : decode cX6_divide 0 = .ok (.aload_n 0, 1) := by decide +kernel
theorem dX6_divide_1 : decode cX6_divide 1 = .ok (.iload_n 1, 1) := by decide +kernel
theorem dX6_divide_2 : decode cX6_divide 2 = .ok (.iload_n 2, 1) := by decide +kernel
theorem dX6_divide_3 : decode cX6_divide 3 = .ok (.iload_n 3, 1) := by decide +kernel
theorem dX6_divide_4 : decode cX6_divide 4 = .ok (.invokevirtual 157, 3) := by decide +kernel
theorem dX6_divide_7 : decode cX6_divide 7 = .ok (.istore 4, 2) := by decide +kernel
theorem dX6_divide_9 : decode cX6_divide 9 = .ok (.iload 4, 2) := by decide +kernel
theorem dX6_divide_11 : decode cX6_divide 11 = .ok (.bipush (-5), 2) := by decide +kernel
theorem dX6_divide_13 : decode cX6_divide 13 = .ok (.if_icmp .ne 13, 3) := by decide +kernel
theorem dX6_divide_16 : decode cX6_divide 16 = .ok (.new 124, 3) := by decide +kernel
theorem dX6_divide_19 : decode cX6_divide 19 = .ok (.dup, 1) := by decide +kernel
theorem dX6_divide_20 : decode cX6_divide 20 = .ok (.ldc 161, 2) := by decide +kernel
theorem dX6_divide_22 : decode cX6_divide 22 = .ok (.invokespecial 128, 3) := by decide +kernel
theorem dX6_divide_25 : decode cX6_divide 25 = .ok (.athrow, 1) := by decide +kernel
theorem dX6_divide_26 : decode cX6_divide 26 = .ok (.iload 4, 2) := by decide +kernel
theorem dX6_divide_28 : decode cX6_divide 28 = .ok (.ireturn, 1) := by decide +kernel
theorem dX6_order_0 : decode cX6_order 0 = .ok (.iload_n 1, 1) := by decide +kernel
theorem dX6_order_1 : decode cX6_order 1 = .ok (.invokestatic 68, 3) := by decide +kernel
theorem dX6_order_4 : decode cX6_order 4 = .ok (.ifCond .eq 10, 3) := by decide +kernel
theorem dX6_order_7 : decode cX6_order 7 = .ok (.iload_n 2, 1) := by decide +kernel
theorem dX6_order_8 : decode cX6_order 8 = .ok (.invokestatic 68, 3) := by decide +kernel
theorem dX6_order_11 : decode cX6_order 11 = .ok (.ifCond .ne 5, 3) := by decide +kernel
theorem dX6_order_14 : decode cX6_order 14 = .ok (.iconst (-1), 1) := by decide +kernel
theorem dX6_order_15 : decode cX6_order 15 = .ok (.ireturn, 1) := by decide +kernel
theorem dX6_order_16 : decode cX6_order 16 = .ok (.iconst 1, 1) := by decide +kernel
theorem dX6_order_17 : decode cX6_order 17 = .ok (.aload_n 0, 1) := by decide +kernel
theorem dX6_order_18 : decode cX6_order 18 = .ok (.getfield 10, 3) := by decide +kernel
theorem dX6_order_21 : decode cX6_order 21 = .ok (.getfield 72, 3) := by decide +kernel
theorem dX6_order_24 : decode cX6_order 24 = .ok (.iload_n 1, 1) := by decide +kernel
theorem dX6_order_25 : decode cX6_order 25 = .ok (.aaload, 1) := by decide +kernel
theorem dX6_order_26 : decode cX6_order 26 = .ok (.aload_n 0, 1) := by decide +kernel
theorem dX6_order_27 : decode cX6_order 27 = .ok (.getfield 10, 3) := by decide +kernel
theorem dX6_order_30 : decode cX6_order 30 = .ok (.getfield 72, 3) := by decide +kernel
theorem dX6_order_33 : decode cX6_order 33 = .ok (.iload_n 2, 1) := by decide +kernel
theorem dX6_order_34 : decode cX6_order 34 = .ok (.aaload, 1) := by decide +kernel
theorem dX6_order_35 : decode cX6_order 35 = .ok (.invokevirtual 113, 3) := by decide +kernel
theorem dX6_order_38 : decode cX6_order 38 = .ok (.iadd, 1) := by decide +kernel
theorem dX6_order_39 : decode cX6_order 39 = .ok (.ireturn, 1) := by decide +kernel
theorem dX6_weight_0 : decode cX6_weight 0 = .ok (.iload_n 1, 1) := by decide +kernel
theorem dX6_weight_1 : decode cX6_weight 1 = .ok (.ifCond .lt 23, 3) := by decide +kernel
theorem dX6_weight_4 : decode cX6_weight 4 = .ok (.iload_n 1, 1) := by decide +kernel
theorem dX6_weight_5 : decode cX6_weight 5 = .ok (.bipush 12, 2) := by decide +kernel
theorem dX6_weight_7 : decode cX6_weight 7 = .ok (.if_icmp .ge 17, 3) := by decide +kernel
theorem dX6_weight_10 : decode cX6_weight 10 = .ok (.lload_n 2, 1) := by decide +kernel
theorem dX6_weight_11 : decode cX6_weight 11 = .ok (.lconst 0, 1) := by decide +kernel
theorem dX6_weight_12 : decode cX6_weight 12 = .ok (.lcmp, 1) := by decide +kernel
theorem dX6_weight_13 : decode cX6_weight 13 = .ok (.ifCond .lt 11, 3) := by decide +kernel
theorem dX6_weight_16 : decode cX6_weight 16 = .ok (.lload_n 2, 1) := by decide +kernel
theorem dX6_weight_17 : decode cX6_weight 17 = .ok (.ldc2_w 163, 3) := by decide +kernel
theorem dX6_weight_20 : decode cX6_weight 20 = .ok (.lcmp, 1) := by decide +kernel
theorem dX6_weight_21 : decode cX6_weight 21 = .ok (.ifCond .le 5, 3) := by decide +kernel
theorem dX6_weight_24 : decode cX6_weight 24 = .ok (.iconst (-1), 1) := by decide +kernel
theorem dX6_weight_25 : decode cX6_weight 25 = .ok (.ireturn, 1) := by decide +kernel
theorem dX6_weight_26 : decode cX6_weight 26 = .ok (.aload_n 0, 1) := by decide +kernel
theorem dX6_weight_27 : decode cX6_weight 27 = .ok (.getfield 40, 3) := by decide +kernel
theorem dX6_weight_30 : decode cX6_weight 30 = .ok (.iload_n 1, 1) := by decide +kernel
theorem dX6_weight_31 : decode cX6_weight 31 = .ok (.lload_n 2, 1) := by decide +kernel
theorem dX6_weight_32 : decode cX6_weight 32 = .ok (.lastore, 1) := by decide +kernel
theorem dX6_weight_33 : decode cX6_weight 33 = .ok (.iconst 1, 1) := by decide +kernel
theorem dX6_weight_34 : decode cX6_weight 34 = .ok (.ireturn, 1) := by decide +kernel
theorem dX6_share_0 : decode cX6_share 0 = .ok (.iload_n 1, 1) := by decide +kernel
theorem dX6_share_1 : decode cX6_share 1 = .ok (.invokestatic 68, 3) := by decide +kernel
theorem dX6_share_4 : decode cX6_share 4 = .ok (.ifCond .eq 32, 3) := by decide +kernel
theorem dX6_share_7 : decode cX6_share 7 = .ok (.iload_n 3, 1) := by decide +kernel
theorem dX6_share_8 : decode cX6_share 8 = .ok (.iconst 1, 1) := by decide +kernel
theorem dX6_share_9 : decode cX6_share 9 = .ok (.if_icmp .lt 27, 3) := by decide +kernel
theorem dX6_share_12 : decode cX6_share 12 = .ok (.iload_n 3, 1) := by decide +kernel
theorem dX6_share_13 : decode cX6_share 13 = .ok (.bipush 12, 2) := by decide +kernel
theorem dX6_share_15 : decode cX6_share 15 = .ok (.if_icmp .gt 21, 3) := by decide +kernel
theorem dX6_share_18 : decode cX6_share 18 = .ok (.iload_n 2, 1) := by decide +kernel
theorem dX6_share_19 : decode cX6_share 19 = .ok (.invokestatic 68, 3) := by decide +kernel
theorem dX6_share_22 : decode cX6_share 22 = .ok (.ifCond .eq 14, 3) := by decide +kernel
theorem dX6_share_25 : decode cX6_share 25 = .ok (.iload_n 2, 1) := by decide +kernel
theorem dX6_share_26 : decode cX6_share 26 = .ok (.iload_n 3, 1) := by decide +kernel
theorem dX6_share_27 : decode cX6_share 27 = .ok (.iadd, 1) := by decide +kernel
theorem dX6_share_28 : decode cX6_share 28 = .ok (.iconst 1, 1) := by decide +kernel
theorem dX6_share_29 : decode cX6_share 29 = .ok (.isub, 1) := by decide +kernel
theorem dX6_share_30 : decode cX6_share 30 = .ok (.invokestatic 68, 3) := by decide +kernel
theorem dX6_share_33 : decode cX6_share 33 = .ok (.ifCond .ne 5, 3) := by decide +kernel
theorem dX6_share_36 : decode cX6_share 36 = .ok (.iconst (-1), 1) := by decide +kernel
theorem dX6_share_37 : decode cX6_share 37 = .ok (.ireturn, 1) := by decide +kernel
theorem dX6_share_38 : decode cX6_share 38 = .ok (.aload_n 0, 1) := by decide +kernel
theorem dX6_share_39 : decode cX6_share 39 = .ok (.iload_n 3, 1) := by decide +kernel
theorem dX6_share_40 : decode cX6_share 40 = .ok (.invokevirtual 165, 3) := by decide +kernel
theorem dX6_share_43 : decode cX6_share 43 = .ok (.lstore 4, 2) := by decide +kernel
theorem dX6_share_45 : decode cX6_share 45 = .ok (.lload 4, 2) := by decide +kernel
theorem dX6_share_47 : decode cX6_share 47 = .ok (.lconst 0, 1) := by decide +kernel
theorem dX6_share_48 : decode cX6_share 48 = .ok (.lcmp, 1) := by decide +kernel
theorem dX6_share_49 : decode cX6_share 49 = .ok (.ifCond .ne 6, 3) := by decide +kernel
theorem dX6_share_52 : decode cX6_share 52 = .ok (.bipush (-4), 2) := by decide +kernel
theorem dX6_share_54 : decode cX6_share 54 = .ok (.ireturn, 1) := by decide +kernel
theorem dX6_share_55 : decode cX6_share 55 = .ok (.aload_n 0, 1) := by decide +kernel
theorem dX6_share_56 : decode cX6_share 56 = .ok (.getfield 22, 3) := by decide +kernel
theorem dX6_share_59 : decode cX6_share 59 = .ok (.getfield 168, 3) := by decide +kernel
theorem dX6_share_62 : decode cX6_share 62 = .ok (.aload_n 0, 1) := by decide +kernel
theorem dX6_share_63 : decode cX6_share 63 = .ok (.getfield 10, 3) := by decide +kernel
theorem dX6_share_66 : decode cX6_share 66 = .ok (.getfield 72, 3) := by decide +kernel
theorem dX6_share_69 : decode cX6_share 69 = .ok (.iload_n 1, 1) := by decide +kernel
theorem dX6_share_70 : decode cX6_share 70 = .ok (.aaload, 1) := by decide +kernel
theorem dX6_share_71 : decode cX6_share 71 = .ok (.invokevirtual 86, 3) := by decide +kernel
theorem dX6_share_74 : decode cX6_share 74 = .ok (.lconst 0, 1) := by decide +kernel
theorem dX6_share_75 : decode cX6_share 75 = .ok (.lstore 6, 2) := by decide +kernel
theorem dX6_share_77 : decode cX6_share 77 = .ok (.iconst 0, 1) := by decide +kernel
theorem dX6_share_78 : decode cX6_share 78 = .ok (.istore 8, 2) := by decide +kernel
theorem dX6_share_80 : decode cX6_share 80 = .ok (.iload 8, 2) := by decide +kernel
theorem dX6_share_82 : decode cX6_share 82 = .ok (.iload_n 3, 1) := by decide +kernel
theorem dX6_share_83 : decode cX6_share 83 = .ok (.if_icmp .ge 120, 3) := by decide +kernel
theorem dX6_share_86 : decode cX6_share 86 = .ok (.aload_n 0, 1) := by decide +kernel
theorem dX6_share_87 : decode cX6_share 87 = .ok (.getfield 22, 3) := by decide +kernel
theorem dX6_share_90 : decode cX6_share 90 = .ok (.getfield 82, 3) := by decide +kernel
theorem dX6_share_93 : decode cX6_share 93 = .ok (.aload_n 0, 1) := by decide +kernel
theorem dX6_share_94 : decode cX6_share 94 = .ok (.getfield 40, 3) := by decide +kernel
theorem dX6_share_97 : decode cX6_share 97 = .ok (.iload 8, 2) := by decide +kernel
theorem dX6_share_99 : decode cX6_share 99 = .ok (.laload, 1) := by decide +kernel
theorem dX6_share_100 : decode cX6_share 100 = .ok (.invokevirtual 76, 3) := by decide +kernel
theorem dX6_share_103 : decode cX6_share 103 = .ok (.aload_n 0, 1) := by decide +kernel
theorem dX6_share_104 : decode cX6_share 104 = .ok (.getfield 22, 3) := by decide +kernel
theorem dX6_share_107 : decode cX6_share 107 = .ok (.getfield 134, 3) := by decide +kernel
theorem dX6_share_110 : decode cX6_share 110 = .ok (.aload_n 0, 1) := by decide +kernel
theorem dX6_share_111 : decode cX6_share 111 = .ok (.getfield 22, 3) := by decide +kernel
theorem dX6_share_114 : decode cX6_share 114 = .ok (.getfield 168, 3) := by decide +kernel
theorem dX6_share_117 : decode cX6_share 117 = .ok (.aload_n 0, 1) := by decide +kernel
theorem dX6_share_118 : decode cX6_share 118 = .ok (.getfield 22, 3) := by decide +kernel
theorem dX6_share_121 : decode cX6_share 121 = .ok (.getfield 82, 3) := by decide +kernel
theorem dX6_share_124 : decode cX6_share 124 = .ok (.invokevirtual 153, 3) := by decide +kernel
theorem dX6_share_127 : decode cX6_share 127 = .ok (.aload_n 0, 1) := by decide +kernel
theorem dX6_share_128 : decode cX6_share 128 = .ok (.getfield 22, 3) := by decide +kernel
theorem dX6_share_131 : decode cX6_share 131 = .ok (.getfield 137, 3) := by decide +kernel
theorem dX6_share_134 : decode cX6_share 134 = .ok (.lload 4, 2) := by decide +kernel
theorem dX6_share_136 : decode cX6_share 136 = .ok (.invokevirtual 76, 3) := by decide +kernel
theorem dX6_share_139 : decode cX6_share 139 = .ok (.aload_n 0, 1) := by decide +kernel
theorem dX6_share_140 : decode cX6_share 140 = .ok (.getfield 22, 3) := by decide +kernel
theorem dX6_share_143 : decode cX6_share 143 = .ok (.invokevirtual 143, 3) := by decide +kernel
theorem dX6_share_146 : decode cX6_share 146 = .ok (.aload_n 0, 1) := by decide +kernel
theorem dX6_share_147 : decode cX6_share 147 = .ok (.getfield 10, 3) := by decide +kernel
theorem dX6_share_150 : decode cX6_share 150 = .ok (.getfield 72, 3) := by decide +kernel
theorem dX6_share_153 : decode cX6_share 153 = .ok (.iload_n 2, 1) := by decide +kernel
theorem dX6_share_154 : decode cX6_share 154 = .ok (.iload 8, 2) := by decide +kernel
theorem dX6_share_156 : decode cX6_share 156 = .ok (.iadd, 1) := by decide +kernel
theorem dX6_share_157 : decode cX6_share 157 = .ok (.aaload, 1) := by decide +kernel
theorem dX6_share_158 : decode cX6_share 158 = .ok (.aload_n 0, 1) := by decide +kernel
theorem dX6_share_159 : decode cX6_share 159 = .ok (.getfield 22, 3) := by decide +kernel
theorem dX6_share_162 : decode cX6_share 162 = .ok (.getfield 150, 3) := by decide +kernel
theorem dX6_share_165 : decode cX6_share 165 = .ok (.invokevirtual 86, 3) := by decide +kernel
theorem dX6_share_168 : decode cX6_share 168 = .ok (.aload_n 0, 1) := by decide +kernel
theorem dX6_share_169 : decode cX6_share 169 = .ok (.getfield 44, 3) := by decide +kernel
theorem dX6_share_172 : decode cX6_share 172 = .ok (.iload 8, 2) := by decide +kernel
theorem dX6_share_174 : decode cX6_share 174 = .ok (.aload_n 0, 1) := by decide +kernel
theorem dX6_share_175 : decode cX6_share 175 = .ok (.getfield 22, 3) := by decide +kernel
theorem dX6_share_178 : decode cX6_share 178 = .ok (.getfield 171, 3) := by decide +kernel
theorem dX6_share_181 : decode cX6_share 181 = .ok (.invokevirtual 174, 3) := by decide +kernel
theorem dX6_share_184 : decode cX6_share 184 = .ok (.lastore, 1) := by decide +kernel
theorem dX6_share_185 : decode cX6_share 185 = .ok (.lload 6, 2) := by decide +kernel
theorem dX6_share_187 : decode cX6_share 187 = .ok (.aload_n 0, 1) := by decide +kernel
theorem dX6_share_188 : decode cX6_share 188 = .ok (.getfield 44, 3) := by decide +kernel
theorem dX6_share_191 : decode cX6_share 191 = .ok (.iload 8, 2) := by decide +kernel
theorem dX6_share_193 : decode cX6_share 193 = .ok (.laload, 1) := by decide +kernel
theorem dX6_share_194 : decode cX6_share 194 = .ok (.ladd, 1) := by decide +kernel
theorem dX6_share_195 : decode cX6_share 195 = .ok (.lstore 6, 2) := by decide +kernel
theorem dX6_share_197 : decode cX6_share 197 = .ok (.iinc 8 1, 3) := by decide +kernel
theorem dX6_share_200 : decode cX6_share 200 = .ok (.goto (-120), 3) := by decide +kernel
theorem dX6_share_203 : decode cX6_share 203 = .ok (.lload 6, 2) := by decide +kernel
theorem dX6_share_205 : decode cX6_share 205 = .ok (.lload 4, 2) := by decide +kernel
theorem dX6_share_207 : decode cX6_share 207 = .ok (.ldiv, 1) := by decide +kernel
theorem dX6_share_208 : decode cX6_share 208 = .ok (.l2i, 1) := by decide +kernel
theorem dX6_share_209 : decode cX6_share 209 = .ok (.istore 8, 2) := by decide +kernel
theorem dX6_share_211 : decode cX6_share 211 = .ok (.iconst 0, 1) := by decide +kernel
theorem dX6_share_212 : decode cX6_share 212 = .ok (.istore 9, 2) := by decide +kernel
theorem dX6_share_214 : decode cX6_share 214 = .ok (.iload 9, 2) := by decide +kernel
theorem dX6_share_216 : decode cX6_share 216 = .ok (.iload 8, 2) := by decide +kernel
theorem dX6_share_218 : decode cX6_share 218 = .ok (.if_icmp .ge 41, 3) := by decide +kernel
theorem dX6_share_221 : decode cX6_share 221 = .ok (.aload_n 0, 1) := by decide +kernel
theorem dX6_share_222 : decode cX6_share 222 = .ok (.iload_n 3, 1) := by decide +kernel
theorem dX6_share_223 : decode cX6_share 223 = .ok (.invokevirtual 178, 3) := by decide +kernel
theorem dX6_share_226 : decode cX6_share 226 = .ok (.istore 10, 2) := by decide +kernel
theorem dX6_share_228 : decode cX6_share 228 = .ok (.aload_n 0, 1) := by decide +kernel
theorem dX6_share_229 : decode cX6_share 229 = .ok (.getfield 10, 3) := by decide +kernel
theorem dX6_share_232 : decode cX6_share 232 = .ok (.getfield 72, 3) := by decide +kernel
theorem dX6_share_235 : decode cX6_share 235 = .ok (.iload_n 2, 1) := by decide +kernel
theorem dX6_share_236 : decode cX6_share 236 = .ok (.iload 10, 2) := by decide +kernel
theorem dX6_share_238 : decode cX6_share 238 = .ok (.iadd, 1) := by decide +kernel
theorem dX6_share_239 : decode cX6_share 239 = .ok (.aaload, 1) := by decide +kernel
theorem dX6_share_240 : decode cX6_share 240 = .ok (.invokevirtual 182, 3) := by decide +kernel
theorem dX6_share_243 : decode cX6_share 243 = .ok (.aload_n 0, 1) := by decide +kernel
theorem dX6_share_244 : decode cX6_share 244 = .ok (.getfield 44, 3) := by decide +kernel
theorem dX6_share_247 : decode cX6_share 247 = .ok (.iload 10, 2) := by decide +kernel
theorem dX6_share_249 : decode cX6_share 249 = .ok (.ldc2_w 100, 3) := by decide +kernel
theorem dX6_share_252 : decode cX6_share 252 = .ok (.lastore, 1) := by decide +kernel
theorem dX6_share_253 : decode cX6_share 253 = .ok (.iinc 9 1, 3) := by decide +kernel
theorem dX6_share_256 : decode cX6_share 256 = .ok (.goto (-42), 3) := by decide +kernel
theorem dX6_share_259 : decode cX6_share 259 = .ok (.iload 8, 2) := by decide +kernel
theorem dX6_share_261 : decode cX6_share 261 = .ok (.ireturn, 1) := by decide +kernel
theorem dX6_figures_0 : decode cX6_figures 0 = .ok (.iload_n 1, 1) := by decide +kernel
theorem dX6_figures_1 : decode cX6_figures 1 = .ok (.invokestatic 68, 3) := by decide +kernel
theorem dX6_figures_4 : decode cX6_figures 4 = .ok (.ifCond .ne 5, 3) := by decide +kernel
theorem dX6_figures_7 : decode cX6_figures 7 = .ok (.iconst (-1), 1) := by decide +kernel
theorem dX6_figures_8 : decode cX6_figures 8 = .ok (.ireturn, 1) := by decide +kernel
theorem dX6_figures_9 : decode cX6_figures 9 = .ok (.aload_n 0, 1) := by decide +kernel
theorem dX6_figures_10 : decode cX6_figures 10 = .ok (.getfield 29, 3) := by decide +kernel
theorem dX6_figures_13 : decode cX6_figures 13 = .ok (.aload_n 0, 1) := by decide +kernel
theorem dX6_figures_14 : decode cX6_figures 14 = .ok (.getfield 10, 3) := by decide +kernel
theorem dX6_figures_17 : decode cX6_figures 17 = .ok (.getfield 72, 3) := by decide +kernel
theorem dX6_figures_20 : decode cX6_figures 20 = .ok (.iload_n 1, 1) := by decide +kernel
theorem dX6_figures_21 : decode cX6_figures 21 = .ok (.aaload, 1) := by decide +kernel
theorem dX6_figures_22 : decode cX6_figures 22 = .ok (.invokevirtual 185, 3) := by decide +kernel
theorem dX6_figures_25 : decode cX6_figures 25 = .ok (.aload_n 0, 1) := by decide +kernel
theorem dX6_figures_26 : decode cX6_figures 26 = .ok (.getfield 29, 3) := by decide +kernel
theorem dX6_figures_29 : decode cX6_figures 29 = .ok (.getfield 188, 3) := by decide +kernel
theorem dX6_figures_32 : decode cX6_figures 32 = .ok (.ireturn, 1) := by decide +kernel
theorem dX6_figure_0 : decode cX6_figure 0 = .ok (.iload_n 1, 1) := by decide +kernel
theorem dX6_figure_1 : decode cX6_figure 1 = .ok (.invokestatic 68, 3) := by decide +kernel
theorem dX6_figure_4 : decode cX6_figure 4 = .ok (.ifCond .ne 5, 3) := by decide +kernel
theorem dX6_figure_7 : decode cX6_figure 7 = .ok (.iconst (-1), 1) := by decide +kernel
theorem dX6_figure_8 : decode cX6_figure 8 = .ok (.ireturn, 1) := by decide +kernel
theorem dX6_figure_9 : decode cX6_figure 9 = .ok (.aload_n 0, 1) := by decide +kernel
theorem dX6_figure_10 : decode cX6_figure 10 = .ok (.getfield 29, 3) := by decide +kernel
theorem dX6_figure_13 : decode cX6_figure 13 = .ok (.aload_n 0, 1) := by decide +kernel
theorem dX6_figure_14 : decode cX6_figure 14 = .ok (.getfield 10, 3) := by decide +kernel
theorem dX6_figure_17 : decode cX6_figure 17 = .ok (.getfield 72, 3) := by decide +kernel
theorem dX6_figure_20 : decode cX6_figure 20 = .ok (.iload_n 1, 1) := by decide +kernel
theorem dX6_figure_21 : decode cX6_figure 21 = .ok (.aaload, 1) := by decide +kernel
theorem dX6_figure_22 : decode cX6_figure 22 = .ok (.invokevirtual 185, 3) := by decide +kernel
theorem dX6_figure_25 : decode cX6_figure 25 = .ok (.iload_n 2, 1) := by decide +kernel
theorem dX6_figure_26 : decode cX6_figure 26 = .ok (.ifCond .lt 14, 3) := by decide +kernel
theorem dX6_figure_29 : decode cX6_figure 29 = .ok (.iload_n 2, 1) := by decide +kernel
theorem dX6_figure_30 : decode cX6_figure 30 = .ok (.aload_n 0, 1) := by decide +kernel
theorem dX6_figure_31 : decode cX6_figure 31 = .ok (.getfield 29, 3) := by decide +kernel
theorem dX6_figure_34 : decode cX6_figure 34 = .ok (.getfield 188, 3) := by decide +kernel
theorem dX6_figure_37 : decode cX6_figure 37 = .ok (.if_icmp .lt 13, 3) := by decide +kernel
theorem dX6_figure_40 : decode cX6_figure 40 = .ok (.new 191, 3) := by decide +kernel
theorem dX6_figure_43 : decode cX6_figure 43 = .ok (.dup, 1) := by decide +kernel
theorem dX6_figure_44 : decode cX6_figure 44 = .ok (.ldc 193, 2) := by decide +kernel
theorem dX6_figure_46 : decode cX6_figure 46 = .ok (.invokespecial 195, 3) := by decide +kernel
theorem dX6_figure_49 : decode cX6_figure 49 = .ok (.athrow, 1) := by decide +kernel
theorem dX6_figure_50 : decode cX6_figure 50 = .ok (.aload_n 0, 1) := by decide +kernel
theorem dX6_figure_51 : decode cX6_figure 51 = .ok (.getfield 29, 3) := by decide +kernel
theorem dX6_figure_54 : decode cX6_figure 54 = .ok (.getfield 196, 3) := by decide +kernel
theorem dX6_figure_57 : decode cX6_figure 57 = .ok (.iload_n 2, 1) := by decide +kernel
theorem dX6_figure_58 : decode cX6_figure 58 = .ok (.iaload, 1) := by decide +kernel
theorem dX6_figure_59 : decode cX6_figure 59 = .ok (.ireturn, 1) := by decide +kernel
theorem dX6_unit_0 : decode cX6_unit 0 = .ok (.iload_n 1, 1) := by decide +kernel
theorem dX6_unit_1 : decode cX6_unit 1 = .ok (.ifCond .lt 9, 3) := by decide +kernel
theorem dX6_unit_4 : decode cX6_unit 4 = .ok (.iload_n 1, 1) := by decide +kernel
theorem dX6_unit_5 : decode cX6_unit 5 = .ok (.bipush 12, 2) := by decide +kernel
theorem dX6_unit_7 : decode cX6_unit 7 = .ok (.if_icmp .le 5, 3) := by decide +kernel
theorem dX6_unit_10 : decode cX6_unit 10 = .ok (.iconst (-1), 1) := by decide +kernel
theorem dX6_unit_11 : decode cX6_unit 11 = .ok (.ireturn, 1) := by decide +kernel
theorem dX6_unit_12 : decode cX6_unit 12 = .ok (.aload_n 0, 1) := by decide +kernel
theorem dX6_unit_13 : decode cX6_unit 13 = .ok (.getfield 56, 3) := by decide +kernel
theorem dX6_unit_16 : decode cX6_unit 16 = .ok (.istore_n 2, 1) := by decide +kernel
theorem dX6_unit_17 : decode cX6_unit 17 = .ok (.aload_n 0, 1) := by decide +kernel
theorem dX6_unit_18 : decode cX6_unit 18 = .ok (.iload_n 1, 1) := by decide +kernel
theorem dX6_unit_19 : decode cX6_unit 19 = .ok (.putfield 56, 3) := by decide +kernel
theorem dX6_unit_22 : decode cX6_unit 22 = .ok (.iload_n 2, 1) := by decide +kernel
theorem dX6_unit_23 : decode cX6_unit 23 = .ok (.ireturn, 1) := by decide +kernel
theorem dX6_print_0 : decode cX6_print 0 = .ok (.iload_n 1, 1) := by decide +kernel
theorem dX6_print_1 : decode cX6_print 1 = .ok (.invokestatic 68, 3) := by decide +kernel
theorem dX6_print_4 : decode cX6_print 4 = .ok (.ifCond .ne 5, 3) := by decide +kernel
theorem dX6_print_7 : decode cX6_print 7 = .ok (.iconst (-1), 1) := by decide +kernel
theorem dX6_print_8 : decode cX6_print 8 = .ok (.ireturn, 1) := by decide +kernel
theorem dX6_print_9 : decode cX6_print 9 = .ok (.aload_n 0, 1) := by decide +kernel
theorem dX6_print_10 : decode cX6_print 10 = .ok (.getfield 29, 3) := by decide +kernel
theorem dX6_print_13 : decode cX6_print 13 = .ok (.aload_n 0, 1) := by decide +kernel
theorem dX6_print_14 : decode cX6_print 14 = .ok (.getfield 10, 3) := by decide +kernel
theorem dX6_print_17 : decode cX6_print 17 = .ok (.getfield 72, 3) := by decide +kernel
theorem dX6_print_20 : decode cX6_print 20 = .ok (.iload_n 1, 1) := by decide +kernel
theorem dX6_print_21 : decode cX6_print 21 = .ok (.aaload, 1) := by decide +kernel
theorem dX6_print_22 : decode cX6_print 22 = .ok (.invokevirtual 185, 3) := by decide +kernel
theorem dX6_print_25 : decode cX6_print 25 = .ok (.aload_n 0, 1) := by decide +kernel
theorem dX6_print_26 : decode cX6_print 26 = .ok (.getfield 29, 3) := by decide +kernel
theorem dX6_print_29 : decode cX6_print 29 = .ok (.aload_n 0, 1) := by decide +kernel
theorem dX6_print_30 : decode cX6_print 30 = .ok (.getfield 56, 3) := by decide +kernel
theorem dX6_print_33 : decode cX6_print 33 = .ok (.invokevirtual 200, 3) := by decide +kernel
theorem dX6_print_36 : decode cX6_print 36 = .ok (.aload_n 0, 1) := by decide +kernel
theorem dX6_print_37 : decode cX6_print 37 = .ok (.getfield 29, 3) := by decide +kernel
theorem dX6_print_40 : decode cX6_print 40 = .ok (.getfield 203, 3) := by decide +kernel
theorem dX6_print_43 : decode cX6_print 43 = .ok (.ireturn, 1) := by decide +kernel
theorem dX6_out_0 : decode cX6_out 0 = .ok (.iload_n 1, 1) := by decide +kernel
theorem dX6_out_1 : decode cX6_out 1 = .ok (.ifCond .lt 14, 3) := by decide +kernel
theorem dX6_out_4 : decode cX6_out 4 = .ok (.iload_n 1, 1) := by decide +kernel
theorem dX6_out_5 : decode cX6_out 5 = .ok (.aload_n 0, 1) := by decide +kernel
theorem dX6_out_6 : decode cX6_out 6 = .ok (.getfield 29, 3) := by decide +kernel
theorem dX6_out_9 : decode cX6_out 9 = .ok (.getfield 203, 3) := by decide +kernel
theorem dX6_out_12 : decode cX6_out 12 = .ok (.if_icmp .lt 13, 3) := by decide +kernel
theorem dX6_out_15 : decode cX6_out 15 = .ok (.new 191, 3) := by decide +kernel
theorem dX6_out_18 : decode cX6_out 18 = .ok (.dup, 1) := by decide +kernel
theorem dX6_out_19 : decode cX6_out 19 = .ok (.ldc 206, 2) := by decide +kernel
theorem dX6_out_21 : decode cX6_out 21 = .ok (.invokespecial 195, 3) := by decide +kernel
theorem dX6_out_24 : decode cX6_out 24 = .ok (.athrow, 1) := by decide +kernel
theorem dX6_out_25 : decode cX6_out 25 = .ok (.aload_n 0, 1) := by decide +kernel
theorem dX6_out_26 : decode cX6_out 26 = .ok (.getfield 29, 3) := by decide +kernel
theorem dX6_out_29 : decode cX6_out 29 = .ok (.getfield 208, 3) := by decide +kernel
theorem dX6_out_32 : decode cX6_out 32 = .ok (.iload_n 1, 1) := by decide +kernel
theorem dX6_out_33 : decode cX6_out 33 = .ok (.iaload, 1) := by decide +kernel
theorem dX6_out_34 : decode cX6_out 34 = .ok (.ireturn, 1) := by decide +kernel
theorem dX6_feed_0 : decode cX6_feed 0 = .ok (.iload_n 1, 1) := by decide +kernel
theorem dX6_feed_1 : decode cX6_feed 1 = .ok (.ifCond .lt 10, 3) := by decide +kernel
theorem dX6_feed_4 : decode cX6_feed 4 = .ok (.iload_n 1, 1) := by decide +kernel
theorem dX6_feed_5 : decode cX6_feed 5 = .ok (.sipush 255, 3) := by decide +kernel
theorem dX6_feed_8 : decode cX6_feed 8 = .ok (.if_icmp .le 5, 3) := by decide +kernel
theorem dX6_feed_11 : decode cX6_feed 11 = .ok (.iconst (-1), 1) := by decide +kernel
theorem dX6_feed_12 : decode cX6_feed 12 = .ok (.ireturn, 1) := by decide +kernel
theorem dX6_feed_13 : decode cX6_feed 13 = .ok (.aload_n 0, 1) := by decide +kernel
theorem dX6_feed_14 : decode cX6_feed 14 = .ok (.getfield 36, 3) := by decide +kernel
theorem dX6_feed_17 : decode cX6_feed 17 = .ok (.invokevirtual 211, 3) := by decide +kernel
theorem dX6_feed_20 : decode cX6_feed 20 = .ok (.ifCond .eq 6, 3) := by decide +kernel
theorem dX6_feed_23 : decode cX6_feed 23 = .ok (.bipush (-2), 2) := by decide +kernel
theorem dX6_feed_25 : decode cX6_feed 25 = .ok (.ireturn, 1) := by decide +kernel
theorem dX6_feed_26 : decode cX6_feed 26 = .ok (.aload_n 0, 1) := by decide +kernel
theorem dX6_feed_27 : decode cX6_feed 27 = .ok (.getfield 36, 3) := by decide +kernel
theorem dX6_feed_30 : decode cX6_feed 30 = .ok (.iload_n 1, 1) := by decide +kernel
theorem dX6_feed_31 : decode cX6_feed 31 = .ok (.invokevirtual 215, 3) := by decide +kernel
theorem dX6_feed_34 : decode cX6_feed 34 = .ok (.aload_n 0, 1) := by decide +kernel
theorem dX6_feed_35 : decode cX6_feed 35 = .ok (.getfield 36, 3) := by decide +kernel
theorem dX6_feed_38 : decode cX6_feed 38 = .ok (.getfield 218, 3) := by decide +kernel
theorem dX6_feed_41 : decode cX6_feed 41 = .ok (.ireturn, 1) := by decide +kernel
theorem dX6_read_0 : decode cX6_read 0 = .ok (.iload_n 1, 1) := by decide +kernel
theorem dX6_read_1 : decode cX6_read 1 = .ok (.invokestatic 68, 3) := by decide +kernel
theorem dX6_read_4 : decode cX6_read 4 = .ok (.ifCond .ne 5, 3) := by decide +kernel
theorem dX6_read_7 : decode cX6_read 7 = .ok (.iconst (-1), 1) := by decide +kernel
theorem dX6_read_8 : decode cX6_read 8 = .ok (.ireturn, 1) := by decide +kernel
theorem dX6_read_9 : decode cX6_read 9 = .ok (.aload_n 0, 1) := by decide +kernel
theorem dX6_read_10 : decode cX6_read 10 = .ok (.getfield 36, 3) := by decide +kernel
theorem dX6_read_13 : decode cX6_read 13 = .ok (.getfield 218, 3) := by decide +kernel
theorem dX6_read_16 : decode cX6_read 16 = .ok (.istore_n 2, 1) := by decide +kernel
theorem dX6_read_17 : decode cX6_read 17 = .ok (.iconst 0, 1) := by decide +kernel
theorem dX6_read_18 : decode cX6_read 18 = .ok (.istore_n 3, 1) := by decide +kernel
theorem dX6_read_19 : decode cX6_read 19 = .ok (.aload_n 0, 1) := by decide +kernel
theorem dX6_read_20 : decode cX6_read 20 = .ok (.aload_n 0, 1) := by decide +kernel
theorem dX6_read_21 : decode cX6_read 21 = .ok (.getfield 36, 3) := by decide +kernel
theorem dX6_read_24 : decode cX6_read 24 = .ok (.aload_n 0, 1) := by decide +kernel
theorem dX6_read_25 : decode cX6_read 25 = .ok (.getfield 56, 3) := by decide +kernel
theorem dX6_read_28 : decode cX6_read 28 = .ok (.invokevirtual 219, 3) := by decide +kernel
theorem dX6_read_31 : decode cX6_read 31 = .ok (.putfield 59, 3) := by decide +kernel
theorem dX6_read_34 : decode cX6_read 34 = .ok (.aload_n 0, 1) := by decide +kernel
theorem dX6_read_35 : decode cX6_read 35 = .ok (.getfield 59, 3) := by decide +kernel
theorem dX6_read_38 : decode cX6_read 38 = .ok (.bipush (-4), 2) := by decide +kernel
theorem dX6_read_40 : decode cX6_read 40 = .ok (.if_icmp .eq 8, 3) := by decide +kernel
theorem dX6_read_43 : decode cX6_read 43 = .ok (.iconst 1, 1) := by decide +kernel
theorem dX6_read_44 : decode cX6_read 44 = .ok (.istore_n 3, 1) := by decide +kernel
theorem dX6_read_45 : decode cX6_read 45 = .ok (.goto 49, 3) := by decide +kernel
theorem dX6_read_48 : decode cX6_read 48 = .ok (.aload_n 0, 1) := by decide +kernel
theorem dX6_read_49 : decode cX6_read 49 = .ok (.getfield 36, 3) := by decide +kernel
theorem dX6_read_52 : decode cX6_read 52 = .ok (.aload_n 0, 1) := by decide +kernel
theorem dX6_read_53 : decode cX6_read 53 = .ok (.getfield 22, 3) := by decide +kernel
theorem dX6_read_56 : decode cX6_read 56 = .ok (.getfield 82, 3) := by decide +kernel
theorem dX6_read_59 : decode cX6_read 59 = .ok (.invokevirtual 222, 3) := by decide +kernel
theorem dX6_read_62 : decode cX6_read 62 = .ok (.ifCond .ne 13, 3) := by decide +kernel
theorem dX6_read_65 : decode cX6_read 65 = .ok (.iconst 2, 1) := by decide +kernel
theorem dX6_read_66 : decode cX6_read 66 = .ok (.istore_n 3, 1) := by decide +kernel
theorem dX6_read_67 : decode cX6_read 67 = .ok (.aload_n 0, 1) := by decide +kernel
theorem dX6_read_68 : decode cX6_read 68 = .ok (.iload_n 2, 1) := by decide +kernel
theorem dX6_read_69 : decode cX6_read 69 = .ok (.putfield 59, 3) := by decide +kernel
theorem dX6_read_72 : decode cX6_read 72 = .ok (.goto 22, 3) := by decide +kernel
theorem dX6_read_75 : decode cX6_read 75 = .ok (.aload_n 0, 1) := by decide +kernel
theorem dX6_read_76 : decode cX6_read 76 = .ok (.getfield 10, 3) := by decide +kernel
theorem dX6_read_79 : decode cX6_read 79 = .ok (.getfield 72, 3) := by decide +kernel
theorem dX6_read_82 : decode cX6_read 82 = .ok (.iload_n 1, 1) := by decide +kernel
theorem dX6_read_83 : decode cX6_read 83 = .ok (.aaload, 1) := by decide +kernel
theorem dX6_read_84 : decode cX6_read 84 = .ok (.aload_n 0, 1) := by decide +kernel
theorem dX6_read_85 : decode cX6_read 85 = .ok (.getfield 22, 3) := by decide +kernel
theorem dX6_read_88 : decode cX6_read 88 = .ok (.getfield 82, 3) := by decide +kernel
theorem dX6_read_91 : decode cX6_read 91 = .ok (.invokevirtual 86, 3) := by decide +kernel
theorem dX6_read_94 : decode cX6_read 94 = .ok (.aload_n 0, 1) := by decide +kernel
theorem dX6_read_95 : decode cX6_read 95 = .ok (.getfield 36, 3) := by decide +kernel
theorem dX6_read_98 : decode cX6_read 98 = .ok (.iconst 0, 1) := by decide +kernel
theorem dX6_read_99 : decode cX6_read 99 = .ok (.putfield 218, 3) := by decide +kernel
theorem dX6_read_102 : decode cX6_read 102 = .ok (.iload_n 3, 1) := by decide +kernel
theorem dX6_read_103 : decode cX6_read 103 = .ok (.ifCond .ne 7, 3) := by decide +kernel
theorem dX6_read_106 : decode cX6_read 106 = .ok (.iconst 1, 1) := by decide +kernel
theorem dX6_read_107 : decode cX6_read 107 = .ok (.goto 7, 3) := by decide +kernel
theorem dX6_read_110 : decode cX6_read 110 = .ok (.bipush (-10), 2) := by decide +kernel
theorem dX6_read_112 : decode cX6_read 112 = .ok (.iload_n 3, 1) := by decide +kernel
theorem dX6_read_113 : decode cX6_read 113 = .ok (.isub, 1) := by decide +kernel
theorem dX6_read_114 : decode cX6_read 114 = .ok (.ireturn, 1) := by decide +kernel
theorem dX6_place_0 : decode cX6_place 0 = .ok (.aload_n 0, 1) := by decide +kernel
theorem dX6_place_1 : decode cX6_place 1 = .ok (.getfield 59, 3) := by decide +kernel
theorem dX6_place_4 : decode cX6_place 4 = .ok (.ireturn, 1) := by decide +kernel
theorem dX6_fee_0 : decode cX6_fee 0 = .ok (.iload_n 1, 1) := by decide +kernel
theorem dX6_fee_1 : decode cX6_fee 1 = .ok (.invokestatic 226, 3) := by decide +kernel
theorem dX6_fee_4 : decode cX6_fee 4 = .ok (.ifCond .eq 18, 3) := by decide +kernel
theorem dX6_fee_7 : decode cX6_fee 7 = .ok (.iload_n 2, 1) := by decide +kernel
theorem dX6_fee_8 : decode cX6_fee 8 = .ok (.ifCond .lt 14, 3) := by decide +kernel
theorem dX6_fee_11 : decode cX6_fee 11 = .ok (.iload_n 2, 1) := by decide +kernel
theorem dX6_fee_12 : decode cX6_fee 12 = .ok (.iload_n 3, 1) := by decide +kernel
theorem dX6_fee_13 : decode cX6_fee 13 = .ok (.if_icmp .ge 9, 3) := by decide +kernel
theorem dX6_fee_16 : decode cX6_fee 16 = .ok (.iload_n 3, 1) := by decide +kernel
theorem dX6_fee_17 : decode cX6_fee 17 = .ok (.ldc 229, 2) := by decide +kernel
theorem dX6_fee_19 : decode cX6_fee 19 = .ok (.if_icmp .le 5, 3) := by decide +kernel
theorem dX6_fee_22 : decode cX6_fee 22 = .ok (.iconst (-1), 1) := by decide +kernel
theorem dX6_fee_23 : decode cX6_fee 23 = .ok (.ireturn, 1) := by decide +kernel
theorem dX6_fee_24 : decode cX6_fee 24 = .ok (.aload_n 0, 1) := by decide +kernel
theorem dX6_fee_25 : decode cX6_fee 25 = .ok (.getfield 10, 3) := by decide +kernel
theorem dX6_fee_28 : decode cX6_fee 28 = .ok (.getfield 230, 3) := by decide +kernel
theorem dX6_fee_31 : decode cX6_fee 31 = .ok (.iload_n 1, 1) := by decide +kernel
theorem dX6_fee_32 : decode cX6_fee 32 = .ok (.aaload, 1) := by decide +kernel
theorem dX6_fee_33 : decode cX6_fee 33 = .ok (.invokevirtual 234, 3) := by decide +kernel
theorem dX6_fee_36 : decode cX6_fee 36 = .ok (.istore 4, 2) := by decide +kernel
theorem dX6_fee_38 : decode cX6_fee 38 = .ok (.aload_n 0, 1) := by decide +kernel
theorem dX6_fee_39 : decode cX6_fee 39 = .ok (.getfield 10, 3) := by decide +kernel
theorem dX6_fee_42 : decode cX6_fee 42 = .ok (.getfield 230, 3) := by decide +kernel
theorem dX6_fee_45 : decode cX6_fee 45 = .ok (.iload_n 1, 1) := by decide +kernel
theorem dX6_fee_46 : decode cX6_fee 46 = .ok (.aaload, 1) := by decide +kernel
theorem dX6_fee_47 : decode cX6_fee 47 = .ok (.iload_n 2, 1) := by decide +kernel
theorem dX6_fee_48 : decode cX6_fee 48 = .ok (.iload_n 3, 1) := by decide +kernel
theorem dX6_fee_49 : decode cX6_fee 49 = .ok (.invokevirtual 239, 3) := by decide +kernel
theorem dX6_fee_52 : decode cX6_fee 52 = .ok (.iload 4, 2) := by decide +kernel
theorem dX6_fee_54 : decode cX6_fee 54 = .ok (.ifCond .eq 7, 3) := by decide +kernel
theorem dX6_fee_57 : decode cX6_fee 57 = .ok (.iconst 1, 1) := by decide +kernel
theorem dX6_fee_58 : decode cX6_fee 58 = .ok (.goto 4, 3) := by decide +kernel
theorem dX6_fee_61 : decode cX6_fee 61 = .ok (.iconst 0, 1) := by decide +kernel
theorem dX6_fee_62 : decode cX6_fee 62 = .ok (.ireturn, 1) := by decide +kernel
theorem dX6_join_0 : decode cX6_join 0 = .ok (.iload_n 1, 1) := by decide +kernel
theorem dX6_join_1 : decode cX6_join 1 = .ok (.invokestatic 226, 3) := by decide +kernel
theorem dX6_join_4 : decode cX6_join 4 = .ok (.ifCond .eq 13, 3) := by decide +kernel
theorem dX6_join_7 : decode cX6_join 7 = .ok (.iload 4, 2) := by decide +kernel
theorem dX6_join_9 : decode cX6_join 9 = .ok (.iload_n 2, 1) := by decide +kernel
theorem dX6_join_10 : decode cX6_join 10 = .ok (.iload_n 3, 1) := by decide +kernel
theorem dX6_join_11 : decode cX6_join 11 = .ok (.invokestatic 106, 3) := by decide +kernel
theorem dX6_join_14 : decode cX6_join 14 = .ok (.ifCond .ne 5, 3) := by decide +kernel
