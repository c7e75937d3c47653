theorem dX7_take_23 : decode cX7_take 23 = .ok (.aload_n 0, 1) := by decide +kernel
theorem dX7_take_24 : decode cX7_take 24 = .ok (.iload_n 2, 1) := by decide +kernel
theorem dX7_take_25 : decode cX7_take 25 = .ok (.iload_n 3, 1) := by decide +kernel
theorem dX7_take_26 : decode cX7_take 26 = .ok (.invokevirtual 76, 3) := by decide +kernel
theorem dX7_take_29 : decode cX7_take 29 = .ok (.ifCond .ge 6, 3) := by decide +kernel
theorem dX7_take_32 : decode cX7_take 32 = .ok (.bipush (-3), 2) := by decide +kernel
theorem dX7_take_34 : decode cX7_take 34 = .ok (.ireturn, 1) := by decide +kernel
theorem dX7_take_35 : decode cX7_take 35 = .ok (.aload_n 0, 1) := by decide +kernel
theorem dX7_take_36 : decode cX7_take 36 = .ok (.iload_n 1, 1) := by decide +kernel
theorem dX7_take_37 : decode cX7_take 37 = .ok (.iload_n 2, 1) := by decide +kernel
theorem dX7_take_38 : decode cX7_take 38 = .ok (.iload_n 3, 1) := by decide +kernel
theorem dX7_take_39 : decode cX7_take 39 = .ok (.invokevirtual 80, 3) := by decide +kernel
theorem dX7_take_42 : decode cX7_take 42 = .ok (.iconst 1, 1) := by decide +kernel
theorem dX7_take_43 : decode cX7_take 43 = .ok (.ireturn, 1) := by decide +kernel
theorem dX7_rounds_0 : decode cX7_rounds 0 = .ok (.aload_n 0, 1) := by decide +kernel
theorem dX7_rounds_1 : decode cX7_rounds 1 = .ok (.bipush 28, 2) := by decide +kernel
theorem dX7_rounds_3 : decode cX7_rounds 3 = .ok (.bipush 33, 2) := by decide +kernel
theorem dX7_rounds_5 : decode cX7_rounds 5 = .ok (.bipush 33, 2) := by decide +kernel
theorem dX7_rounds_7 : decode cX7_rounds 7 = .ok (.invokevirtual 66, 3) := by decide +kernel
theorem dX7_rounds_10 : decode cX7_rounds 10 = .ok (.aload_n 0, 1) := by decide +kernel
theorem dX7_rounds_11 : decode cX7_rounds 11 = .ok (.bipush 28, 2) := by decide +kernel
theorem dX7_rounds_13 : decode cX7_rounds 13 = .ok (.iload_n 1, 1) := by decide +kernel
theorem dX7_rounds_14 : decode cX7_rounds 14 = .ok (.invokevirtual 76, 3) := by decide +kernel
theorem dX7_rounds_17 : decode cX7_rounds 17 = .ok (.istore_n 3, 1) := by decide +kernel
theorem dX7_rounds_18 : decode cX7_rounds 18 = .ok (.aload_n 0, 1) := by decide +kernel
theorem dX7_rounds_19 : decode cX7_rounds 19 = .ok (.getfield 7, 3) := by decide +kernel
theorem dX7_rounds_22 : decode cX7_rounds 22 = .ok (.sipush 384, 3) := by decide +kernel
theorem dX7_rounds_25 : decode cX7_rounds 25 = .ok (.laload, 1) := by decide +kernel
theorem dX7_rounds_26 : decode cX7_rounds 26 = .ok (.lconst 1, 1) := by decide +kernel
theorem dX7_rounds_27 : decode cX7_rounds 27 = .ok (.land, 1) := by decide +kernel
theorem dX7_rounds_28 : decode cX7_rounds 28 = .ok (.lconst 1, 1) := by decide +kernel
theorem dX7_rounds_29 : decode cX7_rounds 29 = .ok (.lcmp, 1) := by decide +kernel
theorem dX7_rounds_30 : decode cX7_rounds 30 = .ok (.ifCond .ne 7, 3) := by decide +kernel
theorem dX7_rounds_33 : decode cX7_rounds 33 = .ok (.iconst 1, 1) := by decide +kernel
theorem dX7_rounds_34 : decode cX7_rounds 34 = .ok (.goto 4, 3) := by decide +kernel
theorem dX7_rounds_37 : decode cX7_rounds 37 = .ok (.iconst 0, 1) := by decide +kernel
theorem dX7_rounds_38 : decode cX7_rounds 38 = .ok (.istore 4, 2) := by decide +kernel
theorem dX7_rounds_40 : decode cX7_rounds 40 = .ok (.iload_n 2, 1) := by decide +kernel
theorem dX7_rounds_41 : decode cX7_rounds 41 = .ok (.iconst 1, 1) := by decide +kernel
theorem dX7_rounds_42 : decode cX7_rounds 42 = .ok (.if_icmp .ne 20, 3) := by decide +kernel
theorem dX7_rounds_45 : decode cX7_rounds 45 = .ok (.aload_n 0, 1) := by decide +kernel
theorem dX7_rounds_46 : decode cX7_rounds 46 = .ok (.bipush 33, 2) := by decide +kernel
theorem dX7_rounds_48 : decode cX7_rounds 48 = .ok (.invokevirtual 99, 3) := by decide +kernel
theorem dX7_rounds_51 : decode cX7_rounds 51 = .ok (.ifCond .ne 7, 3) := by decide +kernel
theorem dX7_rounds_54 : decode cX7_rounds 54 = .ok (.iconst 1, 1) := by decide +kernel
theorem dX7_rounds_55 : decode cX7_rounds 55 = .ok (.goto 64, 3) := by decide +kernel
theorem dX7_rounds_58 : decode cX7_rounds 58 = .ok (.iconst 0, 1) := by decide +kernel
theorem dX7_rounds_59 : decode cX7_rounds 59 = .ok (.goto 60, 3) := by decide +kernel
theorem dX7_rounds_62 : decode cX7_rounds 62 = .ok (.iload_n 2, 1) := by decide +kernel
theorem dX7_rounds_63 : decode cX7_rounds 63 = .ok (.iconst 2, 1) := by decide +kernel
theorem dX7_rounds_64 : decode cX7_rounds 64 = .ok (.if_icmp .ne 15, 3) := by decide +kernel
theorem dX7_rounds_67 : decode cX7_rounds 67 = .ok (.iload_n 3, 1) := by decide +kernel
theorem dX7_rounds_68 : decode cX7_rounds 68 = .ok (.ifCond .lt 7, 3) := by decide +kernel
theorem dX7_rounds_71 : decode cX7_rounds 71 = .ok (.iconst 1, 1) := by decide +kernel
theorem dX7_rounds_72 : decode cX7_rounds 72 = .ok (.goto 47, 3) := by decide +kernel
theorem dX7_rounds_75 : decode cX7_rounds 75 = .ok (.iconst 0, 1) := by decide +kernel
theorem dX7_rounds_76 : decode cX7_rounds 76 = .ok (.goto 43, 3) := by decide +kernel
theorem dX7_rounds_79 : decode cX7_rounds 79 = .ok (.iload_n 2, 1) := by decide +kernel
theorem dX7_rounds_80 : decode cX7_rounds 80 = .ok (.iconst 3, 1) := by decide +kernel
theorem dX7_rounds_81 : decode cX7_rounds 81 = .ok (.if_icmp .ne 15, 3) := by decide +kernel
theorem dX7_rounds_84 : decode cX7_rounds 84 = .ok (.iload_n 3, 1) := by decide +kernel
theorem dX7_rounds_85 : decode cX7_rounds 85 = .ok (.ifCond .le 7, 3) := by decide +kernel
theorem dX7_rounds_88 : decode cX7_rounds 88 = .ok (.iconst 1, 1) := by decide +kernel
theorem dX7_rounds_89 : decode cX7_rounds 89 = .ok (.goto 30, 3) := by decide +kernel
theorem dX7_rounds_92 : decode cX7_rounds 92 = .ok (.iconst 0, 1) := by decide +kernel
theorem dX7_rounds_93 : decode cX7_rounds 93 = .ok (.goto 26, 3) := by decide +kernel
theorem dX7_rounds_96 : decode cX7_rounds 96 = .ok (.iload_n 2, 1) := by decide +kernel
theorem dX7_rounds_97 : decode cX7_rounds 97 = .ok (.iconst 4, 1) := by decide +kernel
theorem dX7_rounds_98 : decode cX7_rounds 98 = .ok (.if_icmp .ne 20, 3) := by decide +kernel
theorem dX7_rounds_101 : decode cX7_rounds 101 = .ok (.iload_n 3, 1) := by decide +kernel
theorem dX7_rounds_102 : decode cX7_rounds 102 = .ok (.ifCond .gt 12, 3) := by decide +kernel
theorem dX7_rounds_105 : decode cX7_rounds 105 = .ok (.iload_n 3, 1) := by decide +kernel
theorem dX7_rounds_106 : decode cX7_rounds 106 = .ok (.ifCond .ne 12, 3) := by decide +kernel
theorem dX7_rounds_109 : decode cX7_rounds 109 = .ok (.iload 4, 2) := by decide +kernel
theorem dX7_rounds_111 : decode cX7_rounds 111 = .ok (.ifCond .eq 7, 3) := by decide +kernel
theorem dX7_rounds_114 : decode cX7_rounds 114 = .ok (.iconst 1, 1) := by decide +kernel
theorem dX7_rounds_115 : decode cX7_rounds 115 = .ok (.goto 4, 3) := by decide +kernel
theorem dX7_rounds_118 : decode cX7_rounds 118 = .ok (.iconst 0, 1) := by decide +kernel
theorem dX7_rounds_119 : decode cX7_rounds 119 = .ok (.istore 5, 2) := by decide +kernel
theorem dX7_rounds_121 : decode cX7_rounds 121 = .ok (.iload 5, 2) := by decide +kernel
theorem dX7_rounds_123 : decode cX7_rounds 123 = .ok (.ifCond .eq 9, 3) := by decide +kernel
theorem dX7_rounds_126 : decode cX7_rounds 126 = .ok (.aload_n 0, 1) := by decide +kernel
theorem dX7_rounds_127 : decode cX7_rounds 127 = .ok (.bipush 32, 2) := by decide +kernel
theorem dX7_rounds_129 : decode cX7_rounds 129 = .ok (.invokevirtual 102, 3) := by decide +kernel
theorem dX7_rounds_132 : decode cX7_rounds 132 = .ok (.return_, 1) := by decide +kernel
theorem dX7_times_0 : decode cX7_times 0 = .ok (.aload_n 0, 1) := by decide +kernel
theorem dX7_times_1 : decode cX7_times 1 = .ok (.iconst 0, 1) := by decide +kernel
theorem dX7_times_2 : decode cX7_times 2 = .ok (.putfield 51, 3) := by decide +kernel
theorem dX7_times_5 : decode cX7_times 5 = .ok (.iload_n 1, 1) := by decide +kernel
theorem dX7_times_6 : decode cX7_times 6 = .ok (.invokestatic 85, 3) := by decide +kernel
theorem dX7_times_9 : decode cX7_times 9 = .ok (.ifCond .eq 36, 3) := by decide +kernel
theorem dX7_times_12 : decode cX7_times 12 = .ok (.iload_n 2, 1) := by decide +kernel
theorem dX7_times_13 : decode cX7_times 13 = .ok (.invokestatic 85, 3) := by decide +kernel
theorem dX7_times_16 : decode cX7_times 16 = .ok (.ifCond .eq 29, 3) := by decide +kernel
theorem dX7_times_19 : decode cX7_times 19 = .ok (.lload_n 3, 1) := by decide +kernel
theorem dX7_times_20 : decode cX7_times 20 = .ok (.lconst 0, 1) := by decide +kernel
theorem dX7_times_21 : decode cX7_times 21 = .ok (.lcmp, 1) := by decide +kernel
theorem dX7_times_22 : decode cX7_times 22 = .ok (.ifCond .lt 23, 3) := by decide +kernel
theorem dX7_times_25 : decode cX7_times 25 = .ok (.lload 5, 2) := by decide +kernel
theorem dX7_times_27 : decode cX7_times 27 = .ok (.lconst 0, 1) := by decide +kernel
theorem dX7_times_28 : decode cX7_times 28 = .ok (.lcmp, 1) := by decide +kernel
theorem dX7_times_29 : decode cX7_times 29 = .ok (.ifCond .lt 16, 3) := by decide +kernel
theorem dX7_times_32 : decode cX7_times 32 = .ok (.iload 7, 2) := by decide +kernel
theorem dX7_times_34 : decode cX7_times 34 = .ok (.i2l, 1) := by decide +kernel
theorem dX7_times_35 : decode cX7_times 35 = .ok (.lconst 0, 1) := by decide +kernel
theorem dX7_times_36 : decode cX7_times 36 = .ok (.ldc2_w 106, 3) := by decide +kernel
theorem dX7_times_39 : decode cX7_times 39 = .ok (.invokestatic 56, 3) := by decide +kernel
theorem dX7_times_42 : decode cX7_times 42 = .ok (.ifCond .ne 5, 3) := by decide +kernel
theorem dX7_times_45 : decode cX7_times 45 = .ok (.iconst (-1), 1) := by decide +kernel
theorem dX7_times_46 : decode cX7_times 46 = .ok (.ireturn, 1) := by decide +kernel
theorem dX7_times_47 : decode cX7_times 47 = .ok (.aload_n 0, 1) := by decide +kernel
theorem dX7_times_48 : decode cX7_times 48 = .ok (.lload 5, 2) := by decide +kernel
theorem dX7_times_50 : decode cX7_times 50 = .ok (.lconst 0, 1) := by decide +kernel
theorem dX7_times_51 : decode cX7_times 51 = .ok (.lcmp, 1) := by decide +kernel
theorem dX7_times_52 : decode cX7_times 52 = .ok (.ifCond .ne 7, 3) := by decide +kernel
theorem dX7_times_55 : decode cX7_times 55 = .ok (.iconst 1, 1) := by decide +kernel
theorem dX7_times_56 : decode cX7_times 56 = .ok (.goto 4, 3) := by decide +kernel
theorem dX7_times_59 : decode cX7_times 59 = .ok (.iconst 0, 1) := by decide +kernel
theorem dX7_times_60 : decode cX7_times 60 = .ok (.putfield 51, 3) := by decide +kernel
theorem dX7_times_63 : decode cX7_times 63 = .ok (.aload_n 0, 1) := by decide +kernel
theorem dX7_times_64 : decode cX7_times 64 = .ok (.getfield 51, 3) := by decide +kernel
theorem dX7_times_67 : decode cX7_times 67 = .ok (.ifCond .le 5, 3) := by decide +kernel
theorem dX7_times_70 : decode cX7_times 70 = .ok (.iconst 0, 1) := by decide +kernel
theorem dX7_times_71 : decode cX7_times 71 = .ok (.ireturn, 1) := by decide +kernel
theorem dX7_times_72 : decode cX7_times 72 = .ok (.aload_n 0, 1) := by decide +kernel
theorem dX7_times_73 : decode cX7_times 73 = .ok (.bipush 29, 2) := by decide +kernel
theorem dX7_times_75 : decode cX7_times 75 = .ok (.lload_n 3, 1) := by decide +kernel
theorem dX7_times_76 : decode cX7_times 76 = .ok (.invokevirtual 62, 3) := by decide +kernel
theorem dX7_times_79 : decode cX7_times 79 = .ok (.aload_n 0, 1) := by decide +kernel
theorem dX7_times_80 : decode cX7_times 80 = .ok (.bipush 30, 2) := by decide +kernel
theorem dX7_times_82 : decode cX7_times 82 = .ok (.iload_n 2, 1) := by decide +kernel
theorem dX7_times_83 : decode cX7_times 83 = .ok (.bipush 29, 2) := by decide +kernel
theorem dX7_times_85 : decode cX7_times 85 = .ok (.invokevirtual 108, 3) := by decide +kernel
theorem dX7_times_88 : decode cX7_times 88 = .ok (.aload_n 0, 1) := by decide +kernel
theorem dX7_times_89 : decode cX7_times 89 = .ok (.bipush 29, 2) := by decide +kernel
theorem dX7_times_91 : decode cX7_times 91 = .ok (.lload 5, 2) := by decide +kernel
theorem dX7_times_93 : decode cX7_times 93 = .ok (.invokevirtual 62, 3) := by decide +kernel
theorem dX7_times_96 : decode cX7_times 96 = .ok (.aload_n 0, 1) := by decide +kernel
theorem dX7_times_97 : decode cX7_times 97 = .ok (.bipush 30, 2) := by decide +kernel
theorem dX7_times_99 : decode cX7_times 99 = .ok (.bipush 29, 2) := by decide +kernel
theorem dX7_times_101 : decode cX7_times 101 = .ok (.invokevirtual 111, 3) := by decide +kernel
theorem dX7_times_104 : decode cX7_times 104 = .ok (.aload_n 0, 1) := by decide +kernel
theorem dX7_times_105 : decode cX7_times 105 = .ok (.bipush 29, 2) := by decide +kernel
theorem dX7_times_107 : decode cX7_times 107 = .ok (.iload 7, 2) := by decide +kernel
theorem dX7_times_109 : decode cX7_times 109 = .ok (.invokevirtual 114, 3) := by decide +kernel
theorem dX7_times_112 : decode cX7_times 112 = .ok (.aload_n 0, 1) := by decide +kernel
theorem dX7_times_113 : decode cX7_times 113 = .ok (.iload_n 1, 1) := by decide +kernel
theorem dX7_times_114 : decode cX7_times 114 = .ok (.bipush 32, 2) := by decide +kernel
theorem dX7_times_116 : decode cX7_times 116 = .ok (.invokevirtual 96, 3) := by decide +kernel
theorem dX7_times_119 : decode cX7_times 119 = .ok (.ireturn, 1) := by decide +kernel
theorem dX7_ten_0 : decode cX7_ten 0 = .ok (.lconst 1, 1) := by decide +kernel
theorem dX7_ten_1 : decode cX7_ten 1 = .ok (.lstore_n 1, 1) := by decide +kernel
theorem dX7_ten_2 : decode cX7_ten 2 = .ok (.iconst 0, 1) := by decide +kernel
theorem dX7_ten_3 : decode cX7_ten 3 = .ok (.istore_n 3, 1) := by decide +kernel
theorem dX7_ten_4 : decode cX7_ten 4 = .ok (.iload_n 3, 1) := by decide +kernel
theorem dX7_ten_5 : decode cX7_ten 5 = .ok (.iload_n 0, 1) := by decide +kernel
theorem dX7_ten_6 : decode cX7_ten 6 = .ok (.if_icmp .ge 15, 3) := by decide +kernel
theorem dX7_ten_9 : decode cX7_ten 9 = .ok (.lload_n 1, 1) := by decide +kernel
theorem dX7_ten_10 : decode cX7_ten 10 = .ok (.ldc2_w 117, 3) := by decide +kernel
theorem dX7_ten_13 : decode cX7_ten 13 = .ok (.lmul, 1) := by decide +kernel
theorem dX7_ten_14 : decode cX7_ten 14 = .ok (.lstore_n 1, 1) := by decide +kernel
theorem dX7_ten_15 : decode cX7_ten 15 = .ok (.iinc 3 1, 3) := by decide +kernel
theorem dX7_ten_18 : decode cX7_ten 18 = .ok (.goto (-14), 3) := by decide +kernel
theorem dX7_ten_21 : decode cX7_ten 21 = .ok (.lload_n 1, 1) := by decide +kernel
theorem dX7_ten_22 : decode cX7_ten 22 = .ok (.lreturn, 1) := by decide +kernel
theorem dX7_round_0 : decode cX7_round 0 = .ok (.iload_n 1, 1) := by decide +kernel
theorem dX7_round_1 : decode cX7_round 1 = .ok (.invokestatic 85, 3) := by decide +kernel
theorem dX7_round_4 : decode cX7_round 4 = .ok (.ifCond .eq 35, 3) := by decide +kernel
theorem dX7_round_7 : decode cX7_round 7 = .ok (.iload_n 2, 1) := by decide +kernel
theorem dX7_round_8 : decode cX7_round 8 = .ok (.invokestatic 85, 3) := by decide +kernel
theorem dX7_round_11 : decode cX7_round 11 = .ok (.ifCond .eq 28, 3) := by decide +kernel
theorem dX7_round_14 : decode cX7_round 14 = .ok (.iload_n 3, 1) := by decide +kernel
theorem dX7_round_15 : decode cX7_round 15 = .ok (.i2l, 1) := by decide +kernel
theorem dX7_round_16 : decode cX7_round 16 = .ok (.lconst 0, 1) := by decide +kernel
theorem dX7_round_17 : decode cX7_round 17 = .ok (.ldc2_w 119, 3) := by decide +kernel
theorem dX7_round_20 : decode cX7_round 20 = .ok (.invokestatic 56, 3) := by decide +kernel
theorem dX7_round_23 : decode cX7_round 23 = .ok (.ifCond .eq 16, 3) := by decide +kernel
theorem dX7_round_26 : decode cX7_round 26 = .ok (.iload 4, 2) := by decide +kernel
theorem dX7_round_28 : decode cX7_round 28 = .ok (.i2l, 1) := by decide +kernel
theorem dX7_round_29 : decode cX7_round 29 = .ok (.lconst 0, 1) := by decide +kernel
theorem dX7_round_30 : decode cX7_round 30 = .ok (.ldc2_w 106, 3) := by decide +kernel
theorem dX7_round_33 : decode cX7_round 33 = .ok (.invokestatic 56, 3) := by decide +kernel
theorem dX7_round_36 : decode cX7_round 36 = .ok (.ifCond .ne 5, 3) := by decide +kernel
theorem dX7_round_39 : decode cX7_round 39 = .ok (.iconst (-1), 1) := by decide +kernel
theorem dX7_round_40 : decode cX7_round 40 = .ok (.ireturn, 1) := by decide +kernel
theorem dX7_round_41 : decode cX7_round 41 = .ok (.aload_n 0, 1) := by decide +kernel
theorem dX7_round_42 : decode cX7_round 42 = .ok (.bipush 29, 2) := by decide +kernel
theorem dX7_round_44 : decode cX7_round 44 = .ok (.iload_n 3, 1) := by decide +kernel
theorem dX7_round_45 : decode cX7_round 45 = .ok (.invokestatic 121, 3) := by decide +kernel
theorem dX7_round_48 : decode cX7_round 48 = .ok (.invokevirtual 62, 3) := by decide +kernel
theorem dX7_round_51 : decode cX7_round 51 = .ok (.aload_n 0, 1) := by decide +kernel
theorem dX7_round_52 : decode cX7_round 52 = .ok (.iload_n 2, 1) := by decide +kernel
theorem dX7_round_53 : decode cX7_round 53 = .ok (.bipush 29, 2) := by decide +kernel
theorem dX7_round_55 : decode cX7_round 55 = .ok (.invokevirtual 111, 3) := by decide +kernel
theorem dX7_round_58 : decode cX7_round 58 = .ok (.aload_n 0, 1) := by decide +kernel
theorem dX7_round_59 : decode cX7_round 59 = .ok (.bipush 29, 2) := by decide +kernel
theorem dX7_round_61 : decode cX7_round 61 = .ok (.iload 4, 2) := by decide +kernel
theorem dX7_round_63 : decode cX7_round 63 = .ok (.invokevirtual 114, 3) := by decide +kernel
theorem dX7_round_66 : decode cX7_round 66 = .ok (.aload_n 0, 1) := by decide +kernel
theorem dX7_round_67 : decode cX7_round 67 = .ok (.bipush 30, 2) := by decide +kernel
theorem dX7_round_69 : decode cX7_round 69 = .ok (.bipush 32, 2) := by decide +kernel
theorem dX7_round_71 : decode cX7_round 71 = .ok (.bipush 29, 2) := by decide +kernel
theorem dX7_round_73 : decode cX7_round 73 = .ok (.invokevirtual 108, 3) := by decide +kernel
theorem dX7_round_76 : decode cX7_round 76 = .ok (.aload_n 0, 1) := by decide +kernel
theorem dX7_round_77 : decode cX7_round 77 = .ok (.iload_n 1, 1) := by decide +kernel
theorem dX7_round_78 : decode cX7_round 78 = .ok (.bipush 30, 2) := by decide +kernel
theorem dX7_round_80 : decode cX7_round 80 = .ok (.invokevirtual 96, 3) := by decide +kernel
theorem dX7_round_83 : decode cX7_round 83 = .ok (.ireturn, 1) := by decide +kernel
theorem dX7_divide_0 : decode cX7_divide 0 = .ok (.aload_n 0, 1) := by decide +kernel
theorem dX7_divide_1 : decode cX7_divide 1 = .ok (.iconst 0, 1) := by decide +kernel
theorem dX7_divide_2 : decode cX7_divide 2 = .ok (.putfield 51, 3) := by decide +kernel
theorem dX7_divide_5 : decode cX7_divide 5 = .ok (.iload_n 1, 1) := by decide +kernel
theorem dX7_divide_6 : decode cX7_divide 6 = .ok (.invokestatic 85, 3) := by decide +kernel
theorem dX7_divide_9 : decode cX7_divide 9 = .ok (.ifCond .eq 17, 3) := by decide +kernel
theorem dX7_divide_12 : decode cX7_divide 12 = .ok (.iload_n 2, 1) := by decide +kernel
theorem dX7_divide_13 : decode cX7_divide 13 = .ok (.invokestatic 85, 3) := by decide +kernel
theorem dX7_divide_16 : decode cX7_divide 16 = .ok (.ifCond .eq 10, 3) := by decide +kernel
theorem dX7_divide_19 : decode cX7_divide 19 = .ok (.iload_n 3, 1) := by decide +kernel
theorem dX7_divide_20 : decode cX7_divide 20 = .ok (.invokestatic 85, 3) := by decide +kernel
theorem dX7_divide_23 : decode cX7_divide 23 = .ok (.ifCond .ne 5, 3) := by decide +kernel
theorem dX7_divide_26 : decode cX7_divide 26 = .ok (.iconst (-1), 1) := by decide +kernel
theorem dX7_divide_27 : decode cX7_divide 27 = .ok (.ireturn, 1) := by decide +kernel
theorem dX7_divide_28 : decode cX7_divide 28 = .ok (.aload_n 0, 1) := by decide +kernel
theorem dX7_divide_29 : decode cX7_divide 29 = .ok (.aload_n 0, 1) := by decide +kernel
theorem dX7_divide_30 : decode cX7_divide 30 = .ok (.iload_n 3, 1) := by decide +kernel
theorem dX7_divide_31 : decode cX7_divide 31 = .ok (.invokevirtual 99, 3) := by decide +kernel
theorem dX7_divide_34 : decode cX7_divide 34 = .ok (.ifCond .eq 7, 3) := by decide +kernel
theorem dX7_divide_37 : decode cX7_divide 37 = .ok (.iconst 1, 1) := by decide +kernel
theorem dX7_divide_38 : decode cX7_divide 38 = .ok (.goto 4, 3) := by decide +kernel
theorem dX7_divide_41 : decode cX7_divide 41 = .ok (.iconst 0, 1) := by decide +kernel
theorem dX7_divide_42 : decode cX7_divide 42 = .ok (.putfield 51, 3) := by decide +kernel
theorem dX7_divide_45 : decode cX7_divide 45 = .ok (.aload_n 0, 1) := by decide +kernel
theorem dX7_divide_46 : decode cX7_divide 46 = .ok (.getfield 51, 3) := by decide +kernel
theorem dX7_divide_49 : decode cX7_divide 49 = .ok (.ifCond .le 5, 3) := by decide +kernel
theorem dX7_divide_52 : decode cX7_divide 52 = .ok (.iconst 0, 1) := by decide +kernel
theorem dX7_divide_53 : decode cX7_divide 53 = .ok (.ireturn, 1) := by decide +kernel
theorem dX7_divide_54 : decode cX7_divide 54 = .ok (.aload_n 0, 1) := by decide +kernel
theorem dX7_divide_55 : decode cX7_divide 55 = .ok (.iload_n 2, 1) := by decide +kernel
theorem dX7_divide_56 : decode cX7_divide 56 = .ok (.iload_n 3, 1) := by decide +kernel
theorem dX7_divide_57 : decode cX7_divide 57 = .ok (.invokevirtual 111, 3) := by decide +kernel
theorem dX7_divide_60 : decode cX7_divide 60 = .ok (.aload_n 0, 1) := by decide +kernel
theorem dX7_divide_61 : decode cX7_divide 61 = .ok (.iload_n 1, 1) := by decide +kernel
theorem dX7_divide_62 : decode cX7_divide 62 = .ok (.bipush 32, 2) := by decide +kernel
theorem dX7_divide_64 : decode cX7_divide 64 = .ok (.invokevirtual 72, 3) := by decide +kernel
theorem dX7_divide_67 : decode cX7_divide 67 = .ok (.iconst 1, 1) := by decide +kernel
theorem dX7_divide_68 : decode cX7_divide 68 = .ok (.ireturn, 1) := by decide +kernel
theorem dX7_order_0 : decode cX7_order 0 = .ok (.iload_n 1, 1) := by decide +kernel
theorem dX7_order_1 : decode cX7_order 1 = .ok (.invokestatic 85, 3) := by decide +kernel
theorem dX7_order_4 : decode cX7_order 4 = .ok (.ifCond .eq 21, 3) := by decide +kernel
theorem dX7_order_7 : decode cX7_order 7 = .ok (.iload_n 2, 1) := by decide +kernel
theorem dX7_order_8 : decode cX7_order 8 = .ok (.invokestatic 85, 3) := by decide +kernel
theorem dX7_order_11 : decode cX7_order 11 = .ok (.ifCond .eq 14, 3) := by decide +kernel
theorem dX7_order_14 : decode cX7_order 14 = .ok (.iconst 1, 1) := by decide +kernel
theorem dX7_order_15 : decode cX7_order 15 = .ok (.aload_n 0, 1) := by decide +kernel
theorem dX7_order_16 : decode cX7_order 16 = .ok (.iload_n 1, 1) := by decide +kernel
theorem dX7_order_17 : decode cX7_order 17 = .ok (.iload_n 2, 1) := by decide +kernel
theorem dX7_order_18 : decode cX7_order 18 = .ok (.invokevirtual 76, 3) := by decide +kernel
theorem dX7_order_21 : decode cX7_order 21 = .ok (.iadd, 1) := by decide +kernel
theorem dX7_order_22 : decode cX7_order 22 = .ok (.goto 4, 3) := by decide +kernel
theorem dX7_order_25 : decode cX7_order 25 = .ok (.iconst (-1), 1) := by decide +kernel
theorem dX7_order_26 : decode cX7_order 26 = .ok (.ireturn, 1) := by decide +kernel
theorem dX7_weight_0 : decode cX7_weight 0 = .ok (.iload_n 1, 1) := by decide +kernel
theorem dX7_weight_1 : decode cX7_weight 1 = .ok (.i2l, 1) := by decide +kernel
theorem dX7_weight_2 : decode cX7_weight 2 = .ok (.lconst 0, 1) := by decide +kernel
theorem dX7_weight_3 : decode cX7_weight 3 = .ok (.ldc2_w 125, 3) := by decide +kernel
theorem dX7_weight_6 : decode cX7_weight 6 = .ok (.invokestatic 56, 3) := by decide +kernel
theorem dX7_weight_9 : decode cX7_weight 9 = .ok (.ifCond .eq 14, 3) := by decide +kernel
theorem dX7_weight_12 : decode cX7_weight 12 = .ok (.lload_n 2, 1) := by decide +kernel
theorem dX7_weight_13 : decode cX7_weight 13 = .ok (.lconst 0, 1) := by decide +kernel
theorem dX7_weight_14 : decode cX7_weight 14 = .ok (.ldc2_w 127, 3) := by decide +kernel
theorem dX7_weight_17 : decode cX7_weight 17 = .ok (.invokestatic 56, 3) := by decide +kernel
theorem dX7_weight_20 : decode cX7_weight 20 = .ok (.ifCond .ne 5, 3) := by decide +kernel
theorem dX7_weight_23 : decode cX7_weight 23 = .ok (.iconst (-1), 1) := by decide +kernel
theorem dX7_weight_24 : decode cX7_weight 24 = .ok (.ireturn, 1) := by decide +kernel
theorem dX7_weight_25 : decode cX7_weight 25 = .ok (.aload_n 0, 1) := by decide +kernel
theorem dX7_weight_26 : decode cX7_weight 26 = .ok (.getfield 13, 3) := by decide +kernel
theorem dX7_weight_29 : decode cX7_weight 29 = .ok (.iload_n 1, 1) := by decide +kernel
theorem dX7_weight_30 : decode cX7_weight 30 = .ok (.lload_n 2, 1) := by decide +kernel
theorem dX7_weight_31 : decode cX7_weight 31 = .ok (.lastore, 1) := by decide +kernel
theorem dX7_weight_32 : decode cX7_weight 32 = .ok (.iconst 1, 1) := by decide +kernel
theorem dX7_weight_33 : decode cX7_weight 33 = .ok (.ireturn, 1) := by decide +kernel
theorem dX7_share_0 : decode cX7_share 0 = .ok (.iload_n 1, 1) := by decide +kernel
theorem dX7_share_1 : decode cX7_share 1 = .ok (.invokestatic 85, 3) := by decide +kernel
theorem dX7_share_4 : decode cX7_share 4 = .ok (.ifCond .eq 33, 3) := by decide +kernel
theorem dX7_share_7 : decode cX7_share 7 = .ok (.iload_n 3, 1) := by decide +kernel
theorem dX7_share_8 : decode cX7_share 8 = .ok (.i2l, 1) := by decide +kernel
theorem dX7_share_9 : decode cX7_share 9 = .ok (.lconst 1, 1) := by decide +kernel
theorem dX7_share_10 : decode cX7_share 10 = .ok (.ldc2_w 129, 3) := by decide +kernel
theorem dX7_share_13 : decode cX7_share 13 = .ok (.invokestatic 56, 3) := by decide +kernel
theorem dX7_share_16 : decode cX7_share 16 = .ok (.ifCond .eq 21, 3) := by decide +kernel
theorem dX7_share_19 : decode cX7_share 19 = .ok (.iload_n 2, 1) := by decide +kernel
theorem dX7_share_20 : decode cX7_share 20 = .ok (.invokestatic 85, 3) := by decide +kernel
theorem dX7_share_23 : decode cX7_share 23 = .ok (.ifCond .eq 14, 3) := by decide +kernel
theorem dX7_share_26 : decode cX7_share 26 = .ok (.iload_n 2, 1) := by decide +kernel
theorem dX7_share_27 : decode cX7_share 27 = .ok (.iload_n 3, 1) := by decide +kernel
theorem dX7_share_28 : decode cX7_share 28 = .ok (.iadd, 1) := by decide +kernel
theorem dX7_share_29 : decode cX7_share 29 = .ok (.iconst 1, 1) := by decide +kernel
theorem dX7_share_30 : decode cX7_share 30 = .ok (.isub, 1) := by decide +kernel
theorem dX7_share_31 : decode cX7_share 31 = .ok (.invokestatic 85, 3) := by decide +kernel
theorem dX7_share_34 : decode cX7_share 34 = .ok (.ifCond .ne 5, 3) := by decide +kernel
theorem dX7_share_37 : decode cX7_share 37 = .ok (.iconst (-1), 1) := by decide +kernel
theorem dX7_share_38 : decode cX7_share 38 = .ok (.ireturn, 1) := by decide +kernel
theorem dX7_share_39 : decode cX7_share 39 = .ok (.lconst 0, 1) := by decide +kernel
theorem dX7_share_40 : decode cX7_share 40 = .ok (.lstore 4, 2) := by decide +kernel
theorem dX7_share_42 : decode cX7_share 42 = .ok (.iconst 0, 1) := by decide +kernel
theorem dX7_share_43 : decode cX7_share 43 = .ok (.istore 6, 2) := by decide +kernel
theorem dX7_share_45 : decode cX7_share 45 = .ok (.iload 6, 2) := by decide +kernel
theorem dX7_share_47 : decode cX7_share 47 = .ok (.iload_n 3, 1) := by decide +kernel
theorem dX7_share_48 : decode cX7_share 48 = .ok (.if_icmp .ge 21, 3) := by decide +kernel
theorem dX7_share_51 : decode cX7_share 51 = .ok (.lload 4, 2) := by decide +kernel
theorem dX7_share_53 : decode cX7_share 53 = .ok (.aload_n 0, 1) := by decide +kernel
theorem dX7_share_54 : decode cX7_share 54 = .ok (.getfield 13, 3) := by decide +kernel
theorem dX7_share_57 : decode cX7_share 57 = .ok (.iload 6, 2) := by decide +kernel
theorem dX7_share_59 : decode cX7_share 59 = .ok (.laload, 1) := by decide +kernel
theorem dX7_share_60 : decode cX7_share 60 = .ok (.ladd, 1) := by decide +kernel
theorem dX7_share_61 : decode cX7_share 61 = .ok (.lstore 4, 2) := by decide +kernel
theorem dX7_share_63 : decode cX7_share 63 = .ok (.iinc 6 1, 3) := by decide +kernel
theorem dX7_share_66 : decode cX7_share 66 = .ok (.goto (-21), 3) := by decide +kernel
theorem dX7_share_69 : decode cX7_share 69 = .ok (.lload 4, 2) := by decide +kernel
theorem dX7_share_71 : decode cX7_share 71 = .ok (.lconst 0, 1) := by decide +kernel
theorem dX7_share_72 : decode cX7_share 72 = .ok (.lcmp, 1) := by decide +kernel
theorem dX7_share_73 : decode cX7_share 73 = .ok (.ifCond .ne 6, 3) := by decide +kernel
theorem dX7_share_76 : decode cX7_share 76 = .ok (.bipush (-4), 2) := by decide +kernel
theorem dX7_share_78 : decode cX7_share 78 = .ok (.ireturn, 1) := by decide +kernel
theorem dX7_share_79 : decode cX7_share 79 = .ok (.aload_n 0, 1) := by decide +kernel
theorem dX7_share_80 : decode cX7_share 80 = .ok (.bipush 31, 2) := by decide +kernel
theorem dX7_share_82 : decode cX7_share 82 = .ok (.iload_n 1, 1) := by decide +kernel
theorem dX7_share_83 : decode cX7_share 83 = .ok (.invokevirtual 72, 3) := by decide +kernel
theorem dX7_share_86 : decode cX7_share 86 = .ok (.aload_n 0, 1) := by decide +kernel
theorem dX7_share_87 : decode cX7_share 87 = .ok (.bipush 29, 2) := by decide +kernel
theorem dX7_share_89 : decode cX7_share 89 = .ok (.lload 4, 2) := by decide +kernel
theorem dX7_share_91 : decode cX7_share 91 = .ok (.invokevirtual 62, 3) := by decide +kernel
theorem dX7_share_94 : decode cX7_share 94 = .ok (.aload_n 0, 1) := by decide +kernel
theorem dX7_share_95 : decode cX7_share 95 = .ok (.bipush 30, 2) := by decide +kernel
theorem dX7_share_97 : decode cX7_share 97 = .ok (.bipush 31, 2) := by decide +kernel
theorem dX7_share_99 : decode cX7_share 99 = .ok (.invokevirtual 72, 3) := by decide +kernel
theorem dX7_share_102 : decode cX7_share 102 = .ok (.iconst 0, 1) := by decide +kernel
theorem dX7_share_103 : decode cX7_share 103 = .ok (.istore 6, 2) := by decide +kernel
theorem dX7_share_105 : decode cX7_share 105 = .ok (.iload 6, 2) := by decide +kernel
theorem dX7_share_107 : decode cX7_share 107 = .ok (.iload_n 3, 1) := by decide +kernel
theorem dX7_share_108 : decode cX7_share 108 = .ok (.if_icmp .ge 71, 3) := by decide +kernel
theorem dX7_share_111 : decode cX7_share 111 = .ok (.aload_n 0, 1) := by decide +kernel
theorem dX7_share_112 : decode cX7_share 112 = .ok (.bipush 28, 2) := by decide +kernel
theorem dX7_share_114 : decode cX7_share 114 = .ok (.aload_n 0, 1) := by decide +kernel
theorem dX7_share_115 : decode cX7_share 115 = .ok (.getfield 13, 3) := by decide +kernel
theorem dX7_share_118 : decode cX7_share 118 = .ok (.iload 6, 2) := by decide +kernel
theorem dX7_share_120 : decode cX7_share 120 = .ok (.laload, 1) := by decide +kernel
theorem dX7_share_121 : decode cX7_share 121 = .ok (.invokevirtual 62, 3) := by decide +kernel
theorem dX7_share_124 : decode cX7_share 124 = .ok (.aload_n 0, 1) := by decide +kernel
theorem dX7_share_125 : decode cX7_share 125 = .ok (.bipush 28, 2) := by decide +kernel
theorem dX7_share_127 : decode cX7_share 127 = .ok (.bipush 31, 2) := by decide +kernel
theorem dX7_share_129 : decode cX7_share 129 = .ok (.bipush 28, 2) := by decide +kernel
theorem dX7_share_131 : decode cX7_share 131 = .ok (.invokevirtual 108, 3) := by decide +kernel
theorem dX7_share_134 : decode cX7_share 134 = .ok (.aload_n 0, 1) := by decide +kernel
theorem dX7_share_135 : decode cX7_share 135 = .ok (.bipush 28, 2) := by decide +kernel
theorem dX7_share_137 : decode cX7_share 137 = .ok (.bipush 29, 2) := by decide +kernel
theorem dX7_share_139 : decode cX7_share 139 = .ok (.invokevirtual 111, 3) := by decide +kernel
theorem dX7_share_142 : decode cX7_share 142 = .ok (.aload_n 0, 1) := by decide +kernel
theorem dX7_share_143 : decode cX7_share 143 = .ok (.iload_n 2, 1) := by decide +kernel
theorem dX7_share_144 : decode cX7_share 144 = .ok (.iload 6, 2) := by decide +kernel
theorem dX7_share_146 : decode cX7_share 146 = .ok (.iadd, 1) := by decide +kernel
theorem dX7_share_147 : decode cX7_share 147 = .ok (.bipush 32, 2) := by decide +kernel
theorem dX7_share_149 : decode cX7_share 149 = .ok (.invokevirtual 72, 3) := by decide +kernel
theorem dX7_share_152 : decode cX7_share 152 = .ok (.aload_n 0, 1) := by decide +kernel
theorem dX7_share_153 : decode cX7_share 153 = .ok (.bipush 36, 2) := by decide +kernel
theorem dX7_share_155 : decode cX7_share 155 = .ok (.iload 6, 2) := by decide +kernel
theorem dX7_share_157 : decode cX7_share 157 = .ok (.iadd, 1) := by decide +kernel
theorem dX7_share_158 : decode cX7_share 158 = .ok (.bipush 33, 2) := by decide +kernel
theorem dX7_share_160 : decode cX7_share 160 = .ok (.invokevirtual 72, 3) := by decide +kernel
theorem dX7_share_163 : decode cX7_share 163 = .ok (.aload_n 0, 1) := by decide +kernel
theorem dX7_share_164 : decode cX7_share 164 = .ok (.bipush 30, 2) := by decide +kernel
theorem dX7_share_166 : decode cX7_share 166 = .ok (.bipush 30, 2) := by decide +kernel
theorem dX7_share_168 : decode cX7_share 168 = .ok (.bipush 32, 2) := by decide +kernel
theorem dX7_share_170 : decode cX7_share 170 = .ok (.invokevirtual 80, 3) := by decide +kernel
theorem dX7_share_173 : decode cX7_share 173 = .ok (.iinc 6 1, 3) := by decide +kernel
theorem dX7_share_176 : decode cX7_share 176 = .ok (.goto (-71), 3) := by decide +kernel
theorem dX7_share_179 : decode cX7_share 179 = .ok (.aload_n 0, 1) := by decide +kernel
theorem dX7_share_180 : decode cX7_share 180 = .ok (.getfield 7, 3) := by decide +kernel
theorem dX7_share_183 : decode cX7_share 183 = .ok (.sipush 360, 3) := by decide +kernel
theorem dX7_share_186 : decode cX7_share 186 = .ok (.laload, 1) := by decide +kernel
theorem dX7_share_187 : decode cX7_share 187 = .ok (.l2i, 1) := by decide +kernel
theorem dX7_share_188 : decode cX7_share 188 = .ok (.istore 6, 2) := by decide +kernel
theorem dX7_share_190 : decode cX7_share 190 = .ok (.iconst 0, 1) := by decide +kernel
theorem dX7_share_191 : decode cX7_share 191 = .ok (.istore 7, 2) := by decide +kernel
theorem dX7_share_193 : decode cX7_share 193 = .ok (.iload 7, 2) := by decide +kernel
theorem dX7_share_195 : decode cX7_share 195 = .ok (.iload 6, 2) := by decide +kernel
theorem dX7_share_197 : decode cX7_share 197 = .ok (.if_icmp .ge 71, 3) := by decide +kernel
theorem dX7_share_200 : decode cX7_share 200 = .ok (.iconst 0, 1) := by decide +kernel
theorem dX7_share_201 : decode cX7_share 201 = .ok (.istore 8, 2) := by decide +kernel
theorem dX7_share_203 : decode cX7_share 203 = .ok (.iconst 1, 1) := by decide +kernel
theorem dX7_share_204 : decode cX7_share 204 = .ok (.istore 9, 2) := by decide +kernel
theorem dX7_share_206 : decode cX7_share 206 = .ok (.iload 9, 2) := by decide +kernel
theorem dX7_share_208 : decode cX7_share 208 = .ok (.iload_n 3, 1) := by decide +kernel
theorem dX7_share_209 : decode cX7_share 209 = .ok (.if_icmp .ge 35, 3) := by decide +kernel
theorem dX7_share_212 : decode cX7_share 212 = .ok (.aload_n 0, 1) := by decide +kernel
theorem dX7_share_213 : decode cX7_share 213 = .ok (.bipush 36, 2) := by decide +kernel
theorem dX7_share_215 : decode cX7_share 215 = .ok (.iload 9, 2) := by decide +kernel
theorem dX7_share_217 : decode cX7_share 217 = .ok (.iadd, 1) := by decide +kernel
theorem dX7_share_218 : decode cX7_share 218 = .ok (.bipush 36, 2) := by decide +kernel
theorem dX7_share_220 : decode cX7_share 220 = .ok (.iload 8, 2) := by decide +kernel
theorem dX7_share_222 : decode cX7_share 222 = .ok (.iadd, 1) := by decide +kernel
theorem dX7_share_223 : decode cX7_share 223 = .ok (.invokevirtual 76, 3) := by decide +kernel
theorem dX7_share_226 : decode cX7_share 226 = .ok (.ifCond .le 8, 3) := by decide +kernel
theorem dX7_share_229 : decode cX7_share 229 = .ok (.iload 9, 2) := by decide +kernel
theorem dX7_share_231 : decode cX7_share 231 = .ok (.goto 5, 3) := by decide +kernel
theorem dX7_share_234 : decode cX7_share 234 = .ok (.iload 8, 2) := by decide +kernel
theorem dX7_share_236 : decode cX7_share 236 = .ok (.istore 8, 2) := by decide +kernel
theorem dX7_share_238 : decode cX7_share 238 = .ok (.iinc 9 1, 3) := by decide +kernel
theorem dX7_share_241 : decode cX7_share 241 = .ok (.goto (-35), 3) := by decide +kernel
theorem dX7_share_244 : decode cX7_share 244 = .ok (.aload_n 0, 1) := by decide +kernel
theorem dX7_share_245 : decode cX7_share 245 = .ok (.iload_n 2, 1) := by decide +kernel
theorem dX7_share_246 : decode cX7_share 246 = .ok (.iload 8, 2) := by decide +kernel
theorem dX7_share_248 : decode cX7_share 248 = .ok (.iadd, 1) := by decide +kernel
theorem dX7_share_249 : decode cX7_share 249 = .ok (.invokevirtual 102, 3) := by decide +kernel
theorem dX7_share_252 : decode cX7_share 252 = .ok (.aload_n 0, 1) := by decide +kernel
theorem dX7_share_253 : decode cX7_share 253 = .ok (.bipush 36, 2) := by decide +kernel
theorem dX7_share_255 : decode cX7_share 255 = .ok (.iload 8, 2) := by decide +kernel
theorem dX7_share_257 : decode cX7_share 257 = .ok (.iadd, 1) := by decide +kernel
theorem dX7_share_258 : decode cX7_share 258 = .ok (.lconst 0, 1) := by decide +kernel
theorem dX7_share_259 : decode cX7_share 259 = .ok (.invokevirtual 62, 3) := by decide +kernel
theorem dX7_share_262 : decode cX7_share 262 = .ok (.iinc 7 1, 3) := by decide +kernel
theorem dX7_share_265 : decode cX7_share 265 = .ok (.goto (-72), 3) := by decide +kernel
theorem dX7_share_268 : decode cX7_share 268 = .ok (.iload 6, 2) := by decide +kernel
theorem dX7_share_270 : decode cX7_share 270 = .ok (.ireturn, 1) := by decide +kernel
theorem dX7_figuresOf_0 : decode cX7_figuresOf 0 = .ok (.aload_n 0, 1) := by decide +kernel
theorem dX7_figuresOf_1 : decode cX7_figuresOf 1 = .ok (.bipush 31, 2) := by decide +kernel
theorem dX7_figuresOf_3 : decode cX7_figuresOf 3 = .ok (.iload_n 1, 1) := by decide +kernel
theorem dX7_figuresOf_4 : decode cX7_figuresOf 4 = .ok (.invokevirtual 72, 3) := by decide +kernel
theorem dX7_figuresOf_7 : decode cX7_figuresOf 7 = .ok (.aload_n 0, 1) := by decide +kernel
theorem dX7_figuresOf_8 : decode cX7_figuresOf 8 = .ok (.iconst 0, 1) := by decide +kernel
theorem dX7_figuresOf_9 : decode cX7_figuresOf 9 = .ok (.putfield 131, 3) := by decide +kernel
theorem dX7_figuresOf_12 : decode cX7_figuresOf 12 = .ok (.aload_n 0, 1) := by decide +kernel
theorem dX7_figuresOf_13 : decode cX7_figuresOf 13 = .ok (.getfield 131, 3) := by decide +kernel
theorem dX7_figuresOf_16 : decode cX7_figuresOf 16 = .ok (.ifCond .eq 12, 3) := by decide +kernel
theorem dX7_figuresOf_19 : decode cX7_figuresOf 19 = .ok (.aload_n 0, 1) := by decide +kernel
theorem dX7_figuresOf_20 : decode cX7_figuresOf 20 = .ok (.bipush 31, 2) := by decide +kernel
theorem dX7_figuresOf_22 : decode cX7_figuresOf 22 = .ok (.invokevirtual 99, 3) := by decide +kernel
theorem dX7_figuresOf_25 : decode cX7_figuresOf 25 = .ok (.ifCond .ne 83, 3) := by decide +kernel
theorem dX7_figuresOf_28 : decode cX7_figuresOf 28 = .ok (.lconst 0, 1) := by decide +kernel
theorem dX7_figuresOf_29 : decode cX7_figuresOf 29 = .ok (.lstore_n 2, 1) := by decide +kernel
theorem dX7_figuresOf_30 : decode cX7_figuresOf 30 = .ok (.bipush 11, 2) := by decide +kernel
theorem dX7_figuresOf_32 : decode cX7_figuresOf 32 = .ok (.istore 4, 2) := by decide +kernel
theorem dX7_figuresOf_34 : decode cX7_figuresOf 34 = .ok (.iload 4, 2) := by decide +kernel
theorem dX7_figuresOf_36 : decode cX7_figuresOf 36 = .ok (.ifCond .lt 48, 3) := by decide +kernel
theorem dX7_figuresOf_39 : decode cX7_figuresOf 39 = .ok (.lload_n 2, 1) := by decide +kernel
theorem dX7_figuresOf_40 : decode cX7_figuresOf 40 = .ok (.bipush 32, 2) := by decide +kernel
theorem dX7_figuresOf_42 : decode cX7_figuresOf 42 = .ok (.lshl, 1) := by decide +kernel
theorem dX7_figuresOf_43 : decode cX7_figuresOf 43 = .ok (.aload_n 0, 1) := by decide +kernel
theorem dX7_figuresOf_44 : decode cX7_figuresOf 44 = .ok (.getfield 7, 3) := by decide +kernel
theorem dX7_figuresOf_47 : decode cX7_figuresOf 47 = .ok (.sipush 372, 3) := by decide +kernel
theorem dX7_figuresOf_50 : decode cX7_figuresOf 50 = .ok (.iload 4, 2) := by decide +kernel
theorem dX7_figuresOf_52 : decode cX7_figuresOf 52 = .ok (.iadd, 1) := by decide +kernel
theorem dX7_figuresOf_53 : decode cX7_figuresOf 53 = .ok (.laload, 1) := by decide +kernel
theorem dX7_figuresOf_54 : decode cX7_figuresOf 54 = .ok (.lor, 1) := by decide +kernel
theorem dX7_figuresOf_55 : decode cX7_figuresOf 55 = .ok (.lstore_n 2, 1) := by decide +kernel
theorem dX7_figuresOf_56 : decode cX7_figuresOf 56 = .ok (.aload_n 0, 1) := by decide +kernel
theorem dX7_figuresOf_57 : decode cX7_figuresOf 57 = .ok (.getfield 7, 3) := by decide +kernel
theorem dX7_figuresOf_60 : decode cX7_figuresOf 60 = .ok (.sipush 372, 3) := by decide +kernel
theorem dX7_figuresOf_63 : decode cX7_figuresOf 63 = .ok (.iload 4, 2) := by decide +kernel
theorem dX7_figuresOf_65 : decode cX7_figuresOf 65 = .ok (.iadd, 1) := by decide +kernel
theorem dX7_figuresOf_66 : decode cX7_figuresOf 66 = .ok (.lload_n 2, 1) := by decide +kernel
theorem dX7_figuresOf_67 : decode cX7_figuresOf 67 = .ok (.ldc2_w 117, 3) := by decide +kernel
theorem dX7_figuresOf_70 : decode cX7_figuresOf 70 = .ok (.ldiv, 1) := by decide +kernel
theorem dX7_figuresOf_71 : decode cX7_figuresOf 71 = .ok (.lastore, 1) := by decide +kernel
theorem dX7_figuresOf_72 : decode cX7_figuresOf 72 = .ok (.lload_n 2, 1) := by decide +kernel
theorem dX7_figuresOf_73 : decode cX7_figuresOf 73 = .ok (.ldc2_w 117, 3) := by decide +kernel
theorem dX7_figuresOf_76 : decode cX7_figuresOf 76 = .ok (.lrem, 1) := by decide +kernel
theorem dX7_figuresOf_77 : decode cX7_figuresOf 77 = .ok (.lstore_n 2, 1) := by decide +kernel
theorem dX7_figuresOf_78 : decode cX7_figuresOf 78 = .ok (.iinc 4 (-1), 3) := by decide +kernel
theorem dX7_figuresOf_81 : decode cX7_figuresOf 81 = .ok (.goto (-47), 3) := by decide +kernel
theorem dX7_figuresOf_84 : decode cX7_figuresOf 84 = .ok (.aload_n 0, 1) := by decide +kernel
theorem dX7_figuresOf_85 : decode cX7_figuresOf 85 = .ok (.getfield 48, 3) := by decide +kernel
theorem dX7_figuresOf_88 : decode cX7_figuresOf 88 = .ok (.aload_n 0, 1) := by decide +kernel
theorem dX7_figuresOf_89 : decode cX7_figuresOf 89 = .ok (.getfield 131, 3) := by decide +kernel
theorem dX7_figuresOf_92 : decode cX7_figuresOf 92 = .ok (.lload_n 2, 1) := by decide +kernel
theorem dX7_figuresOf_93 : decode cX7_figuresOf 93 = .ok (.l2i, 1) := by decide +kernel
theorem dX7_figuresOf_94 : decode cX7_figuresOf 94 = .ok (.iastore, 1) := by decide +kernel
theorem dX7_figuresOf_95 : decode cX7_figuresOf 95 = .ok (.aload_n 0, 1) := by decide +kernel
theorem dX7_figuresOf_96 : decode cX7_figuresOf 96 = .ok (.dup, 1) := by decide +kernel
theorem dX7_figuresOf_97 : decode cX7_figuresOf 97 = .ok (.getfield 131, 3) := by decide +kernel
theorem dX7_figuresOf_100 : decode cX7_figuresOf 100 = .ok (.iconst 1, 1) := by decide +kernel
theorem dX7_figuresOf_101 : decode cX7_figuresOf 101 = .ok (.iadd, 1) := by decide +kernel
theorem dX7_figuresOf_102 : decode cX7_figuresOf 102 = .ok (.putfield 131, 3) := by decide +kernel
theorem dX7_figuresOf_105 : decode cX7_figuresOf 105 = .ok (.goto (-93), 3) := by decide +kernel
theorem dX7_figuresOf_108 : decode cX7_figuresOf 108 = .ok (.return_, 1) := by decide +kernel
theorem dX7_figures_0 : decode cX7_figures 0 = .ok (.iload_n 1, 1) := by decide +kernel
theorem dX7_figures_1 : decode cX7_figures 1 = .ok (.invokestatic 85, 3) := by decide +kernel
theorem dX7_figures_4 : decode cX7_figures 4 = .ok (.ifCond .ne 5, 3) := by decide +kernel
theorem dX7_figures_7 : decode cX7_figures 7 = .ok (.iconst (-1), 1) := by decide +kernel
theorem dX7_figures_8 : decode cX7_figures 8 = .ok (.ireturn, 1) := by decide +kernel
theorem dX7_figures_9 : decode cX7_figures 9 = .ok (.aload_n 0, 1) := by decide +kernel
theorem dX7_figures_10 : decode cX7_figures 10 = .ok (.iload_n 1, 1) := by decide +kernel
theorem dX7_figures_11 : decode cX7_figures 11 = .ok (.invokevirtual 134, 3) := by decide +kernel
theorem dX7_figures_14 : decode cX7_figures 14 = .ok (.aload_n 0, 1) := by decide +kernel
theorem dX7_figures_15 : decode cX7_figures 15 = .ok (.getfield 131, 3) := by decide +kernel
theorem dX7_figures_18 : decode cX7_figures 18 = .ok (.ireturn, 1) := by decide +kernel
theorem dX7_figure_0 : decode cX7_figure 0 = .ok (.aload_n 0, 1) := by decide +kernel
theorem dX7_figure_1 : decode cX7_figure 1 = .ok (.iconst 0, 1) := by decide +kernel
theorem dX7_figure_2 : decode cX7_figure 2 = .ok (.putfield 51, 3) := by decide +kernel
theorem dX7_figure_5 : decode cX7_figure 5 = .ok (.iload_n 1, 1) := by decide +kernel
theorem dX7_figure_6 : decode cX7_figure 6 = .ok (.invokestatic 85, 3) := by decide +kernel
theorem dX7_figure_9 : decode cX7_figure 9 = .ok (.ifCond .ne 5, 3) := by decide +kernel
theorem dX7_figure_12 : decode cX7_figure 12 = .ok (.iconst (-1), 1) := by decide +kernel
theorem dX7_figure_13 : decode cX7_figure 13 = .ok (.ireturn, 1) := by decide +kernel
theorem dX7_figure_14 : decode cX7_figure 14 = .ok (.aload_n 0, 1) := by decide +kernel
theorem dX7_figure_15 : decode cX7_figure 15 = .ok (.iload_n 1, 1) := by decide +kernel
theorem dX7_figure_16 : decode cX7_figure 16 = .ok (.invokevirtual 134, 3) := by decide +kernel
theorem dX7_figure_19 : decode cX7_figure 19 = .ok (.aload_n 0, 1) := by decide +kernel
theorem dX7_figure_20 : decode cX7_figure 20 = .ok (.iload_n 2, 1) := by decide +kernel
theorem dX7_figure_21 : decode cX7_figure 21 = .ok (.i2l, 1) := by decide +kernel
theorem dX7_figure_22 : decode cX7_figure 22 = .ok (.lconst 0, 1) := by decide +kernel
theorem dX7_figure_23 : decode cX7_figure 23 = .ok (.aload_n 0, 1) := by decide +kernel
theorem dX7_figure_24 : decode cX7_figure 24 = .ok (.getfield 131, 3) := by decide +kernel
theorem dX7_figure_27 : decode cX7_figure 27 = .ok (.iconst 1, 1) := by decide +kernel
theorem dX7_figure_28 : decode cX7_figure 28 = .ok (.isub, 1) := by decide +kernel
theorem dX7_figure_29 : decode cX7_figure 29 = .ok (.i2l, 1) := by decide +kernel
theorem dX7_figure_30 : decode cX7_figure 30 = .ok (.invokestatic 56, 3) := by decide +kernel
theorem dX7_figure_33 : decode cX7_figure 33 = .ok (.ifCond .eq 7, 3) := by decide +kernel
theorem dX7_figure_36 : decode cX7_figure 36 = .ok (.iconst 0, 1) := by decide +kernel
theorem dX7_figure_37 : decode cX7_figure 37 = .ok (.goto 4, 3) := by decide +kernel
theorem dX7_figure_40 : decode cX7_figure 40 = .ok (.iconst 1, 1) := by decide +kernel
theorem dX7_figure_41 : decode cX7_figure 41 = .ok (.putfield 51, 3) := by decide +kernel
theorem dX7_figure_44 : decode cX7_figure 44 = .ok (.aload_n 0, 1) := by decide +kernel
theorem dX7_figure_45 : decode cX7_figure 45 = .ok (.getfield 51, 3) := by decide +kernel
theorem dX7_figure_48 : decode cX7_figure 48 = .ok (.ifCond .le 7, 3) := by decide +kernel
theorem dX7_figure_51 : decode cX7_figure 51 = .ok (.iconst 0, 1) := by decide +kernel
theorem dX7_figure_52 : decode cX7_figure 52 = .ok (.goto 9, 3) := by decide +kernel
theorem dX7_figure_55 : decode cX7_figure 55 = .ok (.aload_n 0, 1) := by decide +kernel
theorem dX7_figure_56 : decode cX7_figure 56 = .ok (.getfield 48, 3) := by decide +kernel
theorem dX7_figure_59 : decode cX7_figure 59 = .ok (.iload_n 2, 1) := by decide +kernel
theorem dX7_figure_60 : decode cX7_figure 60 = .ok (.iaload, 1) := by decide +kernel
theorem dX7_figure_61 : decode cX7_figure 61 = .ok (.ireturn, 1) := by decide +kernel
theorem dX7_unit_0 : decode cX7_unit 0 = .ok (.iload_n 1, 1) := by decide +kernel
theorem dX7_unit_1 : decode cX7_unit 1 = .ok (.i2l, 1) := by decide +kernel
theorem dX7_unit_2 : decode cX7_unit 2 = .ok (.lconst 0, 1) := by decide +kernel
theorem dX7_unit_3 : decode cX7_unit 3 = .ok (.ldc2_w 129, 3) := by decide +kernel
theorem dX7_unit_6 : decode cX7_unit 6 = .ok (.invokestatic 56, 3) := by decide +kernel
theorem dX7_unit_9 : decode cX7_unit 9 = .ok (.ifCond .ne 5, 3) := by decide +kernel
theorem dX7_unit_12 : decode cX7_unit 12 = .ok (.iconst (-1), 1) := by decide +kernel
theorem dX7_unit_13 : decode cX7_unit 13 = .ok (.ireturn, 1) := by decide +kernel
theorem dX7_unit_14 : decode cX7_unit 14 = .ok (.aload_n 0, 1) := by decide +kernel
theorem dX7_unit_15 : decode cX7_unit 15 = .ok (.getfield 23, 3) := by decide +kernel
theorem dX7_unit_18 : decode cX7_unit 18 = .ok (.istore_n 2, 1) := by decide +kernel
theorem dX7_unit_19 : decode cX7_unit 19 = .ok (.aload_n 0, 1) := by decide +kernel
theorem dX7_unit_20 : decode cX7_unit 20 = .ok (.iload_n 1, 1) := by decide +kernel
theorem dX7_unit_21 : decode cX7_unit 21 = .ok (.putfield 23, 3) := by decide +kernel
theorem dX7_unit_24 : decode cX7_unit 24 = .ok (.iload_n 2, 1) := by decide +kernel
theorem dX7_unit_25 : decode cX7_unit 25 = .ok (.ireturn, 1) := by decide +kernel
theorem dX7_say_0 : decode cX7_say 0 = .ok (.aload_n 0, 1) := by decide +kernel
theorem dX7_say_1 : decode cX7_say 1 = .ok (.getfield 33, 3) := by decide +kernel
theorem dX7_say_4 : decode cX7_say 4 = .ok (.aload_n 0, 1) := by decide +kernel
theorem dX7_say_5 : decode cX7_say 5 = .ok (.getfield 137, 3) := by decide +kernel
theorem dX7_say_8 : decode cX7_say 8 = .ok (.iload_n 1, 1) := by decide +kernel
theorem dX7_say_9 : decode cX7_say 9 = .ok (.iastore, 1) := by decide +kernel
theorem dX7_say_10 : decode cX7_say 10 = .ok (.aload_n 0, 1) := by decide +kernel
theorem dX7_say_11 : decode cX7_say 11 = .ok (.dup, 1) := by decide +kernel
theorem dX7_say_12 : decode cX7_say 12 = .ok (.getfield 137, 3) := by decide +kernel
theorem dX7_say_15 : decode cX7_say 15 = .ok (.iconst 1, 1) := by decide +kernel
theorem dX7_say_16 : decode cX7_say 16 = .ok (.iadd, 1) := by decide +kernel
theorem dX7_say_17 : decode cX7_say 17 = .ok (.putfield 137, 3) := by decide +kernel
theorem dX7_say_20 : decode cX7_say 20 = .ok (.return_, 1) := by decide +kernel
theorem dX7_print_0 : decode cX7_print 0 = .ok (.iload_n 1, 1) := by decide +kernel
theorem dX7_print_1 : decode cX7_print 1 = .ok (.invokestatic 85, 3) := by decide +kernel
theorem dX7_print_4 : decode cX7_print 4 = .ok (.ifCond .ne 5, 3) := by decide +kernel
theorem dX7_print_7 : decode cX7_print 7 = .ok (.iconst (-1), 1) := by decide +kernel
theorem dX7_print_8 : decode cX7_print 8 = .ok (.ireturn, 1) := by decide +kernel
theorem dX7_print_9 : decode cX7_print 9 = .ok (.aload_n 0, 1) := by decide +kernel
theorem dX7_print_10 : decode cX7_print 10 = .ok (.iload_n 1, 1) := by decide +kernel
theorem dX7_print_11 : decode cX7_print 11 = .ok (.invokevirtual 134, 3) := by decide +kernel
theorem dX7_print_14 : decode cX7_print 14 = .ok (.aload_n 0, 1) := by decide +kernel
theorem dX7_print_15 : decode cX7_print 15 = .ok (.getfield 131, 3) := by decide +kernel
theorem dX7_print_18 : decode cX7_print 18 = .ok (.aload_n 0, 1) := by decide +kernel
theorem dX7_print_19 : decode cX7_print 19 = .ok (.getfield 23, 3) := by decide +kernel
theorem dX7_print_22 : decode cX7_print 22 = .ok (.if_icmp .gt 26, 3) := by decide +kernel
theorem dX7_print_25 : decode cX7_print 25 = .ok (.aload_n 0, 1) := by decide +kernel
theorem dX7_print_26 : decode cX7_print 26 = .ok (.getfield 48, 3) := by decide +kernel
theorem dX7_print_29 : decode cX7_print 29 = .ok (.aload_n 0, 1) := by decide +kernel
theorem dX7_print_30 : decode cX7_print 30 = .ok (.getfield 131, 3) := by decide +kernel
theorem dX7_print_33 : decode cX7_print 33 = .ok (.iconst 0, 1) := by decide +kernel
theorem dX7_print_34 : decode cX7_print 34 = .ok (.iastore, 1) := by decide +kernel
theorem dX7_print_35 : decode cX7_print 35 = .ok (.aload_n 0, 1) := by decide +kernel
theorem dX7_print_36 : decode cX7_print 36 = .ok (.dup, 1) := by decide +kernel
theorem dX7_print_37 : decode cX7_print 37 = .ok (.getfield 131, 3) := by decide +kernel
theorem dX7_print_40 : decode cX7_print 40 = .ok (.iconst 1, 1) := by decide +kernel
theorem dX7_print_41 : decode cX7_print 41 = .ok (.iadd, 1) := by decide +kernel
theorem dX7_print_42 : decode cX7_print 42 = .ok (.putfield 131, 3) := by decide +kernel
theorem dX7_print_45 : decode cX7_print 45 = .ok (.goto (-31), 3) := by decide +kernel
theorem dX7_print_48 : decode cX7_print 48 = .ok (.aload_n 0, 1) := by decide +kernel
theorem dX7_print_49 : decode cX7_print 49 = .ok (.iconst 0, 1) := by decide +kernel
theorem dX7_print_50 : decode cX7_print 50 = .ok (.putfield 137, 3) := by decide +kernel
theorem dX7_print_53 : decode cX7_print 53 = .ok (.aload_n 0, 1) := by decide +kernel
theorem dX7_print_54 : decode cX7_print 54 = .ok (.getfield 131, 3) := by decide +kernel
theorem dX7_print_57 : decode cX7_print 57 = .ok (.iconst 1, 1) := by decide +kernel
theorem dX7_print_58 : decode cX7_print 58 = .ok (.isub, 1) := by decide +kernel
theorem dX7_print_59 : decode cX7_print 59 = .ok (.istore_n 2, 1) := by decide +kernel
theorem dX7_print_60 : decode cX7_print 60 = .ok (.iload_n 2, 1) := by decide +kernel
theorem dX7_print_61 : decode cX7_print 61 = .ok (.ifCond .lt 63, 3) := by decide +kernel
theorem dX7_print_64 : decode cX7_print 64 = .ok (.iload_n 2, 1) := by decide +kernel
theorem dX7_print_65 : decode cX7_print 65 = .ok (.aload_n 0, 1) := by decide +kernel
theorem dX7_print_66 : decode cX7_print 66 = .ok (.getfield 23, 3) := by decide +kernel
theorem dX7_print_69 : decode cX7_print 69 = .ok (.iconst 1, 1) := by decide +kernel
theorem dX7_print_70 : decode cX7_print 70 = .ok (.isub, 1) := by decide +kernel
theorem dX7_print_71 : decode cX7_print 71 = .ok (.if_icmp .ne 9, 3) := by decide +kernel
theorem dX7_print_74 : decode cX7_print 74 = .ok (.aload_n 0, 1) := by decide +kernel
theorem dX7_print_75 : decode cX7_print 75 = .ok (.bipush 46, 2) := by decide +kernel
theorem dX7_print_77 : decode cX7_print 77 = .ok (.invokevirtual 140, 3) := by decide +kernel
theorem dX7_print_80 : decode cX7_print 80 = .ok (.aload_n 0, 1) := by decide +kernel
theorem dX7_print_81 : decode cX7_print 81 = .ok (.bipush 48, 2) := by decide +kernel
theorem dX7_print_83 : decode cX7_print 83 = .ok (.aload_n 0, 1) := by decide +kernel
theorem dX7_print_84 : decode cX7_print 84 = .ok (.getfield 48, 3) := by decide +kernel
theorem dX7_print_87 : decode cX7_print 87 = .ok (.iload_n 2, 1) := by decide +kernel
theorem dX7_print_88 : decode cX7_print 88 = .ok (.iaload, 1) := by decide +kernel
theorem dX7_print_89 : decode cX7_print 89 = .ok (.iadd, 1) := by decide +kernel
theorem dX7_print_90 : decode cX7_print 90 = .ok (.invokevirtual 140, 3) := by decide +kernel
theorem dX7_print_93 : decode cX7_print 93 = .ok (.iload_n 2, 1) := by decide +kernel
theorem dX7_print_94 : decode cX7_print 94 = .ok (.aload_n 0, 1) := by decide +kernel
theorem dX7_print_95 : decode cX7_print 95 = .ok (.getfield 23, 3) := by decide +kernel
theorem dX7_print_98 : decode cX7_print 98 = .ok (.if_icmp .le 20, 3) := by decide +kernel
theorem dX7_print_101 : decode cX7_print 101 = .ok (.iload_n 2, 1) := by decide +kernel
theorem dX7_print_102 : decode cX7_print 102 = .ok (.aload_n 0, 1) := by decide +kernel
theorem dX7_print_103 : decode cX7_print 103 = .ok (.getfield 23, 3) := by decide +kernel
theorem dX7_print_106 : decode cX7_print 106 = .ok (.isub, 1) := by decide +kernel
theorem dX7_print_107 : decode cX7_print 107 = .ok (.iconst 3, 1) := by decide +kernel
theorem dX7_print_108 : decode cX7_print 108 = .ok (.irem, 1) := by decide +kernel
theorem dX7_print_109 : decode cX7_print 109 = .ok (.ifCond .ne 9, 3) := by decide +kernel
theorem dX7_print_112 : decode cX7_print 112 = .ok (.aload_n 0, 1) := by decide +kernel
theorem dX7_print_113 : decode cX7_print 113 = .ok (.bipush 44, 2) := by decide +kernel
theorem dX7_print_115 : decode cX7_print 115 = .ok (.invokevirtual 140, 3) := by decide +kernel
theorem dX7_print_118 : decode cX7_print 118 = .ok (.iinc 2 (-1), 3) := by decide +kernel
theorem dX7_print_121 : decode cX7_print 121 = .ok (.goto (-61), 3) := by decide +kernel
theorem dX7_print_124 : decode cX7_print 124 = .ok (.aload_n 0, 1) := by decide +kernel
theorem dX7_print_125 : decode cX7_print 125 = .ok (.getfield 137, 3) := by decide +kernel
theorem dX7_print_128 : decode cX7_print 128 = .ok (.ireturn, 1) := by decide +kernel
theorem dX7_out_0 : decode cX7_out 0 = .ok (.aload_n 0, 1) := by decide +kernel
theorem dX7_out_1 : decode cX7_out 1 = .ok (.iload_n 1, 1) := by decide +kernel
theorem dX7_out_2 : decode cX7_out 2 = .ok (.i2l, 1) := by decide +kernel
theorem dX7_out_3 : decode cX7_out 3 = .ok (.lconst 0, 1) := by decide +kernel
theorem dX7_out_4 : decode cX7_out 4 = .ok (.aload_n 0, 1) := by decide +kernel
theorem dX7_out_5 : decode cX7_out 5 = .ok (.getfield 137, 3) := by decide +kernel
theorem dX7_out_8 : decode cX7_out 8 = .ok (.iconst 1, 1) := by decide +kernel
theorem dX7_out_9 : decode cX7_out 9 = .ok (.isub, 1) := by decide +kernel
theorem dX7_out_10 : decode cX7_out 10 = .ok (.i2l, 1) := by decide +kernel
theorem dX7_out_11 : decode cX7_out 11 = .ok (.invokestatic 56, 3) := by decide +kernel
theorem dX7_out_14 : decode cX7_out 14 = .ok (.ifCond .eq 7, 3) := by decide +kernel
theorem dX7_out_17 : decode cX7_out 17 = .ok (.iconst 0, 1) := by decide +kernel
theorem dX7_out_18 : decode cX7_out 18 = .ok (.goto 4, 3) := by decide +kernel
theorem dX7_out_21 : decode cX7_out 21 = .ok (.iconst 1, 1) := by decide +kernel
theorem dX7_out_22 : decode cX7_out 22 = .ok (.putfield 51, 3) := by decide +kernel
theorem dX7_out_25 : decode cX7_out 25 = .ok (.aload_n 0, 1) := by decide +kernel
theorem dX7_out_26 : decode cX7_out 26 = .ok (.getfield 51, 3) := by decide +kernel
theorem dX7_out_29 : decode cX7_out 29 = .ok (.ifCond .le 7, 3) := by decide +kernel
theorem dX7_out_32 : decode cX7_out 32 = .ok (.iconst 0, 1) := by decide +kernel
theorem dX7_out_33 : decode cX7_out 33 = .ok (.goto 9, 3) := by decide +kernel
theorem dX7_out_36 : decode cX7_out 36 = .ok (.aload_n 0, 1) := by decide +kernel
theorem dX7_out_37 : decode cX7_out 37 = .ok (.getfield 33, 3) := by decide +kernel
theorem dX7_out_40 : decode cX7_out 40 = .ok (.iload_n 1, 1) := by decide +kernel
theorem dX7_out_41 : decode cX7_out 41 = .ok (.iaload, 1) := by decide +kernel
theorem dX7_out_42 : decode cX7_out 42 = .ok (.ireturn, 1) := by decide +kernel
theorem dX7_feed_0 : decode cX7_feed 0 = .ok (.iload_n 1, 1) := by decide +kernel
theorem dX7_feed_1 : decode cX7_feed 1 = .ok (.i2l, 1) := by decide +kernel
theorem dX7_feed_2 : decode cX7_feed 2 = .ok (.lconst 0, 1) := by decide +kernel
theorem dX7_feed_3 : decode cX7_feed 3 = .ok (.ldc2_w 143, 3) := by decide +kernel
theorem dX7_feed_6 : decode cX7_feed 6 = .ok (.invokestatic 56, 3) := by decide +kernel
theorem dX7_feed_9 : decode cX7_feed 9 = .ok (.ifCond .ne 5, 3) := by decide +kernel
theorem dX7_feed_12 : decode cX7_feed 12 = .ok (.iconst (-1), 1) := by decide +kernel
theorem dX7_feed_13 : decode cX7_feed 13 = .ok (.ireturn, 1) := by decide +kernel
theorem dX7_feed_14 : decode cX7_feed 14 = .ok (.aload_n 0, 1) := by decide +kernel
theorem dX7_feed_15 : decode cX7_feed 15 = .ok (.getfield 145, 3) := by decide +kernel
theorem dX7_feed_18 : decode cX7_feed 18 = .ok (.bipush 120, 2) := by decide +kernel
theorem dX7_feed_20 : decode cX7_feed 20 = .ok (.if_icmp .ne 6, 3) := by decide +kernel
theorem dX7_feed_23 : decode cX7_feed 23 = .ok (.bipush (-2), 2) := by decide +kernel
theorem dX7_feed_25 : decode cX7_feed 25 = .ok (.ireturn, 1) := by decide +kernel
theorem dX7_feed_26 : decode cX7_feed 26 = .ok (.aload_n 0, 1) := by decide +kernel
theorem dX7_feed_27 : decode cX7_feed 27 = .ok (.getfield 27, 3) := by decide +kernel
theorem dX7_feed_30 : decode cX7_feed 30 = .ok (.aload_n 0, 1) := by decide +kernel
theorem dX7_feed_31 : decode cX7_feed 31 = .ok (.getfield 145, 3) := by decide +kernel
theorem dX7_feed_34 : decode cX7_feed 34 = .ok (.iload_n 1, 1) := by decide +kernel
theorem dX7_feed_35 : decode cX7_feed 35 = .ok (.iastore, 1) := by decide +kernel
theorem dX7_feed_36 : decode cX7_feed 36 = .ok (.aload_n 0, 1) := by decide +kernel
theorem dX7_feed_37 : decode cX7_feed 37 = .ok (.dup, 1) := by decide +kernel
theorem dX7_feed_38 : decode cX7_feed 38 = .ok (.getfield 145, 3) := by decide +kernel
theorem dX7_feed_41 : decode cX7_feed 41 = .ok (.iconst 1, 1) := by decide +kernel
theorem dX7_feed_42 : decode cX7_feed 42 = .ok (.iadd, 1) := by decide +kernel
theorem dX7_feed_43 : decode cX7_feed 43 = .ok (.putfield 145, 3) := by decide +kernel
theorem dX7_feed_46 : decode cX7_feed 46 = .ok (.aload_n 0, 1) := by decide +kernel
theorem dX7_feed_47 : decode cX7_feed 47 = .ok (.getfield 145, 3) := by decide +kernel
theorem dX7_feed_50 : decode cX7_feed 50 = .ok (.ireturn, 1) := by decide +kernel
theorem dX7_byteAt_0 : decode cX7_byteAt 0 = .ok (.iload_n 1, 1) := by decide +kernel
theorem dX7_byteAt_1 : decode cX7_byteAt 1 = .ok (.aload_n 0, 1) := by decide +kernel
theorem dX7_byteAt_2 : decode cX7_byteAt 2 = .ok (.getfield 145, 3) := by decide +kernel
theorem dX7_byteAt_5 : decode cX7_byteAt 5 = .ok (.if_icmp .ge 12, 3) := by decide +kernel
theorem dX7_byteAt_8 : decode cX7_byteAt 8 = .ok (.aload_n 0, 1) := by decide +kernel
theorem dX7_byteAt_9 : decode cX7_byteAt 9 = .ok (.getfield 27, 3) := by decide +kernel
theorem dX7_byteAt_12 : decode cX7_byteAt 12 = .ok (.iload_n 1, 1) := by decide +kernel
theorem dX7_byteAt_13 : decode cX7_byteAt 13 = .ok (.iaload, 1) := by decide +kernel
theorem dX7_byteAt_14 : decode cX7_byteAt 14 = .ok (.goto 4, 3) := by decide +kernel
theorem dX7_byteAt_17 : decode cX7_byteAt 17 = .ok (.iconst (-1), 1) := by decide +kernel
theorem dX7_byteAt_18 : decode cX7_byteAt 18 = .ok (.ireturn, 1) := by decide +kernel
theorem dX7_isDigit_0 : decode cX7_isDigit 0 = .ok (.iload_n 0, 1) := by decide +kernel
theorem dX7_isDigit_1 : decode cX7_isDigit 1 = .ok (.i2l, 1) := by decide +kernel
