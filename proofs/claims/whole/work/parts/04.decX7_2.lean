theorem dX7_isDigit_2 : decode cX7_isDigit 2 = .ok (.ldc2_w 148, 3) := by decide +kernel
theorem dX7_isDigit_5 : decode cX7_isDigit 5 = .ok (.ldc2_w 150, 3) := by decide +kernel
theorem dX7_isDigit_8 : decode cX7_isDigit 8 = .ok (.invokestatic 56, 3) := by decide +kernel
theorem dX7_isDigit_11 : decode cX7_isDigit 11 = .ok (.ireturn, 1) := by decide +kernel
theorem dX7_ahead_0 : decode cX7_ahead 0 = .ok (.aload_n 0, 1) := by decide +kernel
theorem dX7_ahead_1 : decode cX7_ahead 1 = .ok (.iconst 0, 1) := by decide +kernel
theorem dX7_ahead_2 : decode cX7_ahead 2 = .ok (.invokevirtual 152, 3) := by decide +kernel
theorem dX7_ahead_5 : decode cX7_ahead 5 = .ok (.invokestatic 156, 3) := by decide +kernel
theorem dX7_ahead_8 : decode cX7_ahead 8 = .ok (.ifCond .ne 7, 3) := by decide +kernel
theorem dX7_ahead_11 : decode cX7_ahead 11 = .ok (.sipush (-1000), 3) := by decide +kernel
theorem dX7_ahead_14 : decode cX7_ahead 14 = .ok (.ireturn, 1) := by decide +kernel
theorem dX7_ahead_15 : decode cX7_ahead 15 = .ok (.aload_n 0, 1) := by decide +kernel
theorem dX7_ahead_16 : decode cX7_ahead 16 = .ok (.iconst 0, 1) := by decide +kernel
theorem dX7_ahead_17 : decode cX7_ahead 17 = .ok (.invokevirtual 152, 3) := by decide +kernel
theorem dX7_ahead_20 : decode cX7_ahead 20 = .ok (.bipush 48, 2) := by decide +kernel
theorem dX7_ahead_22 : decode cX7_ahead 22 = .ok (.if_icmp .ne 5, 3) := by decide +kernel
theorem dX7_ahead_25 : decode cX7_ahead 25 = .ok (.iconst 1, 1) := by decide +kernel
theorem dX7_ahead_26 : decode cX7_ahead 26 = .ok (.ireturn, 1) := by decide +kernel
theorem dX7_ahead_27 : decode cX7_ahead 27 = .ok (.iconst 0, 1) := by decide +kernel
theorem dX7_ahead_28 : decode cX7_ahead 28 = .ok (.istore_n 1, 1) := by decide +kernel
theorem dX7_ahead_29 : decode cX7_ahead 29 = .ok (.aload_n 0, 1) := by decide +kernel
theorem dX7_ahead_30 : decode cX7_ahead 30 = .ok (.iload_n 1, 1) := by decide +kernel
theorem dX7_ahead_31 : decode cX7_ahead 31 = .ok (.invokevirtual 152, 3) := by decide +kernel
theorem dX7_ahead_34 : decode cX7_ahead 34 = .ok (.invokestatic 156, 3) := by decide +kernel
theorem dX7_ahead_37 : decode cX7_ahead 37 = .ok (.ifCond .eq 9, 3) := by decide +kernel
theorem dX7_ahead_40 : decode cX7_ahead 40 = .ok (.iinc 1 1, 3) := by decide +kernel
theorem dX7_ahead_43 : decode cX7_ahead 43 = .ok (.goto (-14), 3) := by decide +kernel
theorem dX7_ahead_46 : decode cX7_ahead 46 = .ok (.iload_n 1, 1) := by decide +kernel
theorem dX7_ahead_47 : decode cX7_ahead 47 = .ok (.iconst 3, 1) := by decide +kernel
theorem dX7_ahead_48 : decode cX7_ahead 48 = .ok (.if_icmp .gt 7, 3) := by decide +kernel
theorem dX7_ahead_51 : decode cX7_ahead 51 = .ok (.iconst 1, 1) := by decide +kernel
theorem dX7_ahead_52 : decode cX7_ahead 52 = .ok (.goto 4, 3) := by decide +kernel
theorem dX7_ahead_55 : decode cX7_ahead 55 = .ok (.iconst 0, 1) := by decide +kernel
theorem dX7_ahead_56 : decode cX7_ahead 56 = .ok (.istore_n 2, 1) := by decide +kernel
theorem dX7_ahead_57 : decode cX7_ahead 57 = .ok (.iload_n 2, 1) := by decide +kernel
theorem dX7_ahead_58 : decode cX7_ahead 58 = .ok (.ifCond .eq 53, 3) := by decide +kernel
theorem dX7_ahead_61 : decode cX7_ahead 61 = .ok (.aload_n 0, 1) := by decide +kernel
theorem dX7_ahead_62 : decode cX7_ahead 62 = .ok (.iload_n 1, 1) := by decide +kernel
theorem dX7_ahead_63 : decode cX7_ahead 63 = .ok (.invokevirtual 152, 3) := by decide +kernel
theorem dX7_ahead_66 : decode cX7_ahead 66 = .ok (.bipush 44, 2) := by decide +kernel
theorem dX7_ahead_68 : decode cX7_ahead 68 = .ok (.if_icmp .ne 43, 3) := by decide +kernel
theorem dX7_ahead_71 : decode cX7_ahead 71 = .ok (.iconst 1, 1) := by decide +kernel
theorem dX7_ahead_72 : decode cX7_ahead 72 = .ok (.istore_n 3, 1) := by decide +kernel
theorem dX7_ahead_73 : decode cX7_ahead 73 = .ok (.iload_n 3, 1) := by decide +kernel
theorem dX7_ahead_74 : decode cX7_ahead 74 = .ok (.iconst 3, 1) := by decide +kernel
theorem dX7_ahead_75 : decode cX7_ahead 75 = .ok (.if_icmp .gt 30, 3) := by decide +kernel
theorem dX7_ahead_78 : decode cX7_ahead 78 = .ok (.aload_n 0, 1) := by decide +kernel
theorem dX7_ahead_79 : decode cX7_ahead 79 = .ok (.iload_n 1, 1) := by decide +kernel
theorem dX7_ahead_80 : decode cX7_ahead 80 = .ok (.iload_n 3, 1) := by decide +kernel
theorem dX7_ahead_81 : decode cX7_ahead 81 = .ok (.iadd, 1) := by decide +kernel
theorem dX7_ahead_82 : decode cX7_ahead 82 = .ok (.invokevirtual 152, 3) := by decide +kernel
theorem dX7_ahead_85 : decode cX7_ahead 85 = .ok (.invokestatic 156, 3) := by decide +kernel
theorem dX7_ahead_88 : decode cX7_ahead 88 = .ok (.ifCond .ne 11, 3) := by decide +kernel
theorem dX7_ahead_91 : decode cX7_ahead 91 = .ok (.iload_n 1, 1) := by decide +kernel
theorem dX7_ahead_92 : decode cX7_ahead 92 = .ok (.iload_n 3, 1) := by decide +kernel
theorem dX7_ahead_93 : decode cX7_ahead 93 = .ok (.iadd, 1) := by decide +kernel
theorem dX7_ahead_94 : decode cX7_ahead 94 = .ok (.sipush 1000, 3) := by decide +kernel
theorem dX7_ahead_97 : decode cX7_ahead 97 = .ok (.isub, 1) := by decide +kernel
theorem dX7_ahead_98 : decode cX7_ahead 98 = .ok (.ireturn, 1) := by decide +kernel
theorem dX7_ahead_99 : decode cX7_ahead 99 = .ok (.iinc 3 1, 3) := by decide +kernel
theorem dX7_ahead_102 : decode cX7_ahead 102 = .ok (.goto (-29), 3) := by decide +kernel
theorem dX7_ahead_105 : decode cX7_ahead 105 = .ok (.iinc 1 4, 3) := by decide +kernel
theorem dX7_ahead_108 : decode cX7_ahead 108 = .ok (.goto (-51), 3) := by decide +kernel
theorem dX7_ahead_111 : decode cX7_ahead 111 = .ok (.iload_n 1, 1) := by decide +kernel
theorem dX7_ahead_112 : decode cX7_ahead 112 = .ok (.ireturn, 1) := by decide +kernel
theorem dX7_wrongAt_0 : decode cX7_wrongAt 0 = .ok (.aload_n 0, 1) := by decide +kernel
theorem dX7_wrongAt_1 : decode cX7_wrongAt 1 = .ok (.invokevirtual 159, 3) := by decide +kernel
theorem dX7_wrongAt_4 : decode cX7_wrongAt 4 = .ok (.istore_n 1, 1) := by decide +kernel
theorem dX7_wrongAt_5 : decode cX7_wrongAt 5 = .ok (.iload_n 1, 1) := by decide +kernel
theorem dX7_wrongAt_6 : decode cX7_wrongAt 6 = .ok (.ifCond .ge 9, 3) := by decide +kernel
theorem dX7_wrongAt_9 : decode cX7_wrongAt 9 = .ok (.iload_n 1, 1) := by decide +kernel
theorem dX7_wrongAt_10 : decode cX7_wrongAt 10 = .ok (.sipush 1000, 3) := by decide +kernel
theorem dX7_wrongAt_13 : decode cX7_wrongAt 13 = .ok (.iadd, 1) := by decide +kernel
theorem dX7_wrongAt_14 : decode cX7_wrongAt 14 = .ok (.ireturn, 1) := by decide +kernel
theorem dX7_wrongAt_15 : decode cX7_wrongAt 15 = .ok (.aload_n 0, 1) := by decide +kernel
theorem dX7_wrongAt_16 : decode cX7_wrongAt 16 = .ok (.getfield 23, 3) := by decide +kernel
theorem dX7_wrongAt_19 : decode cX7_wrongAt 19 = .ok (.ifCond .le 50, 3) := by decide +kernel
theorem dX7_wrongAt_22 : decode cX7_wrongAt 22 = .ok (.aload_n 0, 1) := by decide +kernel
theorem dX7_wrongAt_23 : decode cX7_wrongAt 23 = .ok (.iload_n 1, 1) := by decide +kernel
theorem dX7_wrongAt_24 : decode cX7_wrongAt 24 = .ok (.invokevirtual 152, 3) := by decide +kernel
theorem dX7_wrongAt_27 : decode cX7_wrongAt 27 = .ok (.bipush 46, 2) := by decide +kernel
theorem dX7_wrongAt_29 : decode cX7_wrongAt 29 = .ok (.if_icmp .eq 5, 3) := by decide +kernel
theorem dX7_wrongAt_32 : decode cX7_wrongAt 32 = .ok (.iload_n 1, 1) := by decide +kernel
theorem dX7_wrongAt_33 : decode cX7_wrongAt 33 = .ok (.ireturn, 1) := by decide +kernel
theorem dX7_wrongAt_34 : decode cX7_wrongAt 34 = .ok (.iinc 1 1, 3) := by decide +kernel
theorem dX7_wrongAt_37 : decode cX7_wrongAt 37 = .ok (.iconst 0, 1) := by decide +kernel
theorem dX7_wrongAt_38 : decode cX7_wrongAt 38 = .ok (.istore_n 2, 1) := by decide +kernel
theorem dX7_wrongAt_39 : decode cX7_wrongAt 39 = .ok (.iload_n 2, 1) := by decide +kernel
theorem dX7_wrongAt_40 : decode cX7_wrongAt 40 = .ok (.aload_n 0, 1) := by decide +kernel
theorem dX7_wrongAt_41 : decode cX7_wrongAt 41 = .ok (.getfield 23, 3) := by decide +kernel
theorem dX7_wrongAt_44 : decode cX7_wrongAt 44 = .ok (.if_icmp .ge 25, 3) := by decide +kernel
theorem dX7_wrongAt_47 : decode cX7_wrongAt 47 = .ok (.aload_n 0, 1) := by decide +kernel
theorem dX7_wrongAt_48 : decode cX7_wrongAt 48 = .ok (.iload_n 1, 1) := by decide +kernel
theorem dX7_wrongAt_49 : decode cX7_wrongAt 49 = .ok (.invokevirtual 152, 3) := by decide +kernel
theorem dX7_wrongAt_52 : decode cX7_wrongAt 52 = .ok (.invokestatic 156, 3) := by decide +kernel
theorem dX7_wrongAt_55 : decode cX7_wrongAt 55 = .ok (.ifCond .ne 5, 3) := by decide +kernel
theorem dX7_wrongAt_58 : decode cX7_wrongAt 58 = .ok (.iload_n 1, 1) := by decide +kernel
theorem dX7_wrongAt_59 : decode cX7_wrongAt 59 = .ok (.ireturn, 1) := by decide +kernel
theorem dX7_wrongAt_60 : decode cX7_wrongAt 60 = .ok (.iinc 1 1, 3) := by decide +kernel
theorem dX7_wrongAt_63 : decode cX7_wrongAt 63 = .ok (.iinc 2 1, 3) := by decide +kernel
theorem dX7_wrongAt_66 : decode cX7_wrongAt 66 = .ok (.goto (-27), 3) := by decide +kernel
theorem dX7_wrongAt_69 : decode cX7_wrongAt 69 = .ok (.iload_n 1, 1) := by decide +kernel
theorem dX7_wrongAt_70 : decode cX7_wrongAt 70 = .ok (.aload_n 0, 1) := by decide +kernel
theorem dX7_wrongAt_71 : decode cX7_wrongAt 71 = .ok (.getfield 145, 3) := by decide +kernel
theorem dX7_wrongAt_74 : decode cX7_wrongAt 74 = .ok (.if_icmp .ge 7, 3) := by decide +kernel
theorem dX7_wrongAt_77 : decode cX7_wrongAt 77 = .ok (.iload_n 1, 1) := by decide +kernel
theorem dX7_wrongAt_78 : decode cX7_wrongAt 78 = .ok (.goto 4, 3) := by decide +kernel
theorem dX7_wrongAt_81 : decode cX7_wrongAt 81 = .ok (.iconst (-1), 1) := by decide +kernel
theorem dX7_wrongAt_82 : decode cX7_wrongAt 82 = .ok (.ireturn, 1) := by decide +kernel
theorem dX7_read_0 : decode cX7_read 0 = .ok (.iload_n 1, 1) := by decide +kernel
theorem dX7_read_1 : decode cX7_read 1 = .ok (.invokestatic 85, 3) := by decide +kernel
theorem dX7_read_4 : decode cX7_read 4 = .ok (.ifCond .ne 5, 3) := by decide +kernel
theorem dX7_read_7 : decode cX7_read 7 = .ok (.iconst (-1), 1) := by decide +kernel
theorem dX7_read_8 : decode cX7_read 8 = .ok (.ireturn, 1) := by decide +kernel
theorem dX7_read_9 : decode cX7_read 9 = .ok (.aload_n 0, 1) := by decide +kernel
theorem dX7_read_10 : decode cX7_read 10 = .ok (.invokevirtual 163, 3) := by decide +kernel
theorem dX7_read_13 : decode cX7_read 13 = .ok (.istore_n 2, 1) := by decide +kernel
theorem dX7_read_14 : decode cX7_read 14 = .ok (.aload_n 0, 1) := by decide +kernel
theorem dX7_read_15 : decode cX7_read 15 = .ok (.getfield 145, 3) := by decide +kernel
theorem dX7_read_18 : decode cX7_read 18 = .ok (.istore_n 3, 1) := by decide +kernel
theorem dX7_read_19 : decode cX7_read 19 = .ok (.aload_n 0, 1) := by decide +kernel
theorem dX7_read_20 : decode cX7_read 20 = .ok (.iconst 0, 1) := by decide +kernel
theorem dX7_read_21 : decode cX7_read 21 = .ok (.putfield 145, 3) := by decide +kernel
theorem dX7_read_24 : decode cX7_read 24 = .ok (.aload_n 0, 1) := by decide +kernel
theorem dX7_read_25 : decode cX7_read 25 = .ok (.bipush (-4), 2) := by decide +kernel
theorem dX7_read_27 : decode cX7_read 27 = .ok (.putfield 30, 3) := by decide +kernel
theorem dX7_read_30 : decode cX7_read 30 = .ok (.iload_n 2, 1) := by decide +kernel
theorem dX7_read_31 : decode cX7_read 31 = .ok (.ifCond .lt 11, 3) := by decide +kernel
theorem dX7_read_34 : decode cX7_read 34 = .ok (.aload_n 0, 1) := by decide +kernel
theorem dX7_read_35 : decode cX7_read 35 = .ok (.iload_n 2, 1) := by decide +kernel
theorem dX7_read_36 : decode cX7_read 36 = .ok (.putfield 30, 3) := by decide +kernel
theorem dX7_read_39 : decode cX7_read 39 = .ok (.bipush (-11), 2) := by decide +kernel
theorem dX7_read_41 : decode cX7_read 41 = .ok (.ireturn, 1) := by decide +kernel
theorem dX7_read_42 : decode cX7_read 42 = .ok (.aload_n 0, 1) := by decide +kernel
theorem dX7_read_43 : decode cX7_read 43 = .ok (.bipush 28, 2) := by decide +kernel
theorem dX7_read_45 : decode cX7_read 45 = .ok (.lconst 0, 1) := by decide +kernel
theorem dX7_read_46 : decode cX7_read 46 = .ok (.invokevirtual 62, 3) := by decide +kernel
theorem dX7_read_49 : decode cX7_read 49 = .ok (.aload_n 0, 1) := by decide +kernel
theorem dX7_read_50 : decode cX7_read 50 = .ok (.bipush 29, 2) := by decide +kernel
theorem dX7_read_52 : decode cX7_read 52 = .ok (.ldc2_w 117, 3) := by decide +kernel
theorem dX7_read_55 : decode cX7_read 55 = .ok (.invokevirtual 62, 3) := by decide +kernel
theorem dX7_read_58 : decode cX7_read 58 = .ok (.iconst 0, 1) := by decide +kernel
theorem dX7_read_59 : decode cX7_read 59 = .ok (.istore 4, 2) := by decide +kernel
theorem dX7_read_61 : decode cX7_read 61 = .ok (.iconst 0, 1) := by decide +kernel
theorem dX7_read_62 : decode cX7_read 62 = .ok (.istore 5, 2) := by decide +kernel
theorem dX7_read_64 : decode cX7_read 64 = .ok (.iload 5, 2) := by decide +kernel
theorem dX7_read_66 : decode cX7_read 66 = .ok (.iload_n 3, 1) := by decide +kernel
theorem dX7_read_67 : decode cX7_read 67 = .ok (.if_icmp .ge 80, 3) := by decide +kernel
theorem dX7_read_70 : decode cX7_read 70 = .ok (.iload 4, 2) := by decide +kernel
theorem dX7_read_72 : decode cX7_read 72 = .ok (.ifCond .ne 75, 3) := by decide +kernel
theorem dX7_read_75 : decode cX7_read 75 = .ok (.aload_n 0, 1) := by decide +kernel
theorem dX7_read_76 : decode cX7_read 76 = .ok (.getfield 27, 3) := by decide +kernel
theorem dX7_read_79 : decode cX7_read 79 = .ok (.iload 5, 2) := by decide +kernel
theorem dX7_read_81 : decode cX7_read 81 = .ok (.iaload, 1) := by decide +kernel
theorem dX7_read_82 : decode cX7_read 82 = .ok (.invokestatic 156, 3) := by decide +kernel
theorem dX7_read_85 : decode cX7_read 85 = .ok (.ifCond .eq 56, 3) := by decide +kernel
theorem dX7_read_88 : decode cX7_read 88 = .ok (.aload_n 0, 1) := by decide +kernel
theorem dX7_read_89 : decode cX7_read 89 = .ok (.bipush 28, 2) := by decide +kernel
theorem dX7_read_91 : decode cX7_read 91 = .ok (.bipush 28, 2) := by decide +kernel
theorem dX7_read_93 : decode cX7_read 93 = .ok (.bipush 29, 2) := by decide +kernel
theorem dX7_read_95 : decode cX7_read 95 = .ok (.invokevirtual 108, 3) := by decide +kernel
theorem dX7_read_98 : decode cX7_read 98 = .ok (.aload_n 0, 1) := by decide +kernel
theorem dX7_read_99 : decode cX7_read 99 = .ok (.bipush 30, 2) := by decide +kernel
theorem dX7_read_101 : decode cX7_read 101 = .ok (.aload_n 0, 1) := by decide +kernel
theorem dX7_read_102 : decode cX7_read 102 = .ok (.getfield 27, 3) := by decide +kernel
theorem dX7_read_105 : decode cX7_read 105 = .ok (.iload 5, 2) := by decide +kernel
theorem dX7_read_107 : decode cX7_read 107 = .ok (.iaload, 1) := by decide +kernel
theorem dX7_read_108 : decode cX7_read 108 = .ok (.bipush 48, 2) := by decide +kernel
theorem dX7_read_110 : decode cX7_read 110 = .ok (.isub, 1) := by decide +kernel
theorem dX7_read_111 : decode cX7_read 111 = .ok (.i2l, 1) := by decide +kernel
theorem dX7_read_112 : decode cX7_read 112 = .ok (.invokevirtual 62, 3) := by decide +kernel
theorem dX7_read_115 : decode cX7_read 115 = .ok (.aload_n 0, 1) := by decide +kernel
theorem dX7_read_116 : decode cX7_read 116 = .ok (.bipush 28, 2) := by decide +kernel
theorem dX7_read_118 : decode cX7_read 118 = .ok (.bipush 28, 2) := by decide +kernel
theorem dX7_read_120 : decode cX7_read 120 = .ok (.bipush 30, 2) := by decide +kernel
theorem dX7_read_122 : decode cX7_read 122 = .ok (.invokevirtual 66, 3) := by decide +kernel
theorem dX7_read_125 : decode cX7_read 125 = .ok (.aload_n 0, 1) := by decide +kernel
theorem dX7_read_126 : decode cX7_read 126 = .ok (.bipush 28, 2) := by decide +kernel
theorem dX7_read_128 : decode cX7_read 128 = .ok (.invokevirtual 93, 3) := by decide +kernel
theorem dX7_read_131 : decode cX7_read 131 = .ok (.ifCond .ne 7, 3) := by decide +kernel
theorem dX7_read_134 : decode cX7_read 134 = .ok (.iconst 1, 1) := by decide +kernel
theorem dX7_read_135 : decode cX7_read 135 = .ok (.goto 4, 3) := by decide +kernel
theorem dX7_read_138 : decode cX7_read 138 = .ok (.iconst 0, 1) := by decide +kernel
theorem dX7_read_139 : decode cX7_read 139 = .ok (.istore 4, 2) := by decide +kernel
theorem dX7_read_141 : decode cX7_read 141 = .ok (.iinc 5 1, 3) := by decide +kernel
theorem dX7_read_144 : decode cX7_read 144 = .ok (.goto (-80), 3) := by decide +kernel
theorem dX7_read_147 : decode cX7_read 147 = .ok (.iload 4, 2) := by decide +kernel
theorem dX7_read_149 : decode cX7_read 149 = .ok (.ifCond .eq 11, 3) := by decide +kernel
theorem dX7_read_152 : decode cX7_read 152 = .ok (.aload_n 0, 1) := by decide +kernel
theorem dX7_read_153 : decode cX7_read 153 = .ok (.iload_n 3, 1) := by decide +kernel
theorem dX7_read_154 : decode cX7_read 154 = .ok (.putfield 30, 3) := by decide +kernel
theorem dX7_read_157 : decode cX7_read 157 = .ok (.bipush (-12), 2) := by decide +kernel
theorem dX7_read_159 : decode cX7_read 159 = .ok (.ireturn, 1) := by decide +kernel
theorem dX7_read_160 : decode cX7_read 160 = .ok (.aload_n 0, 1) := by decide +kernel
theorem dX7_read_161 : decode cX7_read 161 = .ok (.iload_n 1, 1) := by decide +kernel
theorem dX7_read_162 : decode cX7_read 162 = .ok (.bipush 28, 2) := by decide +kernel
theorem dX7_read_164 : decode cX7_read 164 = .ok (.invokevirtual 72, 3) := by decide +kernel
theorem dX7_read_167 : decode cX7_read 167 = .ok (.iconst 1, 1) := by decide +kernel
theorem dX7_read_168 : decode cX7_read 168 = .ok (.ireturn, 1) := by decide +kernel
theorem dX7_place_0 : decode cX7_place 0 = .ok (.aload_n 0, 1) := by decide +kernel
theorem dX7_place_1 : decode cX7_place 1 = .ok (.getfield 30, 3) := by decide +kernel
theorem dX7_place_4 : decode cX7_place 4 = .ok (.ireturn, 1) := by decide +kernel
theorem dX7_isPool_0 : decode cX7_isPool 0 = .ok (.iload_n 0, 1) := by decide +kernel
theorem dX7_isPool_1 : decode cX7_isPool 1 = .ok (.i2l, 1) := by decide +kernel
theorem dX7_isPool_2 : decode cX7_isPool 2 = .ok (.lconst 0, 1) := by decide +kernel
theorem dX7_isPool_3 : decode cX7_isPool 3 = .ok (.ldc2_w 166, 3) := by decide +kernel
theorem dX7_isPool_6 : decode cX7_isPool 6 = .ok (.invokestatic 56, 3) := by decide +kernel
theorem dX7_isPool_9 : decode cX7_isPool 9 = .ok (.ireturn, 1) := by decide +kernel
theorem dX7_side_0 : decode cX7_side 0 = .ok (.bipush 16, 2) := by decide +kernel
theorem dX7_side_2 : decode cX7_side 2 = .ok (.iconst 3, 1) := by decide +kernel
theorem dX7_side_3 : decode cX7_side 3 = .ok (.iload_n 0, 1) := by decide +kernel
theorem dX7_side_4 : decode cX7_side 4 = .ok (.imul, 1) := by decide +kernel
theorem dX7_side_5 : decode cX7_side 5 = .ok (.iadd, 1) := by decide +kernel
theorem dX7_side_6 : decode cX7_side 6 = .ok (.iload_n 1, 1) := by decide +kernel
theorem dX7_side_7 : decode cX7_side 7 = .ok (.iadd, 1) := by decide +kernel
theorem dX7_side_8 : decode cX7_side 8 = .ok (.ireturn, 1) := by decide +kernel
theorem dX7_fee_0 : decode cX7_fee 0 = .ok (.iload_n 1, 1) := by decide +kernel
theorem dX7_fee_1 : decode cX7_fee 1 = .ok (.invokestatic 168, 3) := by decide +kernel
theorem dX7_fee_4 : decode cX7_fee 4 = .ok (.ifCond .eq 18, 3) := by decide +kernel
theorem dX7_fee_7 : decode cX7_fee 7 = .ok (.iload_n 2, 1) := by decide +kernel
theorem dX7_fee_8 : decode cX7_fee 8 = .ok (.ifCond .lt 14, 3) := by decide +kernel
theorem dX7_fee_11 : decode cX7_fee 11 = .ok (.iload_n 3, 1) := by decide +kernel
theorem dX7_fee_12 : decode cX7_fee 12 = .ok (.iload_n 2, 1) := by decide +kernel
theorem dX7_fee_13 : decode cX7_fee 13 = .ok (.if_icmp .le 9, 3) := by decide +kernel
theorem dX7_fee_16 : decode cX7_fee 16 = .ok (.iload_n 3, 1) := by decide +kernel
theorem dX7_fee_17 : decode cX7_fee 17 = .ok (.ldc 171, 2) := by decide +kernel
theorem dX7_fee_19 : decode cX7_fee 19 = .ok (.if_icmp .le 5, 3) := by decide +kernel
theorem dX7_fee_22 : decode cX7_fee 22 = .ok (.iconst (-1), 1) := by decide +kernel
theorem dX7_fee_23 : decode cX7_fee 23 = .ok (.ireturn, 1) := by decide +kernel
theorem dX7_fee_24 : decode cX7_fee 24 = .ok (.aload_n 0, 1) := by decide +kernel
theorem dX7_fee_25 : decode cX7_fee 25 = .ok (.iload_n 1, 1) := by decide +kernel
theorem dX7_fee_26 : decode cX7_fee 26 = .ok (.iconst 2, 1) := by decide +kernel
theorem dX7_fee_27 : decode cX7_fee 27 = .ok (.invokestatic 172, 3) := by decide +kernel
theorem dX7_fee_30 : decode cX7_fee 30 = .ok (.invokevirtual 99, 3) := by decide +kernel
theorem dX7_fee_33 : decode cX7_fee 33 = .ok (.ifCond .eq 7, 3) := by decide +kernel
theorem dX7_fee_36 : decode cX7_fee 36 = .ok (.iconst 0, 1) := by decide +kernel
theorem dX7_fee_37 : decode cX7_fee 37 = .ok (.goto 4, 3) := by decide +kernel
theorem dX7_fee_40 : decode cX7_fee 40 = .ok (.iconst 1, 1) := by decide +kernel
theorem dX7_fee_41 : decode cX7_fee 41 = .ok (.istore 4, 2) := by decide +kernel
theorem dX7_fee_43 : decode cX7_fee 43 = .ok (.iconst 0, 1) := by decide +kernel
theorem dX7_fee_44 : decode cX7_fee 44 = .ok (.istore 5, 2) := by decide +kernel
theorem dX7_fee_46 : decode cX7_fee 46 = .ok (.iload 5, 2) := by decide +kernel
theorem dX7_fee_48 : decode cX7_fee 48 = .ok (.iconst 3, 1) := by decide +kernel
theorem dX7_fee_49 : decode cX7_fee 49 = .ok (.if_icmp .ge 20, 3) := by decide +kernel
theorem dX7_fee_52 : decode cX7_fee 52 = .ok (.aload_n 0, 1) := by decide +kernel
theorem dX7_fee_53 : decode cX7_fee 53 = .ok (.iload_n 1, 1) := by decide +kernel
theorem dX7_fee_54 : decode cX7_fee 54 = .ok (.iload 5, 2) := by decide +kernel
theorem dX7_fee_56 : decode cX7_fee 56 = .ok (.invokestatic 172, 3) := by decide +kernel
theorem dX7_fee_59 : decode cX7_fee 59 = .ok (.lconst 0, 1) := by decide +kernel
theorem dX7_fee_60 : decode cX7_fee 60 = .ok (.invokevirtual 62, 3) := by decide +kernel
theorem dX7_fee_63 : decode cX7_fee 63 = .ok (.iinc 5 1, 3) := by decide +kernel
theorem dX7_fee_66 : decode cX7_fee 66 = .ok (.goto (-20), 3) := by decide +kernel
theorem dX7_fee_69 : decode cX7_fee 69 = .ok (.aload_n 0, 1) := by decide +kernel
theorem dX7_fee_70 : decode cX7_fee 70 = .ok (.getfield 16, 3) := by decide +kernel
theorem dX7_fee_73 : decode cX7_fee 73 = .ok (.iload_n 1, 1) := by decide +kernel
theorem dX7_fee_74 : decode cX7_fee 74 = .ok (.iload_n 2, 1) := by decide +kernel
theorem dX7_fee_75 : decode cX7_fee 75 = .ok (.iastore, 1) := by decide +kernel
theorem dX7_fee_76 : decode cX7_fee 76 = .ok (.aload_n 0, 1) := by decide +kernel
theorem dX7_fee_77 : decode cX7_fee 77 = .ok (.getfield 20, 3) := by decide +kernel
theorem dX7_fee_80 : decode cX7_fee 80 = .ok (.iload_n 1, 1) := by decide +kernel
theorem dX7_fee_81 : decode cX7_fee 81 = .ok (.iload_n 3, 1) := by decide +kernel
theorem dX7_fee_82 : decode cX7_fee 82 = .ok (.iastore, 1) := by decide +kernel
theorem dX7_fee_83 : decode cX7_fee 83 = .ok (.iload 4, 2) := by decide +kernel
theorem dX7_fee_85 : decode cX7_fee 85 = .ok (.ireturn, 1) := by decide +kernel
theorem dX7_root_0 : decode cX7_root 0 = .ok (.aload_n 0, 1) := by decide +kernel
theorem dX7_root_1 : decode cX7_root 1 = .ok (.bipush 32, 2) := by decide +kernel
theorem dX7_root_3 : decode cX7_root 3 = .ok (.lconst 0, 1) := by decide +kernel
theorem dX7_root_4 : decode cX7_root 4 = .ok (.invokevirtual 62, 3) := by decide +kernel
theorem dX7_root_7 : decode cX7_root 7 = .ok (.bipush 99, 2) := by decide +kernel
theorem dX7_root_9 : decode cX7_root 9 = .ok (.istore_n 2, 1) := by decide +kernel
theorem dX7_root_10 : decode cX7_root 10 = .ok (.iload_n 2, 1) := by decide +kernel
theorem dX7_root_11 : decode cX7_root 11 = .ok (.ifCond .lt 77, 3) := by decide +kernel
theorem dX7_root_14 : decode cX7_root 14 = .ok (.aload_n 0, 1) := by decide +kernel
theorem dX7_root_15 : decode cX7_root 15 = .ok (.getfield 7, 3) := by decide +kernel
theorem dX7_root_18 : decode cX7_root 18 = .ok (.sipush 384, 3) := by decide +kernel
theorem dX7_root_21 : decode cX7_root 21 = .ok (.iload_n 2, 1) := by decide +kernel
theorem dX7_root_22 : decode cX7_root 22 = .ok (.bipush 32, 2) := by decide +kernel
theorem dX7_root_24 : decode cX7_root 24 = .ok (.idiv, 1) := by decide +kernel
theorem dX7_root_25 : decode cX7_root 25 = .ok (.iadd, 1) := by decide +kernel
theorem dX7_root_26 : decode cX7_root 26 = .ok (.dup2, 1) := by decide +kernel
theorem dX7_root_27 : decode cX7_root 27 = .ok (.laload, 1) := by decide +kernel
theorem dX7_root_28 : decode cX7_root 28 = .ok (.lconst 1, 1) := by decide +kernel
theorem dX7_root_29 : decode cX7_root 29 = .ok (.iload_n 2, 1) := by decide +kernel
theorem dX7_root_30 : decode cX7_root 30 = .ok (.bipush 32, 2) := by decide +kernel
theorem dX7_root_32 : decode cX7_root 32 = .ok (.irem, 1) := by decide +kernel
theorem dX7_root_33 : decode cX7_root 33 = .ok (.lshl, 1) := by decide +kernel
theorem dX7_root_34 : decode cX7_root 34 = .ok (.lor, 1) := by decide +kernel
theorem dX7_root_35 : decode cX7_root 35 = .ok (.lastore, 1) := by decide +kernel
theorem dX7_root_36 : decode cX7_root 36 = .ok (.aload_n 0, 1) := by decide +kernel
theorem dX7_root_37 : decode cX7_root 37 = .ok (.bipush 33, 2) := by decide +kernel
theorem dX7_root_39 : decode cX7_root 39 = .ok (.bipush 32, 2) := by decide +kernel
theorem dX7_root_41 : decode cX7_root 41 = .ok (.bipush 32, 2) := by decide +kernel
theorem dX7_root_43 : decode cX7_root 43 = .ok (.invokevirtual 108, 3) := by decide +kernel
theorem dX7_root_46 : decode cX7_root 46 = .ok (.aload_n 0, 1) := by decide +kernel
theorem dX7_root_47 : decode cX7_root 47 = .ok (.bipush 33, 2) := by decide +kernel
theorem dX7_root_49 : decode cX7_root 49 = .ok (.iload_n 1, 1) := by decide +kernel
theorem dX7_root_50 : decode cX7_root 50 = .ok (.invokevirtual 76, 3) := by decide +kernel
theorem dX7_root_53 : decode cX7_root 53 = .ok (.ifCond .le 29, 3) := by decide +kernel
theorem dX7_root_56 : decode cX7_root 56 = .ok (.aload_n 0, 1) := by decide +kernel
theorem dX7_root_57 : decode cX7_root 57 = .ok (.getfield 7, 3) := by decide +kernel
theorem dX7_root_60 : decode cX7_root 60 = .ok (.sipush 384, 3) := by decide +kernel
theorem dX7_root_63 : decode cX7_root 63 = .ok (.iload_n 2, 1) := by decide +kernel
theorem dX7_root_64 : decode cX7_root 64 = .ok (.bipush 32, 2) := by decide +kernel
theorem dX7_root_66 : decode cX7_root 66 = .ok (.idiv, 1) := by decide +kernel
theorem dX7_root_67 : decode cX7_root 67 = .ok (.iadd, 1) := by decide +kernel
theorem dX7_root_68 : decode cX7_root 68 = .ok (.dup2, 1) := by decide +kernel
theorem dX7_root_69 : decode cX7_root 69 = .ok (.laload, 1) := by decide +kernel
theorem dX7_root_70 : decode cX7_root 70 = .ok (.lconst 1, 1) := by decide +kernel
theorem dX7_root_71 : decode cX7_root 71 = .ok (.iload_n 2, 1) := by decide +kernel
theorem dX7_root_72 : decode cX7_root 72 = .ok (.bipush 32, 2) := by decide +kernel
theorem dX7_root_74 : decode cX7_root 74 = .ok (.irem, 1) := by decide +kernel
theorem dX7_root_75 : decode cX7_root 75 = .ok (.lshl, 1) := by decide +kernel
theorem dX7_root_76 : decode cX7_root 76 = .ok (.ldc2_w 91, 3) := by decide +kernel
theorem dX7_root_79 : decode cX7_root 79 = .ok (.lxor, 1) := by decide +kernel
theorem dX7_root_80 : decode cX7_root 80 = .ok (.land, 1) := by decide +kernel
theorem dX7_root_81 : decode cX7_root 81 = .ok (.lastore, 1) := by decide +kernel
theorem dX7_root_82 : decode cX7_root 82 = .ok (.iinc 2 (-1), 3) := by decide +kernel
theorem dX7_root_85 : decode cX7_root 85 = .ok (.goto (-75), 3) := by decide +kernel
theorem dX7_root_88 : decode cX7_root 88 = .ok (.return_, 1) := by decide +kernel
theorem dX7_join_0 : decode cX7_join 0 = .ok (.iload_n 1, 1) := by decide +kernel
theorem dX7_join_1 : decode cX7_join 1 = .ok (.invokestatic 168, 3) := by decide +kernel
theorem dX7_join_4 : decode cX7_join 4 = .ok (.ifCond .eq 25, 3) := by decide +kernel
theorem dX7_join_7 : decode cX7_join 7 = .ok (.iload_n 2, 1) := by decide +kernel
theorem dX7_join_8 : decode cX7_join 8 = .ok (.invokestatic 85, 3) := by decide +kernel
theorem dX7_join_11 : decode cX7_join 11 = .ok (.ifCond .eq 18, 3) := by decide +kernel
theorem dX7_join_14 : decode cX7_join 14 = .ok (.iload_n 3, 1) := by decide +kernel
theorem dX7_join_15 : decode cX7_join 15 = .ok (.invokestatic 85, 3) := by decide +kernel
theorem dX7_join_18 : decode cX7_join 18 = .ok (.ifCond .eq 11, 3) := by decide +kernel
theorem dX7_join_21 : decode cX7_join 21 = .ok (.iload 4, 2) := by decide +kernel
theorem dX7_join_23 : decode cX7_join 23 = .ok (.invokestatic 85, 3) := by decide +kernel
theorem dX7_join_26 : decode cX7_join 26 = .ok (.ifCond .ne 5, 3) := by decide +kernel
theorem dX7_join_29 : decode cX7_join 29 = .ok (.iconst (-1), 1) := by decide +kernel
theorem dX7_join_30 : decode cX7_join 30 = .ok (.ireturn, 1) := by decide +kernel
theorem dX7_join_31 : decode cX7_join 31 = .ok (.aload_n 0, 1) := by decide +kernel
theorem dX7_join_32 : decode cX7_join 32 = .ok (.iload_n 2, 1) := by decide +kernel
theorem dX7_join_33 : decode cX7_join 33 = .ok (.invokevirtual 175, 3) := by decide +kernel
theorem dX7_join_36 : decode cX7_join 36 = .ok (.ifCond .eq 11, 3) := by decide +kernel
theorem dX7_join_39 : decode cX7_join 39 = .ok (.aload_n 0, 1) := by decide +kernel
theorem dX7_join_40 : decode cX7_join 40 = .ok (.iload_n 3, 1) := by decide +kernel
theorem dX7_join_41 : decode cX7_join 41 = .ok (.invokevirtual 175, 3) := by decide +kernel
theorem dX7_join_44 : decode cX7_join 44 = .ok (.ifCond .ne 6, 3) := by decide +kernel
theorem dX7_join_47 : decode cX7_join 47 = .ok (.bipush (-2), 2) := by decide +kernel
theorem dX7_join_49 : decode cX7_join 49 = .ok (.ireturn, 1) := by decide +kernel
theorem dX7_join_50 : decode cX7_join 50 = .ok (.iload_n 1, 1) := by decide +kernel
theorem dX7_join_51 : decode cX7_join 51 = .ok (.iconst 0, 1) := by decide +kernel
theorem dX7_join_52 : decode cX7_join 52 = .ok (.invokestatic 172, 3) := by decide +kernel
theorem dX7_join_55 : decode cX7_join 55 = .ok (.istore 5, 2) := by decide +kernel
theorem dX7_join_57 : decode cX7_join 57 = .ok (.iload_n 1, 1) := by decide +kernel
theorem dX7_join_58 : decode cX7_join 58 = .ok (.iconst 1, 1) := by decide +kernel
theorem dX7_join_59 : decode cX7_join 59 = .ok (.invokestatic 172, 3) := by decide +kernel
theorem dX7_join_62 : decode cX7_join 62 = .ok (.istore 6, 2) := by decide +kernel
theorem dX7_join_64 : decode cX7_join 64 = .ok (.iload_n 1, 1) := by decide +kernel
theorem dX7_join_65 : decode cX7_join 65 = .ok (.iconst 2, 1) := by decide +kernel
theorem dX7_join_66 : decode cX7_join 66 = .ok (.invokestatic 172, 3) := by decide +kernel
theorem dX7_join_69 : decode cX7_join 69 = .ok (.istore 7, 2) := by decide +kernel
theorem dX7_join_71 : decode cX7_join 71 = .ok (.aload_n 0, 1) := by decide +kernel
theorem dX7_join_72 : decode cX7_join 72 = .ok (.iload 7, 2) := by decide +kernel
theorem dX7_join_74 : decode cX7_join 74 = .ok (.invokevirtual 99, 3) := by decide +kernel
theorem dX7_join_77 : decode cX7_join 77 = .ok (.ifCond .eq 28, 3) := by decide +kernel
theorem dX7_join_80 : decode cX7_join 80 = .ok (.aload_n 0, 1) := by decide +kernel
theorem dX7_join_81 : decode cX7_join 81 = .ok (.bipush 30, 2) := by decide +kernel
theorem dX7_join_83 : decode cX7_join 83 = .ok (.iload_n 2, 1) := by decide +kernel
theorem dX7_join_84 : decode cX7_join 84 = .ok (.iload_n 3, 1) := by decide +kernel
theorem dX7_join_85 : decode cX7_join 85 = .ok (.invokevirtual 108, 3) := by decide +kernel
theorem dX7_join_88 : decode cX7_join 88 = .ok (.aload_n 0, 1) := by decide +kernel
theorem dX7_join_89 : decode cX7_join 89 = .ok (.bipush 30, 2) := by decide +kernel
theorem dX7_join_91 : decode cX7_join 91 = .ok (.invokevirtual 178, 3) := by decide +kernel
theorem dX7_join_94 : decode cX7_join 94 = .ok (.aload_n 0, 1) := by decide +kernel
theorem dX7_join_95 : decode cX7_join 95 = .ok (.bipush 31, 2) := by decide +kernel
theorem dX7_join_97 : decode cX7_join 97 = .ok (.bipush 32, 2) := by decide +kernel
theorem dX7_join_99 : decode cX7_join 99 = .ok (.invokevirtual 72, 3) := by decide +kernel
theorem dX7_join_102 : decode cX7_join 102 = .ok (.goto 64, 3) := by decide +kernel
theorem dX7_join_105 : decode cX7_join 105 = .ok (.aload_n 0, 1) := by decide +kernel
theorem dX7_join_106 : decode cX7_join 106 = .ok (.bipush 30, 2) := by decide +kernel
theorem dX7_join_108 : decode cX7_join 108 = .ok (.iload_n 2, 1) := by decide +kernel
theorem dX7_join_109 : decode cX7_join 109 = .ok (.iload 7, 2) := by decide +kernel
theorem dX7_join_111 : decode cX7_join 111 = .ok (.invokevirtual 108, 3) := by decide +kernel
theorem dX7_join_114 : decode cX7_join 114 = .ok (.aload_n 0, 1) := by decide +kernel
theorem dX7_join_115 : decode cX7_join 115 = .ok (.bipush 30, 2) := by decide +kernel
theorem dX7_join_117 : decode cX7_join 117 = .ok (.iload 5, 2) := by decide +kernel
theorem dX7_join_119 : decode cX7_join 119 = .ok (.invokevirtual 111, 3) := by decide +kernel
theorem dX7_join_122 : decode cX7_join 122 = .ok (.aload_n 0, 1) := by decide +kernel
theorem dX7_join_123 : decode cX7_join 123 = .ok (.bipush 31, 2) := by decide +kernel
theorem dX7_join_125 : decode cX7_join 125 = .ok (.bipush 32, 2) := by decide +kernel
theorem dX7_join_127 : decode cX7_join 127 = .ok (.invokevirtual 72, 3) := by decide +kernel
theorem dX7_join_130 : decode cX7_join 130 = .ok (.aload_n 0, 1) := by decide +kernel
theorem dX7_join_131 : decode cX7_join 131 = .ok (.bipush 30, 2) := by decide +kernel
theorem dX7_join_133 : decode cX7_join 133 = .ok (.iload_n 3, 1) := by decide +kernel
theorem dX7_join_134 : decode cX7_join 134 = .ok (.iload 7, 2) := by decide +kernel
theorem dX7_join_136 : decode cX7_join 136 = .ok (.invokevirtual 108, 3) := by decide +kernel
theorem dX7_join_139 : decode cX7_join 139 = .ok (.aload_n 0, 1) := by decide +kernel
theorem dX7_join_140 : decode cX7_join 140 = .ok (.bipush 30, 2) := by decide +kernel
theorem dX7_join_142 : decode cX7_join 142 = .ok (.iload 6, 2) := by decide +kernel
theorem dX7_join_144 : decode cX7_join 144 = .ok (.invokevirtual 111, 3) := by decide +kernel
theorem dX7_join_147 : decode cX7_join 147 = .ok (.aload_n 0, 1) := by decide +kernel
theorem dX7_join_148 : decode cX7_join 148 = .ok (.bipush 32, 2) := by decide +kernel
theorem dX7_join_150 : decode cX7_join 150 = .ok (.bipush 31, 2) := by decide +kernel
theorem dX7_join_152 : decode cX7_join 152 = .ok (.invokevirtual 76, 3) := by decide +kernel
theorem dX7_join_155 : decode cX7_join 155 = .ok (.ifCond .ge 11, 3) := by decide +kernel
theorem dX7_join_158 : decode cX7_join 158 = .ok (.aload_n 0, 1) := by decide +kernel
theorem dX7_join_159 : decode cX7_join 159 = .ok (.bipush 31, 2) := by decide +kernel
theorem dX7_join_161 : decode cX7_join 161 = .ok (.bipush 32, 2) := by decide +kernel
theorem dX7_join_163 : decode cX7_join 163 = .ok (.invokevirtual 72, 3) := by decide +kernel
theorem dX7_join_166 : decode cX7_join 166 = .ok (.aload_n 0, 1) := by decide +kernel
theorem dX7_join_167 : decode cX7_join 167 = .ok (.bipush 28, 2) := by decide +kernel
theorem dX7_join_169 : decode cX7_join 169 = .ok (.iload 5, 2) := by decide +kernel
theorem dX7_join_171 : decode cX7_join 171 = .ok (.iload_n 2, 1) := by decide +kernel
theorem dX7_join_172 : decode cX7_join 172 = .ok (.invokevirtual 66, 3) := by decide +kernel
theorem dX7_join_175 : decode cX7_join 175 = .ok (.aload_n 0, 1) := by decide +kernel
theorem dX7_join_176 : decode cX7_join 176 = .ok (.bipush 29, 2) := by decide +kernel
theorem dX7_join_178 : decode cX7_join 178 = .ok (.iload 6, 2) := by decide +kernel
theorem dX7_join_180 : decode cX7_join 180 = .ok (.iload_n 3, 1) := by decide +kernel
theorem dX7_join_181 : decode cX7_join 181 = .ok (.invokevirtual 66, 3) := by decide +kernel
theorem dX7_join_184 : decode cX7_join 184 = .ok (.aload_n 0, 1) := by decide +kernel
theorem dX7_join_185 : decode cX7_join 185 = .ok (.bipush 30, 2) := by decide +kernel
theorem dX7_join_187 : decode cX7_join 187 = .ok (.iload 7, 2) := by decide +kernel
theorem dX7_join_189 : decode cX7_join 189 = .ok (.bipush 31, 2) := by decide +kernel
theorem dX7_join_191 : decode cX7_join 191 = .ok (.invokevirtual 66, 3) := by decide +kernel
theorem dX7_join_194 : decode cX7_join 194 = .ok (.aload_n 0, 1) := by decide +kernel
theorem dX7_join_195 : decode cX7_join 195 = .ok (.bipush 28, 2) := by decide +kernel
theorem dX7_join_197 : decode cX7_join 197 = .ok (.invokevirtual 175, 3) := by decide +kernel
theorem dX7_join_200 : decode cX7_join 200 = .ok (.ifCond .eq 21, 3) := by decide +kernel
theorem dX7_join_203 : decode cX7_join 203 = .ok (.aload_n 0, 1) := by decide +kernel
theorem dX7_join_204 : decode cX7_join 204 = .ok (.bipush 29, 2) := by decide +kernel
theorem dX7_join_206 : decode cX7_join 206 = .ok (.invokevirtual 175, 3) := by decide +kernel
theorem dX7_join_209 : decode cX7_join 209 = .ok (.ifCond .eq 12, 3) := by decide +kernel
theorem dX7_join_212 : decode cX7_join 212 = .ok (.aload_n 0, 1) := by decide +kernel
theorem dX7_join_213 : decode cX7_join 213 = .ok (.bipush 30, 2) := by decide +kernel
theorem dX7_join_215 : decode cX7_join 215 = .ok (.invokevirtual 175, 3) := by decide +kernel
theorem dX7_join_218 : decode cX7_join 218 = .ok (.ifCond .ne 6, 3) := by decide +kernel
theorem dX7_join_221 : decode cX7_join 221 = .ok (.bipush (-2), 2) := by decide +kernel
theorem dX7_join_223 : decode cX7_join 223 = .ok (.ireturn, 1) := by decide +kernel
theorem dX7_join_224 : decode cX7_join 224 = .ok (.aload_n 0, 1) := by decide +kernel
theorem dX7_join_225 : decode cX7_join 225 = .ok (.bipush 31, 2) := by decide +kernel
theorem dX7_join_227 : decode cX7_join 227 = .ok (.invokevirtual 99, 3) := by decide +kernel
theorem dX7_join_230 : decode cX7_join 230 = .ok (.ifCond .eq 6, 3) := by decide +kernel
theorem dX7_join_233 : decode cX7_join 233 = .ok (.bipush (-4), 2) := by decide +kernel
theorem dX7_join_235 : decode cX7_join 235 = .ok (.ireturn, 1) := by decide +kernel
theorem dX7_join_236 : decode cX7_join 236 = .ok (.aload_n 0, 1) := by decide +kernel
theorem dX7_join_237 : decode cX7_join 237 = .ok (.iload 5, 2) := by decide +kernel
theorem dX7_join_239 : decode cX7_join 239 = .ok (.bipush 28, 2) := by decide +kernel
theorem dX7_join_241 : decode cX7_join 241 = .ok (.invokevirtual 72, 3) := by decide +kernel
theorem dX7_join_244 : decode cX7_join 244 = .ok (.aload_n 0, 1) := by decide +kernel
theorem dX7_join_245 : decode cX7_join 245 = .ok (.iload 6, 2) := by decide +kernel
theorem dX7_join_247 : decode cX7_join 247 = .ok (.bipush 29, 2) := by decide +kernel
theorem dX7_join_249 : decode cX7_join 249 = .ok (.invokevirtual 72, 3) := by decide +kernel
theorem dX7_join_252 : decode cX7_join 252 = .ok (.aload_n 0, 1) := by decide +kernel
theorem dX7_join_253 : decode cX7_join 253 = .ok (.iload 7, 2) := by decide +kernel
theorem dX7_join_255 : decode cX7_join 255 = .ok (.bipush 30, 2) := by decide +kernel
theorem dX7_join_257 : decode cX7_join 257 = .ok (.invokevirtual 72, 3) := by decide +kernel
theorem dX7_join_260 : decode cX7_join 260 = .ok (.aload_n 0, 1) := by decide +kernel
theorem dX7_join_261 : decode cX7_join 261 = .ok (.iload 4, 2) := by decide +kernel
theorem dX7_join_263 : decode cX7_join 263 = .ok (.bipush 31, 2) := by decide +kernel
theorem dX7_join_265 : decode cX7_join 265 = .ok (.invokevirtual 72, 3) := by decide +kernel
theorem dX7_join_268 : decode cX7_join 268 = .ok (.iconst 1, 1) := by decide +kernel
theorem dX7_join_269 : decode cX7_join 269 = .ok (.ireturn, 1) := by decide +kernel
theorem dX7_leave_0 : decode cX7_leave 0 = .ok (.iload_n 1, 1) := by decide +kernel
theorem dX7_leave_1 : decode cX7_leave 1 = .ok (.invokestatic 168, 3) := by decide +kernel
theorem dX7_leave_4 : decode cX7_leave 4 = .ok (.ifCond .eq 25, 3) := by decide +kernel
theorem dX7_leave_7 : decode cX7_leave 7 = .ok (.iload_n 2, 1) := by decide +kernel
theorem dX7_leave_8 : decode cX7_leave 8 = .ok (.invokestatic 85, 3) := by decide +kernel
theorem dX7_leave_11 : decode cX7_leave 11 = .ok (.ifCond .eq 18, 3) := by decide +kernel
theorem dX7_leave_14 : decode cX7_leave 14 = .ok (.iload_n 3, 1) := by decide +kernel
theorem dX7_leave_15 : decode cX7_leave 15 = .ok (.invokestatic 85, 3) := by decide +kernel
theorem dX7_leave_18 : decode cX7_leave 18 = .ok (.ifCond .eq 11, 3) := by decide +kernel
theorem dX7_leave_21 : decode cX7_leave 21 = .ok (.iload 4, 2) := by decide +kernel
theorem dX7_leave_23 : decode cX7_leave 23 = .ok (.invokestatic 85, 3) := by decide +kernel
theorem dX7_leave_26 : decode cX7_leave 26 = .ok (.ifCond .ne 5, 3) := by decide +kernel
theorem dX7_leave_29 : decode cX7_leave 29 = .ok (.iconst (-1), 1) := by decide +kernel
theorem dX7_leave_30 : decode cX7_leave 30 = .ok (.ireturn, 1) := by decide +kernel
theorem dX7_leave_31 : decode cX7_leave 31 = .ok (.iload_n 1, 1) := by decide +kernel
theorem dX7_leave_32 : decode cX7_leave 32 = .ok (.iconst 2, 1) := by decide +kernel
theorem dX7_leave_33 : decode cX7_leave 33 = .ok (.invokestatic 172, 3) := by decide +kernel
theorem dX7_leave_36 : decode cX7_leave 36 = .ok (.istore 5, 2) := by decide +kernel
theorem dX7_leave_38 : decode cX7_leave 38 = .ok (.aload_n 0, 1) := by decide +kernel
theorem dX7_leave_39 : decode cX7_leave 39 = .ok (.iload_n 2, 1) := by decide +kernel
theorem dX7_leave_40 : decode cX7_leave 40 = .ok (.iload 5, 2) := by decide +kernel
theorem dX7_leave_42 : decode cX7_leave 42 = .ok (.invokevirtual 76, 3) := by decide +kernel
theorem dX7_leave_45 : decode cX7_leave 45 = .ok (.ifCond .le 6, 3) := by decide +kernel
theorem dX7_leave_48 : decode cX7_leave 48 = .ok (.bipush (-3), 2) := by decide +kernel
theorem dX7_leave_50 : decode cX7_leave 50 = .ok (.ireturn, 1) := by decide +kernel
theorem dX7_leave_51 : decode cX7_leave 51 = .ok (.aload_n 0, 1) := by decide +kernel
theorem dX7_leave_52 : decode cX7_leave 52 = .ok (.iload_n 2, 1) := by decide +kernel
theorem dX7_leave_53 : decode cX7_leave 53 = .ok (.invokevirtual 99, 3) := by decide +kernel
theorem dX7_leave_56 : decode cX7_leave 56 = .ok (.ifCond .eq 6, 3) := by decide +kernel
theorem dX7_leave_59 : decode cX7_leave 59 = .ok (.bipush (-4), 2) := by decide +kernel
theorem dX7_leave_61 : decode cX7_leave 61 = .ok (.ireturn, 1) := by decide +kernel
theorem dX7_leave_62 : decode cX7_leave 62 = .ok (.aload_n 0, 1) := by decide +kernel
theorem dX7_leave_63 : decode cX7_leave 63 = .ok (.bipush 30, 2) := by decide +kernel
theorem dX7_leave_65 : decode cX7_leave 65 = .ok (.iload_n 1, 1) := by decide +kernel
theorem dX7_leave_66 : decode cX7_leave 66 = .ok (.iconst 0, 1) := by decide +kernel
theorem dX7_leave_67 : decode cX7_leave 67 = .ok (.invokestatic 172, 3) := by decide +kernel
theorem dX7_leave_70 : decode cX7_leave 70 = .ok (.iload_n 2, 1) := by decide +kernel
theorem dX7_leave_71 : decode cX7_leave 71 = .ok (.invokevirtual 108, 3) := by decide +kernel
theorem dX7_leave_74 : decode cX7_leave 74 = .ok (.aload_n 0, 1) := by decide +kernel
theorem dX7_leave_75 : decode cX7_leave 75 = .ok (.bipush 30, 2) := by decide +kernel
theorem dX7_leave_77 : decode cX7_leave 77 = .ok (.iload 5, 2) := by decide +kernel
theorem dX7_leave_79 : decode cX7_leave 79 = .ok (.invokevirtual 111, 3) := by decide +kernel
theorem dX7_leave_82 : decode cX7_leave 82 = .ok (.aload_n 0, 1) := by decide +kernel
theorem dX7_leave_83 : decode cX7_leave 83 = .ok (.bipush 28, 2) := by decide +kernel
theorem dX7_leave_85 : decode cX7_leave 85 = .ok (.bipush 32, 2) := by decide +kernel
theorem dX7_leave_87 : decode cX7_leave 87 = .ok (.invokevirtual 72, 3) := by decide +kernel
theorem dX7_leave_90 : decode cX7_leave 90 = .ok (.aload_n 0, 1) := by decide +kernel
theorem dX7_leave_91 : decode cX7_leave 91 = .ok (.bipush 30, 2) := by decide +kernel
theorem dX7_leave_93 : decode cX7_leave 93 = .ok (.iload_n 1, 1) := by decide +kernel
theorem dX7_leave_94 : decode cX7_leave 94 = .ok (.iconst 1, 1) := by decide +kernel
theorem dX7_leave_95 : decode cX7_leave 95 = .ok (.invokestatic 172, 3) := by decide +kernel
theorem dX7_leave_98 : decode cX7_leave 98 = .ok (.iload_n 2, 1) := by decide +kernel
theorem dX7_leave_99 : decode cX7_leave 99 = .ok (.invokevirtual 108, 3) := by decide +kernel
theorem dX7_leave_102 : decode cX7_leave 102 = .ok (.aload_n 0, 1) := by decide +kernel
theorem dX7_leave_103 : decode cX7_leave 103 = .ok (.bipush 30, 2) := by decide +kernel
theorem dX7_leave_105 : decode cX7_leave 105 = .ok (.iload 5, 2) := by decide +kernel
theorem dX7_leave_107 : decode cX7_leave 107 = .ok (.invokevirtual 111, 3) := by decide +kernel
theorem dX7_leave_110 : decode cX7_leave 110 = .ok (.aload_n 0, 1) := by decide +kernel
theorem dX7_leave_111 : decode cX7_leave 111 = .ok (.bipush 29, 2) := by decide +kernel
theorem dX7_leave_113 : decode cX7_leave 113 = .ok (.bipush 32, 2) := by decide +kernel
theorem dX7_leave_115 : decode cX7_leave 115 = .ok (.invokevirtual 72, 3) := by decide +kernel
theorem dX7_leave_118 : decode cX7_leave 118 = .ok (.aload_n 0, 1) := by decide +kernel
theorem dX7_leave_119 : decode cX7_leave 119 = .ok (.iload_n 1, 1) := by decide +kernel
theorem dX7_leave_120 : decode cX7_leave 120 = .ok (.iconst 0, 1) := by decide +kernel
theorem dX7_leave_121 : decode cX7_leave 121 = .ok (.invokestatic 172, 3) := by decide +kernel
theorem dX7_leave_124 : decode cX7_leave 124 = .ok (.iload_n 1, 1) := by decide +kernel
theorem dX7_leave_125 : decode cX7_leave 125 = .ok (.iconst 0, 1) := by decide +kernel
theorem dX7_leave_126 : decode cX7_leave 126 = .ok (.invokestatic 172, 3) := by decide +kernel
theorem dX7_leave_129 : decode cX7_leave 129 = .ok (.bipush 28, 2) := by decide +kernel
theorem dX7_leave_131 : decode cX7_leave 131 = .ok (.invokevirtual 80, 3) := by decide +kernel
theorem dX7_leave_134 : decode cX7_leave 134 = .ok (.aload_n 0, 1) := by decide +kernel
theorem dX7_leave_135 : decode cX7_leave 135 = .ok (.iload_n 1, 1) := by decide +kernel
theorem dX7_leave_136 : decode cX7_leave 136 = .ok (.iconst 1, 1) := by decide +kernel
theorem dX7_leave_137 : decode cX7_leave 137 = .ok (.invokestatic 172, 3) := by decide +kernel
theorem dX7_leave_140 : decode cX7_leave 140 = .ok (.iload_n 1, 1) := by decide +kernel
theorem dX7_leave_141 : decode cX7_leave 141 = .ok (.iconst 1, 1) := by decide +kernel
theorem dX7_leave_142 : decode cX7_leave 142 = .ok (.invokestatic 172, 3) := by decide +kernel
theorem dX7_leave_145 : decode cX7_leave 145 = .ok (.bipush 29, 2) := by decide +kernel
theorem dX7_leave_147 : decode cX7_leave 147 = .ok (.invokevirtual 80, 3) := by decide +kernel
theorem dX7_leave_150 : decode cX7_leave 150 = .ok (.aload_n 0, 1) := by decide +kernel
theorem dX7_leave_151 : decode cX7_leave 151 = .ok (.iload 5, 2) := by decide +kernel
theorem dX7_leave_153 : decode cX7_leave 153 = .ok (.iload 5, 2) := by decide +kernel
theorem dX7_leave_155 : decode cX7_leave 155 = .ok (.iload_n 2, 1) := by decide +kernel
theorem dX7_leave_156 : decode cX7_leave 156 = .ok (.invokevirtual 80, 3) := by decide +kernel
theorem dX7_leave_159 : decode cX7_leave 159 = .ok (.aload_n 0, 1) := by decide +kernel
theorem dX7_leave_160 : decode cX7_leave 160 = .ok (.iload_n 3, 1) := by decide +kernel
theorem dX7_leave_161 : decode cX7_leave 161 = .ok (.bipush 28, 2) := by decide +kernel
theorem dX7_leave_163 : decode cX7_leave 163 = .ok (.invokevirtual 72, 3) := by decide +kernel
theorem dX7_leave_166 : decode cX7_leave 166 = .ok (.aload_n 0, 1) := by decide +kernel
theorem dX7_leave_167 : decode cX7_leave 167 = .ok (.iload 4, 2) := by decide +kernel
theorem dX7_leave_169 : decode cX7_leave 169 = .ok (.bipush 29, 2) := by decide +kernel
theorem dX7_leave_171 : decode cX7_leave 171 = .ok (.invokevirtual 72, 3) := by decide +kernel
theorem dX7_leave_174 : decode cX7_leave 174 = .ok (.iconst 1, 1) := by decide +kernel
theorem dX7_leave_175 : decode cX7_leave 175 = .ok (.ireturn, 1) := by decide +kernel
theorem dX7_give_0 : decode cX7_give 0 = .ok (.iload_n 1, 1) := by decide +kernel
theorem dX7_give_1 : decode cX7_give 1 = .ok (.invokestatic 168, 3) := by decide +kernel
theorem dX7_give_4 : decode cX7_give 4 = .ok (.ifCond .eq 28, 3) := by decide +kernel
theorem dX7_give_7 : decode cX7_give 7 = .ok (.iload_n 2, 1) := by decide +kernel
theorem dX7_give_8 : decode cX7_give 8 = .ok (.i2l, 1) := by decide +kernel
theorem dX7_give_9 : decode cX7_give 9 = .ok (.lconst 0, 1) := by decide +kernel
theorem dX7_give_10 : decode cX7_give 10 = .ok (.lconst 1, 1) := by decide +kernel
theorem dX7_give_11 : decode cX7_give 11 = .ok (.invokestatic 56, 3) := by decide +kernel
theorem dX7_give_14 : decode cX7_give 14 = .ok (.ifCond .eq 18, 3) := by decide +kernel
theorem dX7_give_17 : decode cX7_give 17 = .ok (.iload_n 3, 1) := by decide +kernel
theorem dX7_give_18 : decode cX7_give 18 = .ok (.invokestatic 85, 3) := by decide +kernel
theorem dX7_give_21 : decode cX7_give 21 = .ok (.ifCond .eq 11, 3) := by decide +kernel
theorem dX7_give_24 : decode cX7_give 24 = .ok (.iload 4, 2) := by decide +kernel
theorem dX7_give_26 : decode cX7_give 26 = .ok (.invokestatic 85, 3) := by decide +kernel
theorem dX7_give_29 : decode cX7_give 29 = .ok (.ifCond .ne 5, 3) := by decide +kernel
theorem dX7_give_32 : decode cX7_give 32 = .ok (.iconst (-1), 1) := by decide +kernel
theorem dX7_give_33 : decode cX7_give 33 = .ok (.ireturn, 1) := by decide +kernel
theorem dX7_give_34 : decode cX7_give 34 = .ok (.iload_n 1, 1) := by decide +kernel
theorem dX7_give_35 : decode cX7_give 35 = .ok (.iload_n 2, 1) := by decide +kernel
theorem dX7_give_36 : decode cX7_give 36 = .ok (.invokestatic 172, 3) := by decide +kernel
theorem dX7_give_39 : decode cX7_give 39 = .ok (.istore 5, 2) := by decide +kernel
theorem dX7_give_41 : decode cX7_give 41 = .ok (.iload_n 1, 1) := by decide +kernel
theorem dX7_give_42 : decode cX7_give 42 = .ok (.iconst 1, 1) := by decide +kernel
theorem dX7_give_43 : decode cX7_give 43 = .ok (.iload_n 2, 1) := by decide +kernel
theorem dX7_give_44 : decode cX7_give 44 = .ok (.isub, 1) := by decide +kernel
theorem dX7_give_45 : decode cX7_give 45 = .ok (.invokestatic 172, 3) := by decide +kernel
theorem dX7_give_48 : decode cX7_give 48 = .ok (.istore 6, 2) := by decide +kernel
theorem dX7_give_50 : decode cX7_give 50 = .ok (.aload_n 0, 1) := by decide +kernel
theorem dX7_give_51 : decode cX7_give 51 = .ok (.bipush 31, 2) := by decide +kernel
theorem dX7_give_53 : decode cX7_give 53 = .ok (.iload 5, 2) := by decide +kernel
theorem dX7_give_55 : decode cX7_give 55 = .ok (.iload_n 3, 1) := by decide +kernel
theorem dX7_give_56 : decode cX7_give 56 = .ok (.invokevirtual 66, 3) := by decide +kernel
theorem dX7_give_59 : decode cX7_give 59 = .ok (.aload_n 0, 1) := by decide +kernel
theorem dX7_give_60 : decode cX7_give 60 = .ok (.iload_n 3, 1) := by decide +kernel
theorem dX7_give_61 : decode cX7_give 61 = .ok (.invokevirtual 175, 3) := by decide +kernel
theorem dX7_give_64 : decode cX7_give 64 = .ok (.ifCond .eq 12, 3) := by decide +kernel
theorem dX7_give_67 : decode cX7_give 67 = .ok (.aload_n 0, 1) := by decide +kernel
theorem dX7_give_68 : decode cX7_give 68 = .ok (.bipush 31, 2) := by decide +kernel
theorem dX7_give_70 : decode cX7_give 70 = .ok (.invokevirtual 175, 3) := by decide +kernel
theorem dX7_give_73 : decode cX7_give 73 = .ok (.ifCond .ne 6, 3) := by decide +kernel
theorem dX7_give_76 : decode cX7_give 76 = .ok (.bipush (-2), 2) := by decide +kernel
theorem dX7_give_78 : decode cX7_give 78 = .ok (.ireturn, 1) := by decide +kernel
theorem dX7_give_79 : decode cX7_give 79 = .ok (.aload_n 0, 1) := by decide +kernel
theorem dX7_give_80 : decode cX7_give 80 = .ok (.iload_n 1, 1) := by decide +kernel
theorem dX7_give_81 : decode cX7_give 81 = .ok (.iconst 2, 1) := by decide +kernel
theorem dX7_give_82 : decode cX7_give 82 = .ok (.invokestatic 172, 3) := by decide +kernel
theorem dX7_give_85 : decode cX7_give 85 = .ok (.invokevirtual 99, 3) := by decide +kernel
theorem dX7_give_88 : decode cX7_give 88 = .ok (.ifCond .eq 6, 3) := by decide +kernel
theorem dX7_give_91 : decode cX7_give 91 = .ok (.bipush (-4), 2) := by decide +kernel
theorem dX7_give_93 : decode cX7_give 93 = .ok (.ireturn, 1) := by decide +kernel
theorem dX7_give_94 : decode cX7_give 94 = .ok (.aload_n 0, 1) := by decide +kernel
theorem dX7_give_95 : decode cX7_give 95 = .ok (.bipush 29, 2) := by decide +kernel
theorem dX7_give_97 : decode cX7_give 97 = .ok (.aload_n 0, 1) := by decide +kernel
theorem dX7_give_98 : decode cX7_give 98 = .ok (.getfield 20, 3) := by decide +kernel
theorem dX7_give_101 : decode cX7_give 101 = .ok (.iload_n 1, 1) := by decide +kernel
theorem dX7_give_102 : decode cX7_give 102 = .ok (.iaload, 1) := by decide +kernel
theorem dX7_give_103 : decode cX7_give 103 = .ok (.aload_n 0, 1) := by decide +kernel
theorem dX7_give_104 : decode cX7_give 104 = .ok (.getfield 16, 3) := by decide +kernel
theorem dX7_give_107 : decode cX7_give 107 = .ok (.iload_n 1, 1) := by decide +kernel
theorem dX7_give_108 : decode cX7_give 108 = .ok (.iaload, 1) := by decide +kernel
theorem dX7_give_109 : decode cX7_give 109 = .ok (.isub, 1) := by decide +kernel
theorem dX7_give_110 : decode cX7_give 110 = .ok (.i2l, 1) := by decide +kernel
theorem dX7_give_111 : decode cX7_give 111 = .ok (.invokevirtual 62, 3) := by decide +kernel
theorem dX7_give_114 : decode cX7_give 114 = .ok (.aload_n 0, 1) := by decide +kernel
theorem dX7_give_115 : decode cX7_give 115 = .ok (.bipush 28, 2) := by decide +kernel
theorem dX7_give_117 : decode cX7_give 117 = .ok (.iload_n 3, 1) := by decide +kernel
theorem dX7_give_118 : decode cX7_give 118 = .ok (.bipush 29, 2) := by decide +kernel
theorem dX7_give_120 : decode cX7_give 120 = .ok (.invokevirtual 108, 3) := by decide +kernel
theorem dX7_give_123 : decode cX7_give 123 = .ok (.aload_n 0, 1) := by decide +kernel
theorem dX7_give_124 : decode cX7_give 124 = .ok (.bipush 29, 2) := by decide +kernel
theorem dX7_give_126 : decode cX7_give 126 = .ok (.aload_n 0, 1) := by decide +kernel
theorem dX7_give_127 : decode cX7_give 127 = .ok (.getfield 20, 3) := by decide +kernel
theorem dX7_give_130 : decode cX7_give 130 = .ok (.iload_n 1, 1) := by decide +kernel
theorem dX7_give_131 : decode cX7_give 131 = .ok (.iaload, 1) := by decide +kernel
theorem dX7_give_132 : decode cX7_give 132 = .ok (.i2l, 1) := by decide +kernel
theorem dX7_give_133 : decode cX7_give 133 = .ok (.invokevirtual 62, 3) := by decide +kernel
theorem dX7_give_136 : decode cX7_give 136 = .ok (.aload_n 0, 1) := by decide +kernel
theorem dX7_give_137 : decode cX7_give 137 = .ok (.bipush 29, 2) := by decide +kernel
theorem dX7_give_139 : decode cX7_give 139 = .ok (.iload 5, 2) := by decide +kernel
theorem dX7_give_141 : decode cX7_give 141 = .ok (.bipush 29, 2) := by decide +kernel
theorem dX7_give_143 : decode cX7_give 143 = .ok (.invokevirtual 108, 3) := by decide +kernel
theorem dX7_give_146 : decode cX7_give 146 = .ok (.aload_n 0, 1) := by decide +kernel
theorem dX7_give_147 : decode cX7_give 147 = .ok (.bipush 29, 2) := by decide +kernel
theorem dX7_give_149 : decode cX7_give 149 = .ok (.bipush 29, 2) := by decide +kernel
theorem dX7_give_151 : decode cX7_give 151 = .ok (.bipush 28, 2) := by decide +kernel
theorem dX7_give_153 : decode cX7_give 153 = .ok (.invokevirtual 66, 3) := by decide +kernel
theorem dX7_give_156 : decode cX7_give 156 = .ok (.aload_n 0, 1) := by decide +kernel
theorem dX7_give_157 : decode cX7_give 157 = .ok (.bipush 30, 2) := by decide +kernel
theorem dX7_give_159 : decode cX7_give 159 = .ok (.iload 6, 2) := by decide +kernel
theorem dX7_give_161 : decode cX7_give 161 = .ok (.bipush 28, 2) := by decide +kernel
theorem dX7_give_163 : decode cX7_give 163 = .ok (.invokevirtual 108, 3) := by decide +kernel
theorem dX7_give_166 : decode cX7_give 166 = .ok (.aload_n 0, 1) := by decide +kernel
theorem dX7_give_167 : decode cX7_give 167 = .ok (.bipush 30, 2) := by decide +kernel
theorem dX7_give_169 : decode cX7_give 169 = .ok (.bipush 29, 2) := by decide +kernel
theorem dX7_give_171 : decode cX7_give 171 = .ok (.invokevirtual 111, 3) := by decide +kernel
theorem dX7_give_174 : decode cX7_give 174 = .ok (.aload_n 0, 1) := by decide +kernel
theorem dX7_give_175 : decode cX7_give 175 = .ok (.bipush 32, 2) := by decide +kernel
theorem dX7_give_177 : decode cX7_give 177 = .ok (.invokevirtual 99, 3) := by decide +kernel
theorem dX7_give_180 : decode cX7_give 180 = .ok (.ifCond .eq 6, 3) := by decide +kernel
theorem dX7_give_183 : decode cX7_give 183 = .ok (.bipush (-4), 2) := by decide +kernel
theorem dX7_give_185 : decode cX7_give 185 = .ok (.ireturn, 1) := by decide +kernel
theorem dX7_give_186 : decode cX7_give 186 = .ok (.aload_n 0, 1) := by decide +kernel
theorem dX7_give_187 : decode cX7_give 187 = .ok (.iload 6, 2) := by decide +kernel
theorem dX7_give_189 : decode cX7_give 189 = .ok (.iload 6, 2) := by decide +kernel
theorem dX7_give_191 : decode cX7_give 191 = .ok (.bipush 32, 2) := by decide +kernel
theorem dX7_give_193 : decode cX7_give 193 = .ok (.invokevirtual 80, 3) := by decide +kernel
theorem dX7_give_196 : decode cX7_give 196 = .ok (.aload_n 0, 1) := by decide +kernel
theorem dX7_give_197 : decode cX7_give 197 = .ok (.iload 5, 2) := by decide +kernel
theorem dX7_give_199 : decode cX7_give 199 = .ok (.bipush 31, 2) := by decide +kernel
theorem dX7_give_201 : decode cX7_give 201 = .ok (.invokevirtual 72, 3) := by decide +kernel
theorem dX7_give_204 : decode cX7_give 204 = .ok (.aload_n 0, 1) := by decide +kernel
theorem dX7_give_205 : decode cX7_give 205 = .ok (.iload 4, 2) := by decide +kernel
theorem dX7_give_207 : decode cX7_give 207 = .ok (.bipush 32, 2) := by decide +kernel
theorem dX7_give_209 : decode cX7_give 209 = .ok (.invokevirtual 72, 3) := by decide +kernel
theorem dX7_give_212 : decode cX7_give 212 = .ok (.iconst 1, 1) := by decide +kernel
theorem dX7_give_213 : decode cX7_give 213 = .ok (.ireturn, 1) := by decide +kernel
theorem dX7_ask_0 : decode cX7_ask 0 = .ok (.iload_n 1, 1) := by decide +kernel
theorem dX7_ask_1 : decode cX7_ask 1 = .ok (.invokestatic 168, 3) := by decide +kernel
theorem dX7_ask_4 : decode cX7_ask 4 = .ok (.ifCond .eq 28, 3) := by decide +kernel
theorem dX7_ask_7 : decode cX7_ask 7 = .ok (.iload_n 2, 1) := by decide +kernel
theorem dX7_ask_8 : decode cX7_ask 8 = .ok (.i2l, 1) := by decide +kernel
theorem dX7_ask_9 : decode cX7_ask 9 = .ok (.lconst 0, 1) := by decide +kernel
theorem dX7_ask_10 : decode cX7_ask 10 = .ok (.lconst 1, 1) := by decide +kernel
theorem dX7_ask_11 : decode cX7_ask 11 = .ok (.invokestatic 56, 3) := by decide +kernel
theorem dX7_ask_14 : decode cX7_ask 14 = .ok (.ifCond .eq 18, 3) := by decide +kernel
theorem dX7_ask_17 : decode cX7_ask 17 = .ok (.iload_n 3, 1) := by decide +kernel
theorem dX7_ask_18 : decode cX7_ask 18 = .ok (.invokestatic 85, 3) := by decide +kernel
theorem dX7_ask_21 : decode cX7_ask 21 = .ok (.ifCond .eq 11, 3) := by decide +kernel
theorem dX7_ask_24 : decode cX7_ask 24 = .ok (.iload 4, 2) := by decide +kernel
theorem dX7_ask_26 : decode cX7_ask 26 = .ok (.invokestatic 85, 3) := by decide +kernel
theorem dX7_ask_29 : decode cX7_ask 29 = .ok (.ifCond .ne 5, 3) := by decide +kernel
theorem dX7_ask_32 : decode cX7_ask 32 = .ok (.iconst (-1), 1) := by decide +kernel
theorem dX7_ask_33 : decode cX7_ask 33 = .ok (.ireturn, 1) := by decide +kernel
theorem dX7_ask_34 : decode cX7_ask 34 = .ok (.iload_n 1, 1) := by decide +kernel
theorem dX7_ask_35 : decode cX7_ask 35 = .ok (.iload_n 2, 1) := by decide +kernel
theorem dX7_ask_36 : decode cX7_ask 36 = .ok (.invokestatic 172, 3) := by decide +kernel
theorem dX7_ask_39 : decode cX7_ask 39 = .ok (.istore 5, 2) := by decide +kernel
theorem dX7_ask_41 : decode cX7_ask 41 = .ok (.iload_n 1, 1) := by decide +kernel
theorem dX7_ask_42 : decode cX7_ask 42 = .ok (.iconst 1, 1) := by decide +kernel
theorem dX7_ask_43 : decode cX7_ask 43 = .ok (.iload_n 2, 1) := by decide +kernel
theorem dX7_ask_44 : decode cX7_ask 44 = .ok (.isub, 1) := by decide +kernel
theorem dX7_ask_45 : decode cX7_ask 45 = .ok (.invokestatic 172, 3) := by decide +kernel
theorem dX7_ask_48 : decode cX7_ask 48 = .ok (.istore 6, 2) := by decide +kernel
theorem dX7_ask_50 : decode cX7_ask 50 = .ok (.aload_n 0, 1) := by decide +kernel
theorem dX7_ask_51 : decode cX7_ask 51 = .ok (.iload_n 3, 1) := by decide +kernel
theorem dX7_ask_52 : decode cX7_ask 52 = .ok (.iload 6, 2) := by decide +kernel
theorem dX7_ask_54 : decode cX7_ask 54 = .ok (.invokevirtual 76, 3) := by decide +kernel
theorem dX7_ask_57 : decode cX7_ask 57 = .ok (.ifCond .lt 6, 3) := by decide +kernel
theorem dX7_ask_60 : decode cX7_ask 60 = .ok (.bipush (-3), 2) := by decide +kernel
theorem dX7_ask_62 : decode cX7_ask 62 = .ok (.ireturn, 1) := by decide +kernel
