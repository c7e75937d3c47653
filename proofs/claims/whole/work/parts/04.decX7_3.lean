theorem dX7_ask_63 : decode cX7_ask 63 = .ok (.aload_n 0, 1) := by decide +kernel
theorem dX7_ask_64 : decode cX7_ask 64 = .ok (.bipush 31, 2) := by decide +kernel
theorem dX7_ask_66 : decode cX7_ask 66 = .ok (.iload 6, 2) := by decide +kernel
theorem dX7_ask_68 : decode cX7_ask 68 = .ok (.iload_n 3, 1) := by decide +kernel
theorem dX7_ask_69 : decode cX7_ask 69 = .ok (.invokevirtual 80, 3) := by decide +kernel
theorem dX7_ask_72 : decode cX7_ask 72 = .ok (.aload_n 0, 1) := by decide +kernel
theorem dX7_ask_73 : decode cX7_ask 73 = .ok (.bipush 29, 2) := by decide +kernel
theorem dX7_ask_75 : decode cX7_ask 75 = .ok (.aload_n 0, 1) := by decide +kernel
theorem dX7_ask_76 : decode cX7_ask 76 = .ok (.getfield 20, 3) := by decide +kernel
theorem dX7_ask_79 : decode cX7_ask 79 = .ok (.iload_n 1, 1) := by decide +kernel
theorem dX7_ask_80 : decode cX7_ask 80 = .ok (.iaload, 1) := by decide +kernel
theorem dX7_ask_81 : decode cX7_ask 81 = .ok (.aload_n 0, 1) := by decide +kernel
theorem dX7_ask_82 : decode cX7_ask 82 = .ok (.getfield 16, 3) := by decide +kernel
theorem dX7_ask_85 : decode cX7_ask 85 = .ok (.iload_n 1, 1) := by decide +kernel
theorem dX7_ask_86 : decode cX7_ask 86 = .ok (.iaload, 1) := by decide +kernel
theorem dX7_ask_87 : decode cX7_ask 87 = .ok (.isub, 1) := by decide +kernel
theorem dX7_ask_88 : decode cX7_ask 88 = .ok (.i2l, 1) := by decide +kernel
theorem dX7_ask_89 : decode cX7_ask 89 = .ok (.invokevirtual 62, 3) := by decide +kernel
theorem dX7_ask_92 : decode cX7_ask 92 = .ok (.aload_n 0, 1) := by decide +kernel
theorem dX7_ask_93 : decode cX7_ask 93 = .ok (.bipush 29, 2) := by decide +kernel
theorem dX7_ask_95 : decode cX7_ask 95 = .ok (.bipush 31, 2) := by decide +kernel
theorem dX7_ask_97 : decode cX7_ask 97 = .ok (.bipush 29, 2) := by decide +kernel
theorem dX7_ask_99 : decode cX7_ask 99 = .ok (.invokevirtual 108, 3) := by decide +kernel
theorem dX7_ask_102 : decode cX7_ask 102 = .ok (.aload_n 0, 1) := by decide +kernel
theorem dX7_ask_103 : decode cX7_ask 103 = .ok (.bipush 28, 2) := by decide +kernel
theorem dX7_ask_105 : decode cX7_ask 105 = .ok (.aload_n 0, 1) := by decide +kernel
theorem dX7_ask_106 : decode cX7_ask 106 = .ok (.getfield 20, 3) := by decide +kernel
theorem dX7_ask_109 : decode cX7_ask 109 = .ok (.iload_n 1, 1) := by decide +kernel
theorem dX7_ask_110 : decode cX7_ask 110 = .ok (.iaload, 1) := by decide +kernel
theorem dX7_ask_111 : decode cX7_ask 111 = .ok (.i2l, 1) := by decide +kernel
theorem dX7_ask_112 : decode cX7_ask 112 = .ok (.invokevirtual 62, 3) := by decide +kernel
theorem dX7_ask_115 : decode cX7_ask 115 = .ok (.aload_n 0, 1) := by decide +kernel
theorem dX7_ask_116 : decode cX7_ask 116 = .ok (.bipush 30, 2) := by decide +kernel
theorem dX7_ask_118 : decode cX7_ask 118 = .ok (.iload 5, 2) := by decide +kernel
theorem dX7_ask_120 : decode cX7_ask 120 = .ok (.iload_n 3, 1) := by decide +kernel
theorem dX7_ask_121 : decode cX7_ask 121 = .ok (.invokevirtual 108, 3) := by decide +kernel
theorem dX7_ask_124 : decode cX7_ask 124 = .ok (.aload_n 0, 1) := by decide +kernel
theorem dX7_ask_125 : decode cX7_ask 125 = .ok (.bipush 30, 2) := by decide +kernel
theorem dX7_ask_127 : decode cX7_ask 127 = .ok (.bipush 30, 2) := by decide +kernel
theorem dX7_ask_129 : decode cX7_ask 129 = .ok (.bipush 28, 2) := by decide +kernel
theorem dX7_ask_131 : decode cX7_ask 131 = .ok (.invokevirtual 108, 3) := by decide +kernel
theorem dX7_ask_134 : decode cX7_ask 134 = .ok (.aload_n 0, 1) := by decide +kernel
theorem dX7_ask_135 : decode cX7_ask 135 = .ok (.bipush 30, 2) := by decide +kernel
theorem dX7_ask_137 : decode cX7_ask 137 = .ok (.bipush 29, 2) := by decide +kernel
theorem dX7_ask_139 : decode cX7_ask 139 = .ok (.invokevirtual 111, 3) := by decide +kernel
theorem dX7_ask_142 : decode cX7_ask 142 = .ok (.aload_n 0, 1) := by decide +kernel
theorem dX7_ask_143 : decode cX7_ask 143 = .ok (.bipush 33, 2) := by decide +kernel
theorem dX7_ask_145 : decode cX7_ask 145 = .ok (.invokevirtual 99, 3) := by decide +kernel
theorem dX7_ask_148 : decode cX7_ask 148 = .ok (.ifCond .ne 9, 3) := by decide +kernel
theorem dX7_ask_151 : decode cX7_ask 151 = .ok (.aload_n 0, 1) := by decide +kernel
theorem dX7_ask_152 : decode cX7_ask 152 = .ok (.bipush 32, 2) := by decide +kernel
theorem dX7_ask_154 : decode cX7_ask 154 = .ok (.invokevirtual 102, 3) := by decide +kernel
theorem dX7_ask_157 : decode cX7_ask 157 = .ok (.aload_n 0, 1) := by decide +kernel
theorem dX7_ask_158 : decode cX7_ask 158 = .ok (.bipush 28, 2) := by decide +kernel
theorem dX7_ask_160 : decode cX7_ask 160 = .ok (.iload 5, 2) := by decide +kernel
theorem dX7_ask_162 : decode cX7_ask 162 = .ok (.bipush 32, 2) := by decide +kernel
theorem dX7_ask_164 : decode cX7_ask 164 = .ok (.invokevirtual 66, 3) := by decide +kernel
theorem dX7_ask_167 : decode cX7_ask 167 = .ok (.aload_n 0, 1) := by decide +kernel
theorem dX7_ask_168 : decode cX7_ask 168 = .ok (.bipush 28, 2) := by decide +kernel
theorem dX7_ask_170 : decode cX7_ask 170 = .ok (.invokevirtual 175, 3) := by decide +kernel
theorem dX7_ask_173 : decode cX7_ask 173 = .ok (.ifCond .ne 6, 3) := by decide +kernel
theorem dX7_ask_176 : decode cX7_ask 176 = .ok (.bipush (-2), 2) := by decide +kernel
theorem dX7_ask_178 : decode cX7_ask 178 = .ok (.ireturn, 1) := by decide +kernel
theorem dX7_ask_179 : decode cX7_ask 179 = .ok (.aload_n 0, 1) := by decide +kernel
theorem dX7_ask_180 : decode cX7_ask 180 = .ok (.iload_n 3, 1) := by decide +kernel
theorem dX7_ask_181 : decode cX7_ask 181 = .ok (.invokevirtual 99, 3) := by decide +kernel
theorem dX7_ask_184 : decode cX7_ask 184 = .ok (.ifCond .eq 6, 3) := by decide +kernel
theorem dX7_ask_187 : decode cX7_ask 187 = .ok (.bipush (-4), 2) := by decide +kernel
theorem dX7_ask_189 : decode cX7_ask 189 = .ok (.ireturn, 1) := by decide +kernel
theorem dX7_ask_190 : decode cX7_ask 190 = .ok (.aload_n 0, 1) := by decide +kernel
theorem dX7_ask_191 : decode cX7_ask 191 = .ok (.iload 5, 2) := by decide +kernel
theorem dX7_ask_193 : decode cX7_ask 193 = .ok (.bipush 28, 2) := by decide +kernel
theorem dX7_ask_195 : decode cX7_ask 195 = .ok (.invokevirtual 72, 3) := by decide +kernel
theorem dX7_ask_198 : decode cX7_ask 198 = .ok (.aload_n 0, 1) := by decide +kernel
theorem dX7_ask_199 : decode cX7_ask 199 = .ok (.iload 6, 2) := by decide +kernel
theorem dX7_ask_201 : decode cX7_ask 201 = .ok (.bipush 31, 2) := by decide +kernel
theorem dX7_ask_203 : decode cX7_ask 203 = .ok (.invokevirtual 72, 3) := by decide +kernel
theorem dX7_ask_206 : decode cX7_ask 206 = .ok (.aload_n 0, 1) := by decide +kernel
theorem dX7_ask_207 : decode cX7_ask 207 = .ok (.iload 4, 2) := by decide +kernel
theorem dX7_ask_209 : decode cX7_ask 209 = .ok (.bipush 32, 2) := by decide +kernel
theorem dX7_ask_211 : decode cX7_ask 211 = .ok (.invokevirtual 72, 3) := by decide +kernel
theorem dX7_ask_214 : decode cX7_ask 214 = .ok (.iconst 1, 1) := by decide +kernel
theorem dX7_ask_215 : decode cX7_ask 215 = .ok (.ireturn, 1) := by decide +kernel
theorem dX7_see_0 : decode cX7_see 0 = .ok (.iload_n 1, 1) := by decide +kernel
theorem dX7_see_1 : decode cX7_see 1 = .ok (.invokestatic 168, 3) := by decide +kernel
theorem dX7_see_4 : decode cX7_see 4 = .ok (.ifCond .eq 22, 3) := by decide +kernel
theorem dX7_see_7 : decode cX7_see 7 = .ok (.iload_n 2, 1) := by decide +kernel
theorem dX7_see_8 : decode cX7_see 8 = .ok (.i2l, 1) := by decide +kernel
theorem dX7_see_9 : decode cX7_see 9 = .ok (.lconst 0, 1) := by decide +kernel
theorem dX7_see_10 : decode cX7_see 10 = .ok (.ldc2_w 181, 3) := by decide +kernel
theorem dX7_see_13 : decode cX7_see 13 = .ok (.invokestatic 56, 3) := by decide +kernel
theorem dX7_see_16 : decode cX7_see 16 = .ok (.ifCond .eq 10, 3) := by decide +kernel
theorem dX7_see_19 : decode cX7_see 19 = .ok (.iload_n 3, 1) := by decide +kernel
theorem dX7_see_20 : decode cX7_see 20 = .ok (.invokestatic 85, 3) := by decide +kernel
theorem dX7_see_23 : decode cX7_see 23 = .ok (.ifCond .ne 5, 3) := by decide +kernel
theorem dX7_see_26 : decode cX7_see 26 = .ok (.iconst (-1), 1) := by decide +kernel
theorem dX7_see_27 : decode cX7_see 27 = .ok (.ireturn, 1) := by decide +kernel
theorem dX7_see_28 : decode cX7_see 28 = .ok (.aload_n 0, 1) := by decide +kernel
theorem dX7_see_29 : decode cX7_see 29 = .ok (.iload_n 3, 1) := by decide +kernel
theorem dX7_see_30 : decode cX7_see 30 = .ok (.iload_n 1, 1) := by decide +kernel
theorem dX7_see_31 : decode cX7_see 31 = .ok (.iload_n 2, 1) := by decide +kernel
theorem dX7_see_32 : decode cX7_see 32 = .ok (.invokestatic 172, 3) := by decide +kernel
theorem dX7_see_35 : decode cX7_see 35 = .ok (.invokevirtual 72, 3) := by decide +kernel
theorem dX7_see_38 : decode cX7_see 38 = .ok (.iconst 1, 1) := by decide +kernel
theorem dX7_see_39 : decode cX7_see 39 = .ok (.ireturn, 1) := by decide +kernel
theorem dX7_later_0 : decode cX7_later 0 = .ok (.iload_n 1, 1) := by decide +kernel
theorem dX7_later_1 : decode cX7_later 1 = .ok (.i2l, 1) := by decide +kernel
theorem dX7_later_2 : decode cX7_later 2 = .ok (.lconst 0, 1) := by decide +kernel
theorem dX7_later_3 : decode cX7_later 3 = .ok (.ldc2_w 106, 3) := by decide +kernel
theorem dX7_later_6 : decode cX7_later 6 = .ok (.invokestatic 56, 3) := by decide +kernel
theorem dX7_later_9 : decode cX7_later 9 = .ok (.ifCond .ne 5, 3) := by decide +kernel
theorem dX7_later_12 : decode cX7_later 12 = .ok (.iconst (-1), 1) := by decide +kernel
theorem dX7_later_13 : decode cX7_later 13 = .ok (.ireturn, 1) := by decide +kernel
theorem dX7_later_14 : decode cX7_later 14 = .ok (.aload_n 0, 1) := by decide +kernel
theorem dX7_later_15 : decode cX7_later 15 = .ok (.getfield 183, 3) := by decide +kernel
theorem dX7_later_18 : decode cX7_later 18 = .ok (.bipush 12, 2) := by decide +kernel
theorem dX7_later_20 : decode cX7_later 20 = .ok (.if_icmp .ne 6, 3) := by decide +kernel
theorem dX7_later_23 : decode cX7_later 23 = .ok (.bipush (-2), 2) := by decide +kernel
theorem dX7_later_25 : decode cX7_later 25 = .ok (.ireturn, 1) := by decide +kernel
theorem dX7_later_26 : decode cX7_later 26 = .ok (.aload_n 0, 1) := by decide +kernel
theorem dX7_later_27 : decode cX7_later 27 = .ok (.getfield 36, 3) := by decide +kernel
theorem dX7_later_30 : decode cX7_later 30 = .ok (.aload_n 0, 1) := by decide +kernel
theorem dX7_later_31 : decode cX7_later 31 = .ok (.getfield 183, 3) := by decide +kernel
theorem dX7_later_34 : decode cX7_later 34 = .ok (.iload_n 1, 1) := by decide +kernel
theorem dX7_later_35 : decode cX7_later 35 = .ok (.iastore, 1) := by decide +kernel
theorem dX7_later_36 : decode cX7_later 36 = .ok (.aload_n 0, 1) := by decide +kernel
theorem dX7_later_37 : decode cX7_later 37 = .ok (.getfield 39, 3) := by decide +kernel
theorem dX7_later_40 : decode cX7_later 40 = .ok (.aload_n 0, 1) := by decide +kernel
theorem dX7_later_41 : decode cX7_later 41 = .ok (.getfield 183, 3) := by decide +kernel
theorem dX7_later_44 : decode cX7_later 44 = .ok (.iload_n 2, 1) := by decide +kernel
theorem dX7_later_45 : decode cX7_later 45 = .ok (.iastore, 1) := by decide +kernel
theorem dX7_later_46 : decode cX7_later 46 = .ok (.aload_n 0, 1) := by decide +kernel
theorem dX7_later_47 : decode cX7_later 47 = .ok (.getfield 42, 3) := by decide +kernel
theorem dX7_later_50 : decode cX7_later 50 = .ok (.aload_n 0, 1) := by decide +kernel
theorem dX7_later_51 : decode cX7_later 51 = .ok (.getfield 183, 3) := by decide +kernel
theorem dX7_later_54 : decode cX7_later 54 = .ok (.iload_n 3, 1) := by decide +kernel
theorem dX7_later_55 : decode cX7_later 55 = .ok (.iastore, 1) := by decide +kernel
theorem dX7_later_56 : decode cX7_later 56 = .ok (.aload_n 0, 1) := by decide +kernel
theorem dX7_later_57 : decode cX7_later 57 = .ok (.getfield 45, 3) := by decide +kernel
theorem dX7_later_60 : decode cX7_later 60 = .ok (.aload_n 0, 1) := by decide +kernel
theorem dX7_later_61 : decode cX7_later 61 = .ok (.getfield 183, 3) := by decide +kernel
theorem dX7_later_64 : decode cX7_later 64 = .ok (.iload 4, 2) := by decide +kernel
theorem dX7_later_66 : decode cX7_later 66 = .ok (.iastore, 1) := by decide +kernel
theorem dX7_later_67 : decode cX7_later 67 = .ok (.aload_n 0, 1) := by decide +kernel
theorem dX7_later_68 : decode cX7_later 68 = .ok (.dup, 1) := by decide +kernel
theorem dX7_later_69 : decode cX7_later 69 = .ok (.getfield 183, 3) := by decide +kernel
theorem dX7_later_72 : decode cX7_later 72 = .ok (.iconst 1, 1) := by decide +kernel
theorem dX7_later_73 : decode cX7_later 73 = .ok (.iadd, 1) := by decide +kernel
theorem dX7_later_74 : decode cX7_later 74 = .ok (.putfield 183, 3) := by decide +kernel
theorem dX7_later_77 : decode cX7_later 77 = .ok (.aload_n 0, 1) := by decide +kernel
theorem dX7_later_78 : decode cX7_later 78 = .ok (.getfield 183, 3) := by decide +kernel
theorem dX7_later_81 : decode cX7_later 81 = .ok (.ireturn, 1) := by decide +kernel
theorem dX7_acts_0 : decode cX7_acts 0 = .ok (.aload_n 0, 1) := by decide +kernel
theorem dX7_acts_1 : decode cX7_acts 1 = .ok (.getfield 39, 3) := by decide +kernel
theorem dX7_acts_4 : decode cX7_acts 4 = .ok (.iload_n 1, 1) := by decide +kernel
theorem dX7_acts_5 : decode cX7_acts 5 = .ok (.iaload, 1) := by decide +kernel
theorem dX7_acts_6 : decode cX7_acts 6 = .ok (.istore_n 2, 1) := by decide +kernel
theorem dX7_acts_7 : decode cX7_acts 7 = .ok (.aload_n 0, 1) := by decide +kernel
theorem dX7_acts_8 : decode cX7_acts 8 = .ok (.getfield 42, 3) := by decide +kernel
theorem dX7_acts_11 : decode cX7_acts 11 = .ok (.iload_n 1, 1) := by decide +kernel
theorem dX7_acts_12 : decode cX7_acts 12 = .ok (.iaload, 1) := by decide +kernel
theorem dX7_acts_13 : decode cX7_acts 13 = .ok (.istore_n 3, 1) := by decide +kernel
theorem dX7_acts_14 : decode cX7_acts 14 = .ok (.aload_n 0, 1) := by decide +kernel
theorem dX7_acts_15 : decode cX7_acts 15 = .ok (.getfield 45, 3) := by decide +kernel
theorem dX7_acts_18 : decode cX7_acts 18 = .ok (.iload_n 1, 1) := by decide +kernel
theorem dX7_acts_19 : decode cX7_acts 19 = .ok (.iaload, 1) := by decide +kernel
theorem dX7_acts_20 : decode cX7_acts 20 = .ok (.istore 4, 2) := by decide +kernel
theorem dX7_acts_22 : decode cX7_acts 22 = .ok (.aload_n 0, 1) := by decide +kernel
theorem dX7_acts_23 : decode cX7_acts 23 = .ok (.getfield 36, 3) := by decide +kernel
theorem dX7_acts_26 : decode cX7_acts 26 = .ok (.iload_n 1, 1) := by decide +kernel
theorem dX7_acts_27 : decode cX7_acts 27 = .ok (.iaload, 1) := by decide +kernel
theorem dX7_acts_28 : decode cX7_acts 28 = .ok (.tableswitch 76 0 3 #[32, 41, 50, 62], 32) := by decide +kernel
theorem dX7_acts_60 : decode cX7_acts 60 = .ok (.aload_n 0, 1) := by decide +kernel
theorem dX7_acts_61 : decode cX7_acts 61 = .ok (.iload_n 2, 1) := by decide +kernel
theorem dX7_acts_62 : decode cX7_acts 62 = .ok (.iload_n 3, 1) := by decide +kernel
theorem dX7_acts_63 : decode cX7_acts 63 = .ok (.iload 4, 2) := by decide +kernel
theorem dX7_acts_65 : decode cX7_acts 65 = .ok (.invokevirtual 186, 3) := by decide +kernel
theorem dX7_acts_68 : decode cX7_acts 68 = .ok (.ireturn, 1) := by decide +kernel
theorem dX7_acts_69 : decode cX7_acts 69 = .ok (.aload_n 0, 1) := by decide +kernel
theorem dX7_acts_70 : decode cX7_acts 70 = .ok (.iload_n 2, 1) := by decide +kernel
theorem dX7_acts_71 : decode cX7_acts 71 = .ok (.iload_n 3, 1) := by decide +kernel
theorem dX7_acts_72 : decode cX7_acts 72 = .ok (.iload 4, 2) := by decide +kernel
theorem dX7_acts_74 : decode cX7_acts 74 = .ok (.invokevirtual 190, 3) := by decide +kernel
theorem dX7_acts_77 : decode cX7_acts 77 = .ok (.ireturn, 1) := by decide +kernel
theorem dX7_acts_78 : decode cX7_acts 78 = .ok (.aload_n 0, 1) := by decide +kernel
theorem dX7_acts_79 : decode cX7_acts 79 = .ok (.iload 4, 2) := by decide +kernel
theorem dX7_acts_81 : decode cX7_acts 81 = .ok (.iload_n 2, 1) := by decide +kernel
theorem dX7_acts_82 : decode cX7_acts 82 = .ok (.iconst 1, 1) := by decide +kernel
theorem dX7_acts_83 : decode cX7_acts 83 = .ok (.iand, 1) := by decide +kernel
theorem dX7_acts_84 : decode cX7_acts 84 = .ok (.iload_n 3, 1) := by decide +kernel
theorem dX7_acts_85 : decode cX7_acts 85 = .ok (.iload_n 2, 1) := by decide +kernel
theorem dX7_acts_86 : decode cX7_acts 86 = .ok (.invokevirtual 193, 3) := by decide +kernel
theorem dX7_acts_89 : decode cX7_acts 89 = .ok (.ireturn, 1) := by decide +kernel
theorem dX7_acts_90 : decode cX7_acts 90 = .ok (.aload_n 0, 1) := by decide +kernel
theorem dX7_acts_91 : decode cX7_acts 91 = .ok (.iload_n 2, 1) := by decide +kernel
theorem dX7_acts_92 : decode cX7_acts 92 = .ok (.iload_n 3, 1) := by decide +kernel
theorem dX7_acts_93 : decode cX7_acts 93 = .ok (.iload 4, 2) := by decide +kernel
theorem dX7_acts_95 : decode cX7_acts 95 = .ok (.i2l, 1) := by decide +kernel
theorem dX7_acts_96 : decode cX7_acts 96 = .ok (.ldc2_w 181, 3) := by decide +kernel
theorem dX7_acts_99 : decode cX7_acts 99 = .ok (.iconst 2, 1) := by decide +kernel
theorem dX7_acts_100 : decode cX7_acts 100 = .ok (.invokevirtual 197, 3) := by decide +kernel
theorem dX7_acts_103 : decode cX7_acts 103 = .ok (.ireturn, 1) := by decide +kernel
theorem dX7_acts_104 : decode cX7_acts 104 = .ok (.aload_n 0, 1) := by decide +kernel
theorem dX7_acts_105 : decode cX7_acts 105 = .ok (.iload_n 2, 1) := by decide +kernel
theorem dX7_acts_106 : decode cX7_acts 106 = .ok (.iload_n 3, 1) := by decide +kernel
theorem dX7_acts_107 : decode cX7_acts 107 = .ok (.iload 4, 2) := by decide +kernel
theorem dX7_acts_109 : decode cX7_acts 109 = .ok (.invokevirtual 201, 3) := by decide +kernel
theorem dX7_acts_112 : decode cX7_acts 112 = .ok (.ireturn, 1) := by decide +kernel
theorem dX7_done_0 : decode cX7_done 0 = .ok (.iconst 0, 1) := by decide +kernel
theorem dX7_done_1 : decode cX7_done 1 = .ok (.istore_n 1, 1) := by decide +kernel
theorem dX7_done_2 : decode cX7_done 2 = .ok (.iload_n 1, 1) := by decide +kernel
theorem dX7_done_3 : decode cX7_done 3 = .ok (.bipush 28, 2) := by decide +kernel
theorem dX7_done_5 : decode cX7_done 5 = .ok (.if_icmp .ge 18, 3) := by decide +kernel
theorem dX7_done_8 : decode cX7_done 8 = .ok (.aload_n 0, 1) := by decide +kernel
theorem dX7_done_9 : decode cX7_done 9 = .ok (.bipush 50, 2) := by decide +kernel
theorem dX7_done_11 : decode cX7_done 11 = .ok (.iload_n 1, 1) := by decide +kernel
theorem dX7_done_12 : decode cX7_done 12 = .ok (.iadd, 1) := by decide +kernel
theorem dX7_done_13 : decode cX7_done 13 = .ok (.iload_n 1, 1) := by decide +kernel
theorem dX7_done_14 : decode cX7_done 14 = .ok (.invokevirtual 72, 3) := by decide +kernel
theorem dX7_done_17 : decode cX7_done 17 = .ok (.iinc 1 1, 3) := by decide +kernel
theorem dX7_done_20 : decode cX7_done 20 = .ok (.goto (-18), 3) := by decide +kernel
theorem dX7_done_23 : decode cX7_done 23 = .ok (.aload_n 0, 1) := by decide +kernel
theorem dX7_done_24 : decode cX7_done 24 = .ok (.getfield 183, 3) := by decide +kernel
theorem dX7_done_27 : decode cX7_done 27 = .ok (.istore_n 1, 1) := by decide +kernel
theorem dX7_done_28 : decode cX7_done 28 = .ok (.aload_n 0, 1) := by decide +kernel
theorem dX7_done_29 : decode cX7_done 29 = .ok (.iconst 0, 1) := by decide +kernel
theorem dX7_done_30 : decode cX7_done 30 = .ok (.putfield 183, 3) := by decide +kernel
theorem dX7_done_33 : decode cX7_done 33 = .ok (.aload_n 0, 1) := by decide +kernel
theorem dX7_done_34 : decode cX7_done 34 = .ok (.iconst 0, 1) := by decide +kernel
theorem dX7_done_35 : decode cX7_done 35 = .ok (.putfield 204, 3) := by decide +kernel
theorem dX7_done_38 : decode cX7_done 38 = .ok (.iconst 0, 1) := by decide +kernel
theorem dX7_done_39 : decode cX7_done 39 = .ok (.istore_n 2, 1) := by decide +kernel
theorem dX7_done_40 : decode cX7_done 40 = .ok (.iload_n 2, 1) := by decide +kernel
theorem dX7_done_41 : decode cX7_done 41 = .ok (.iload_n 1, 1) := by decide +kernel
theorem dX7_done_42 : decode cX7_done 42 = .ok (.if_icmp .ge 94, 3) := by decide +kernel
theorem dX7_done_45 : decode cX7_done 45 = .ok (.aload_n 0, 1) := by decide +kernel
theorem dX7_done_46 : decode cX7_done 46 = .ok (.dup, 1) := by decide +kernel
theorem dX7_done_47 : decode cX7_done 47 = .ok (.getfield 207, 3) := by decide +kernel
theorem dX7_done_50 : decode cX7_done 50 = .ok (.iconst 1, 1) := by decide +kernel
theorem dX7_done_51 : decode cX7_done 51 = .ok (.iadd, 1) := by decide +kernel
theorem dX7_done_52 : decode cX7_done 52 = .ok (.putfield 207, 3) := by decide +kernel
theorem dX7_done_55 : decode cX7_done 55 = .ok (.aload_n 0, 1) := by decide +kernel
theorem dX7_done_56 : decode cX7_done 56 = .ok (.iconst 0, 1) := by decide +kernel
theorem dX7_done_57 : decode cX7_done 57 = .ok (.putfield 51, 3) := by decide +kernel
theorem dX7_done_60 : decode cX7_done 60 = .ok (.aload_n 0, 1) := by decide +kernel
theorem dX7_done_61 : decode cX7_done 61 = .ok (.iload_n 2, 1) := by decide +kernel
theorem dX7_done_62 : decode cX7_done 62 = .ok (.invokevirtual 210, 3) := by decide +kernel
theorem dX7_done_65 : decode cX7_done 65 = .ok (.istore_n 3, 1) := by decide +kernel
theorem dX7_done_66 : decode cX7_done 66 = .ok (.iload_n 3, 1) := by decide +kernel
theorem dX7_done_67 : decode cX7_done 67 = .ok (.ifCond .lt 10, 3) := by decide +kernel
theorem dX7_done_70 : decode cX7_done 70 = .ok (.aload_n 0, 1) := by decide +kernel
theorem dX7_done_71 : decode cX7_done 71 = .ok (.getfield 51, 3) := by decide +kernel
theorem dX7_done_74 : decode cX7_done 74 = .ok (.ifCond .le 56, 3) := by decide +kernel
theorem dX7_done_77 : decode cX7_done 77 = .ok (.aload_n 0, 1) := by decide +kernel
theorem dX7_done_78 : decode cX7_done 78 = .ok (.aload_n 0, 1) := by decide +kernel
theorem dX7_done_79 : decode cX7_done 79 = .ok (.getfield 51, 3) := by decide +kernel
theorem dX7_done_82 : decode cX7_done 82 = .ok (.ifCond .le 7, 3) := by decide +kernel
theorem dX7_done_85 : decode cX7_done 85 = .ok (.iconst 1, 1) := by decide +kernel
theorem dX7_done_86 : decode cX7_done 86 = .ok (.goto 4, 3) := by decide +kernel
theorem dX7_done_89 : decode cX7_done 89 = .ok (.iload_n 3, 1) := by decide +kernel
theorem dX7_done_90 : decode cX7_done 90 = .ok (.putfield 204, 3) := by decide +kernel
theorem dX7_done_93 : decode cX7_done 93 = .ok (.aload_n 0, 1) := by decide +kernel
theorem dX7_done_94 : decode cX7_done 94 = .ok (.iconst 0, 1) := by decide +kernel
theorem dX7_done_95 : decode cX7_done 95 = .ok (.putfield 51, 3) := by decide +kernel
theorem dX7_done_98 : decode cX7_done 98 = .ok (.iconst 0, 1) := by decide +kernel
theorem dX7_done_99 : decode cX7_done 99 = .ok (.istore 4, 2) := by decide +kernel
theorem dX7_done_101 : decode cX7_done 101 = .ok (.iload 4, 2) := by decide +kernel
theorem dX7_done_103 : decode cX7_done 103 = .ok (.bipush 28, 2) := by decide +kernel
theorem dX7_done_105 : decode cX7_done 105 = .ok (.if_icmp .ge 20, 3) := by decide +kernel
theorem dX7_done_108 : decode cX7_done 108 = .ok (.aload_n 0, 1) := by decide +kernel
theorem dX7_done_109 : decode cX7_done 109 = .ok (.iload 4, 2) := by decide +kernel
theorem dX7_done_111 : decode cX7_done 111 = .ok (.bipush 50, 2) := by decide +kernel
theorem dX7_done_113 : decode cX7_done 113 = .ok (.iload 4, 2) := by decide +kernel
theorem dX7_done_115 : decode cX7_done 115 = .ok (.iadd, 1) := by decide +kernel
theorem dX7_done_116 : decode cX7_done 116 = .ok (.invokevirtual 72, 3) := by decide +kernel
theorem dX7_done_119 : decode cX7_done 119 = .ok (.iinc 4 1, 3) := by decide +kernel
theorem dX7_done_122 : decode cX7_done 122 = .ok (.goto (-21), 3) := by decide +kernel
theorem dX7_done_125 : decode cX7_done 125 = .ok (.bipush (-10), 2) := by decide +kernel
theorem dX7_done_127 : decode cX7_done 127 = .ok (.iload_n 2, 1) := by decide +kernel
theorem dX7_done_128 : decode cX7_done 128 = .ok (.isub, 1) := by decide +kernel
theorem dX7_done_129 : decode cX7_done 129 = .ok (.ireturn, 1) := by decide +kernel
theorem dX7_done_130 : decode cX7_done 130 = .ok (.iinc 2 1, 3) := by decide +kernel
theorem dX7_done_133 : decode cX7_done 133 = .ok (.goto (-93), 3) := by decide +kernel
theorem dX7_done_136 : decode cX7_done 136 = .ok (.iload_n 1, 1) := by decide +kernel
theorem dX7_done_137 : decode cX7_done 137 = .ok (.ireturn, 1) := by decide +kernel
theorem dX7_tries_0 : decode cX7_tries 0 = .ok (.aload_n 0, 1) := by decide +kernel
theorem dX7_tries_1 : decode cX7_tries 1 = .ok (.getfield 207, 3) := by decide +kernel
theorem dX7_tries_4 : decode cX7_tries 4 = .ok (.ireturn, 1) := by decide +kernel
theorem dX7_why_0 : decode cX7_why 0 = .ok (.aload_n 0, 1) := by decide +kernel
theorem dX7_why_1 : decode cX7_why 1 = .ok (.getfield 204, 3) := by decide +kernel
theorem dX7_why_4 : decode cX7_why 4 = .ok (.ireturn, 1) := by decide +kernel
