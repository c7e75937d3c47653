theorem dX0_init_0 : decode cX0_init 0 = .ok (.aload_n 0, 1) := by decide +kernel
theorem dX0_init_1 : decode cX0_init 1 = .ok (.invokespecial 1, 3) := by decide +kernel
theorem dX0_init_4 : decode cX0_init 4 = .ok (.aload_n 0, 1) := by decide +kernel
theorem dX0_init_5 : decode cX0_init 5 = .ok (.bipush 80, 2) := by decide +kernel
theorem dX0_init_7 : decode cX0_init 7 = .ok (.newarray .int, 2) := by decide +kernel
theorem dX0_init_9 : decode cX0_init 9 = .ok (.putfield 9, 3) := by decide +kernel
theorem dX0_init_12 : decode cX0_init 12 = .ok (.aload_n 0, 1) := by decide +kernel
theorem dX0_init_13 : decode cX0_init 13 = .ok (.bipush 120, 2) := by decide +kernel
theorem dX0_init_15 : decode cX0_init 15 = .ok (.newarray .int, 2) := by decide +kernel
theorem dX0_init_17 : decode cX0_init 17 = .ok (.putfield 13, 3) := by decide +kernel
theorem dX0_init_20 : decode cX0_init 20 = .ok (.aload_n 0, 1) := by decide +kernel
theorem dX0_init_21 : decode cX0_init 21 = .ok (.new 16, 3) := by decide +kernel
theorem dX0_init_24 : decode cX0_init 24 = .ok (.dup, 1) := by decide +kernel
theorem dX0_init_25 : decode cX0_init 25 = .ok (.invokespecial 18, 3) := by decide +kernel
theorem dX0_init_28 : decode cX0_init 28 = .ok (.putfield 19, 3) := by decide +kernel
theorem dX0_init_31 : decode cX0_init 31 = .ok (.aload_n 0, 1) := by decide +kernel
theorem dX0_init_32 : decode cX0_init 32 = .ok (.iconst 1, 1) := by decide +kernel
theorem dX0_init_33 : decode cX0_init 33 = .ok (.putfield 23, 3) := by decide +kernel
theorem dX0_init_36 : decode cX0_init 36 = .ok (.aload_n 0, 1) := by decide +kernel
theorem dX0_init_37 : decode cX0_init 37 = .ok (.iconst 0, 1) := by decide +kernel
theorem dX0_init_38 : decode cX0_init 38 = .ok (.putfield 27, 3) := by decide +kernel
theorem dX0_init_41 : decode cX0_init 41 = .ok (.return_, 1) := by decide +kernel
theorem dX0_spell_0 : decode cX0_spell 0 = .ok (.aload_n 0, 1) := by decide +kernel
theorem dX0_spell_1 : decode cX0_spell 1 = .ok (.getfield 19, 3) := by decide +kernel
theorem dX0_spell_4 : decode cX0_spell 4 = .ok (.aload_n 1, 1) := by decide +kernel
theorem dX0_spell_5 : decode cX0_spell 5 = .ok (.invokevirtual 30, 3) := by decide +kernel
theorem dX0_spell_8 : decode cX0_spell 8 = .ok (.iconst 0, 1) := by decide +kernel
theorem dX0_spell_9 : decode cX0_spell 9 = .ok (.istore_n 2, 1) := by decide +kernel
theorem dX0_spell_10 : decode cX0_spell 10 = .ok (.iload_n 2, 1) := by decide +kernel
theorem dX0_spell_11 : decode cX0_spell 11 = .ok (.bipush 80, 2) := by decide +kernel
theorem dX0_spell_13 : decode cX0_spell 13 = .ok (.if_icmp .ge 53, 3) := by decide +kernel
theorem dX0_spell_16 : decode cX0_spell 16 = .ok (.aload_n 0, 1) := by decide +kernel
theorem dX0_spell_17 : decode cX0_spell 17 = .ok (.getfield 19, 3) := by decide +kernel
theorem dX0_spell_20 : decode cX0_spell 20 = .ok (.sipush 10000, 3) := by decide +kernel
theorem dX0_spell_23 : decode cX0_spell 23 = .ok (.invokevirtual 34, 3) := by decide +kernel
theorem dX0_spell_26 : decode cX0_spell 26 = .ok (.istore_n 3, 1) := by decide +kernel
theorem dX0_spell_27 : decode cX0_spell 27 = .ok (.iconst 0, 1) := by decide +kernel
theorem dX0_spell_28 : decode cX0_spell 28 = .ok (.istore 4, 2) := by decide +kernel
theorem dX0_spell_30 : decode cX0_spell 30 = .ok (.iload 4, 2) := by decide +kernel
theorem dX0_spell_32 : decode cX0_spell 32 = .ok (.iconst 4, 1) := by decide +kernel
theorem dX0_spell_33 : decode cX0_spell 33 = .ok (.if_icmp .ge 27, 3) := by decide +kernel
theorem dX0_spell_36 : decode cX0_spell 36 = .ok (.aload_n 0, 1) := by decide +kernel
theorem dX0_spell_37 : decode cX0_spell 37 = .ok (.getfield 9, 3) := by decide +kernel
theorem dX0_spell_40 : decode cX0_spell 40 = .ok (.iload_n 2, 1) := by decide +kernel
theorem dX0_spell_41 : decode cX0_spell 41 = .ok (.iload 4, 2) := by decide +kernel
theorem dX0_spell_43 : decode cX0_spell 43 = .ok (.iadd, 1) := by decide +kernel
theorem dX0_spell_44 : decode cX0_spell 44 = .ok (.iload_n 3, 1) := by decide +kernel
theorem dX0_spell_45 : decode cX0_spell 45 = .ok (.bipush 10, 2) := by decide +kernel
theorem dX0_spell_47 : decode cX0_spell 47 = .ok (.irem, 1) := by decide +kernel
theorem dX0_spell_48 : decode cX0_spell 48 = .ok (.iastore, 1) := by decide +kernel
theorem dX0_spell_49 : decode cX0_spell 49 = .ok (.iload_n 3, 1) := by decide +kernel
theorem dX0_spell_50 : decode cX0_spell 50 = .ok (.bipush 10, 2) := by decide +kernel
theorem dX0_spell_52 : decode cX0_spell 52 = .ok (.idiv, 1) := by decide +kernel
theorem dX0_spell_53 : decode cX0_spell 53 = .ok (.istore_n 3, 1) := by decide +kernel
theorem dX0_spell_54 : decode cX0_spell 54 = .ok (.iinc 4 1, 3) := by decide +kernel
theorem dX0_spell_57 : decode cX0_spell 57 = .ok (.goto (-27), 3) := by decide +kernel
theorem dX0_spell_60 : decode cX0_spell 60 = .ok (.iinc 2 4, 3) := by decide +kernel
theorem dX0_spell_63 : decode cX0_spell 63 = .ok (.goto (-53), 3) := by decide +kernel
theorem dX0_spell_66 : decode cX0_spell 66 = .ok (.aload_n 0, 1) := by decide +kernel
theorem dX0_spell_67 : decode cX0_spell 67 = .ok (.bipush 80, 2) := by decide +kernel
theorem dX0_spell_69 : decode cX0_spell 69 = .ok (.putfield 23, 3) := by decide +kernel
theorem dX0_spell_72 : decode cX0_spell 72 = .ok (.aload_n 0, 1) := by decide +kernel
theorem dX0_spell_73 : decode cX0_spell 73 = .ok (.getfield 23, 3) := by decide +kernel
theorem dX0_spell_76 : decode cX0_spell 76 = .ok (.iconst 1, 1) := by decide +kernel
theorem dX0_spell_77 : decode cX0_spell 77 = .ok (.if_icmp .le 30, 3) := by decide +kernel
theorem dX0_spell_80 : decode cX0_spell 80 = .ok (.aload_n 0, 1) := by decide +kernel
theorem dX0_spell_81 : decode cX0_spell 81 = .ok (.getfield 9, 3) := by decide +kernel
theorem dX0_spell_84 : decode cX0_spell 84 = .ok (.aload_n 0, 1) := by decide +kernel
theorem dX0_spell_85 : decode cX0_spell 85 = .ok (.getfield 23, 3) := by decide +kernel
theorem dX0_spell_88 : decode cX0_spell 88 = .ok (.iconst 1, 1) := by decide +kernel
theorem dX0_spell_89 : decode cX0_spell 89 = .ok (.isub, 1) := by decide +kernel
theorem dX0_spell_90 : decode cX0_spell 90 = .ok (.iaload, 1) := by decide +kernel
theorem dX0_spell_91 : decode cX0_spell 91 = .ok (.ifCond .ne 16, 3) := by decide +kernel
theorem dX0_spell_94 : decode cX0_spell 94 = .ok (.aload_n 0, 1) := by decide +kernel
theorem dX0_spell_95 : decode cX0_spell 95 = .ok (.dup, 1) := by decide +kernel
theorem dX0_spell_96 : decode cX0_spell 96 = .ok (.getfield 23, 3) := by decide +kernel
theorem dX0_spell_99 : decode cX0_spell 99 = .ok (.iconst 1, 1) := by decide +kernel
theorem dX0_spell_100 : decode cX0_spell 100 = .ok (.isub, 1) := by decide +kernel
theorem dX0_spell_101 : decode cX0_spell 101 = .ok (.putfield 23, 3) := by decide +kernel
theorem dX0_spell_104 : decode cX0_spell 104 = .ok (.goto (-32), 3) := by decide +kernel
theorem dX0_spell_107 : decode cX0_spell 107 = .ok (.return_, 1) := by decide +kernel
theorem dX0_write_0 : decode cX0_write 0 = .ok (.aload_n 0, 1) := by decide +kernel
theorem dX0_write_1 : decode cX0_write 1 = .ok (.iconst 0, 1) := by decide +kernel
theorem dX0_write_2 : decode cX0_write 2 = .ok (.putfield 27, 3) := by decide +kernel
theorem dX0_write_5 : decode cX0_write 5 = .ok (.aload_n 0, 1) := by decide +kernel
theorem dX0_write_6 : decode cX0_write 6 = .ok (.getfield 23, 3) := by decide +kernel
theorem dX0_write_9 : decode cX0_write 9 = .ok (.iconst 1, 1) := by decide +kernel
theorem dX0_write_10 : decode cX0_write 10 = .ok (.isub, 1) := by decide +kernel
theorem dX0_write_11 : decode cX0_write 11 = .ok (.iload_n 1, 1) := by decide +kernel
theorem dX0_write_12 : decode cX0_write 12 = .ok (.invokestatic 38, 3) := by decide +kernel
theorem dX0_write_15 : decode cX0_write 15 = .ok (.istore_n 2, 1) := by decide +kernel
theorem dX0_write_16 : decode cX0_write 16 = .ok (.iload_n 2, 1) := by decide +kernel
theorem dX0_write_17 : decode cX0_write 17 = .ok (.ifCond .lt 59, 3) := by decide +kernel
theorem dX0_write_20 : decode cX0_write 20 = .ok (.aload_n 0, 1) := by decide +kernel
theorem dX0_write_21 : decode cX0_write 21 = .ok (.bipush 48, 2) := by decide +kernel
theorem dX0_write_23 : decode cX0_write 23 = .ok (.aload_n 0, 1) := by decide +kernel
theorem dX0_write_24 : decode cX0_write 24 = .ok (.getfield 9, 3) := by decide +kernel
theorem dX0_write_27 : decode cX0_write 27 = .ok (.iload_n 2, 1) := by decide +kernel
theorem dX0_write_28 : decode cX0_write 28 = .ok (.iaload, 1) := by decide +kernel
theorem dX0_write_29 : decode cX0_write 29 = .ok (.iadd, 1) := by decide +kernel
theorem dX0_write_30 : decode cX0_write 30 = .ok (.invokevirtual 44, 3) := by decide +kernel
theorem dX0_write_33 : decode cX0_write 33 = .ok (.iload_n 2, 1) := by decide +kernel
theorem dX0_write_34 : decode cX0_write 34 = .ok (.iload_n 1, 1) := by decide +kernel
theorem dX0_write_35 : decode cX0_write 35 = .ok (.if_icmp .le 20, 3) := by decide +kernel
theorem dX0_write_38 : decode cX0_write 38 = .ok (.iload_n 2, 1) := by decide +kernel
theorem dX0_write_39 : decode cX0_write 39 = .ok (.iload_n 1, 1) := by decide +kernel
theorem dX0_write_40 : decode cX0_write 40 = .ok (.isub, 1) := by decide +kernel
theorem dX0_write_41 : decode cX0_write 41 = .ok (.iconst 3, 1) := by decide +kernel
theorem dX0_write_42 : decode cX0_write 42 = .ok (.irem, 1) := by decide +kernel
theorem dX0_write_43 : decode cX0_write 43 = .ok (.ifCond .ne 12, 3) := by decide +kernel
theorem dX0_write_46 : decode cX0_write 46 = .ok (.aload_n 0, 1) := by decide +kernel
theorem dX0_write_47 : decode cX0_write 47 = .ok (.bipush 44, 2) := by decide +kernel
theorem dX0_write_49 : decode cX0_write 49 = .ok (.invokevirtual 44, 3) := by decide +kernel
theorem dX0_write_52 : decode cX0_write 52 = .ok (.goto 18, 3) := by decide +kernel
theorem dX0_write_55 : decode cX0_write 55 = .ok (.iload_n 2, 1) := by decide +kernel
theorem dX0_write_56 : decode cX0_write 56 = .ok (.ifCond .le 14, 3) := by decide +kernel
theorem dX0_write_59 : decode cX0_write 59 = .ok (.iload_n 2, 1) := by decide +kernel
theorem dX0_write_60 : decode cX0_write 60 = .ok (.iload_n 1, 1) := by decide +kernel
theorem dX0_write_61 : decode cX0_write 61 = .ok (.if_icmp .ne 9, 3) := by decide +kernel
theorem dX0_write_64 : decode cX0_write 64 = .ok (.aload_n 0, 1) := by decide +kernel
theorem dX0_write_65 : decode cX0_write 65 = .ok (.bipush 46, 2) := by decide +kernel
theorem dX0_write_67 : decode cX0_write 67 = .ok (.invokevirtual 44, 3) := by decide +kernel
theorem dX0_write_70 : decode cX0_write 70 = .ok (.iinc 2 (-1), 3) := by decide +kernel
theorem dX0_write_73 : decode cX0_write 73 = .ok (.goto (-57), 3) := by decide +kernel
theorem dX0_write_76 : decode cX0_write 76 = .ok (.return_, 1) := by decide +kernel
theorem dX0_append_0 : decode cX0_append 0 = .ok (.aload_n 0, 1) := by decide +kernel
theorem dX0_append_1 : decode cX0_append 1 = .ok (.getfield 27, 3) := by decide +kernel
theorem dX0_append_4 : decode cX0_append 4 = .ok (.bipush 120, 2) := by decide +kernel
theorem dX0_append_6 : decode cX0_append 6 = .ok (.if_icmp .ge 23, 3) := by decide +kernel
theorem dX0_append_9 : decode cX0_append 9 = .ok (.aload_n 0, 1) := by decide +kernel
theorem dX0_append_10 : decode cX0_append 10 = .ok (.getfield 13, 3) := by decide +kernel
theorem dX0_append_13 : decode cX0_append 13 = .ok (.aload_n 0, 1) := by decide +kernel
theorem dX0_append_14 : decode cX0_append 14 = .ok (.getfield 27, 3) := by decide +kernel
theorem dX0_append_17 : decode cX0_append 17 = .ok (.iload_n 1, 1) := by decide +kernel
theorem dX0_append_18 : decode cX0_append 18 = .ok (.iastore, 1) := by decide +kernel
theorem dX0_append_19 : decode cX0_append 19 = .ok (.aload_n 0, 1) := by decide +kernel
theorem dX0_append_20 : decode cX0_append 20 = .ok (.dup, 1) := by decide +kernel
theorem dX0_append_21 : decode cX0_append 21 = .ok (.getfield 27, 3) := by decide +kernel
theorem dX0_append_24 : decode cX0_append 24 = .ok (.iconst 1, 1) := by decide +kernel
theorem dX0_append_25 : decode cX0_append 25 = .ok (.iadd, 1) := by decide +kernel
theorem dX0_append_26 : decode cX0_append 26 = .ok (.putfield 27, 3) := by decide +kernel
theorem dX0_append_29 : decode cX0_append 29 = .ok (.return_, 1) := by decide +kernel
