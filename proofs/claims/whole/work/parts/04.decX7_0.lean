theorem dX7_init_0 : decode cX7_init 0 = .ok (.aload_n 0, 1) := by decide +kernel
theorem dX7_init_1 : decode cX7_init 1 = .ok (.invokespecial 1, 3) := by decide +kernel
theorem dX7_init_4 : decode cX7_init 4 = .ok (.aload_n 0, 1) := by decide +kernel
theorem dX7_init_5 : decode cX7_init 5 = .ok (.sipush 960, 3) := by decide +kernel
theorem dX7_init_8 : decode cX7_init 8 = .ok (.newarray .long, 2) := by decide +kernel
theorem dX7_init_10 : decode cX7_init 10 = .ok (.putfield 7, 3) := by decide +kernel
theorem dX7_init_13 : decode cX7_init 13 = .ok (.aload_n 0, 1) := by decide +kernel
theorem dX7_init_14 : decode cX7_init 14 = .ok (.bipush 12, 2) := by decide +kernel
theorem dX7_init_16 : decode cX7_init 16 = .ok (.newarray .long, 2) := by decide +kernel
theorem dX7_init_18 : decode cX7_init 18 = .ok (.putfield 13, 3) := by decide +kernel
theorem dX7_init_21 : decode cX7_init 21 = .ok (.aload_n 0, 1) := by decide +kernel
theorem dX7_init_22 : decode cX7_init 22 = .ok (.iconst 4, 1) := by decide +kernel
theorem dX7_init_23 : decode cX7_init 23 = .ok (.newarray .int, 2) := by decide +kernel
theorem dX7_init_25 : decode cX7_init 25 = .ok (.putfield 16, 3) := by decide +kernel
theorem dX7_init_28 : decode cX7_init 28 = .ok (.aload_n 0, 1) := by decide +kernel
theorem dX7_init_29 : decode cX7_init 29 = .ok (.iconst 4, 1) := by decide +kernel
theorem dX7_init_30 : decode cX7_init 30 = .ok (.newarray .int, 2) := by decide +kernel
theorem dX7_init_32 : decode cX7_init 32 = .ok (.dup, 1) := by decide +kernel
theorem dX7_init_33 : decode cX7_init 33 = .ok (.iconst 0, 1) := by decide +kernel
theorem dX7_init_34 : decode cX7_init 34 = .ok (.iconst 1, 1) := by decide +kernel
theorem dX7_init_35 : decode cX7_init 35 = .ok (.iastore, 1) := by decide +kernel
theorem dX7_init_36 : decode cX7_init 36 = .ok (.dup, 1) := by decide +kernel
theorem dX7_init_37 : decode cX7_init 37 = .ok (.iconst 1, 1) := by decide +kernel
theorem dX7_init_38 : decode cX7_init 38 = .ok (.iconst 1, 1) := by decide +kernel
theorem dX7_init_39 : decode cX7_init 39 = .ok (.iastore, 1) := by decide +kernel
theorem dX7_init_40 : decode cX7_init 40 = .ok (.dup, 1) := by decide +kernel
theorem dX7_init_41 : decode cX7_init 41 = .ok (.iconst 2, 1) := by decide +kernel
theorem dX7_init_42 : decode cX7_init 42 = .ok (.iconst 1, 1) := by decide +kernel
theorem dX7_init_43 : decode cX7_init 43 = .ok (.iastore, 1) := by decide +kernel
theorem dX7_init_44 : decode cX7_init 44 = .ok (.dup, 1) := by decide +kernel
theorem dX7_init_45 : decode cX7_init 45 = .ok (.iconst 3, 1) := by decide +kernel
theorem dX7_init_46 : decode cX7_init 46 = .ok (.iconst 1, 1) := by decide +kernel
theorem dX7_init_47 : decode cX7_init 47 = .ok (.iastore, 1) := by decide +kernel
theorem dX7_init_48 : decode cX7_init 48 = .ok (.putfield 20, 3) := by decide +kernel
theorem dX7_init_51 : decode cX7_init 51 = .ok (.aload_n 0, 1) := by decide +kernel
theorem dX7_init_52 : decode cX7_init 52 = .ok (.iconst 2, 1) := by decide +kernel
theorem dX7_init_53 : decode cX7_init 53 = .ok (.putfield 23, 3) := by decide +kernel
theorem dX7_init_56 : decode cX7_init 56 = .ok (.aload_n 0, 1) := by decide +kernel
theorem dX7_init_57 : decode cX7_init 57 = .ok (.bipush 120, 2) := by decide +kernel
theorem dX7_init_59 : decode cX7_init 59 = .ok (.newarray .int, 2) := by decide +kernel
theorem dX7_init_61 : decode cX7_init 61 = .ok (.putfield 27, 3) := by decide +kernel
theorem dX7_init_64 : decode cX7_init 64 = .ok (.aload_n 0, 1) := by decide +kernel
theorem dX7_init_65 : decode cX7_init 65 = .ok (.bipush (-4), 2) := by decide +kernel
theorem dX7_init_67 : decode cX7_init 67 = .ok (.putfield 30, 3) := by decide +kernel
theorem dX7_init_70 : decode cX7_init 70 = .ok (.aload_n 0, 1) := by decide +kernel
theorem dX7_init_71 : decode cX7_init 71 = .ok (.sipush 200, 3) := by decide +kernel
theorem dX7_init_74 : decode cX7_init 74 = .ok (.newarray .int, 2) := by decide +kernel
theorem dX7_init_76 : decode cX7_init 76 = .ok (.putfield 33, 3) := by decide +kernel
theorem dX7_init_79 : decode cX7_init 79 = .ok (.aload_n 0, 1) := by decide +kernel
theorem dX7_init_80 : decode cX7_init 80 = .ok (.bipush 12, 2) := by decide +kernel
theorem dX7_init_82 : decode cX7_init 82 = .ok (.newarray .int, 2) := by decide +kernel
theorem dX7_init_84 : decode cX7_init 84 = .ok (.putfield 36, 3) := by decide +kernel
theorem dX7_init_87 : decode cX7_init 87 = .ok (.aload_n 0, 1) := by decide +kernel
theorem dX7_init_88 : decode cX7_init 88 = .ok (.bipush 12, 2) := by decide +kernel
theorem dX7_init_90 : decode cX7_init 90 = .ok (.newarray .int, 2) := by decide +kernel
theorem dX7_init_92 : decode cX7_init 92 = .ok (.putfield 39, 3) := by decide +kernel
theorem dX7_init_95 : decode cX7_init 95 = .ok (.aload_n 0, 1) := by decide +kernel
theorem dX7_init_96 : decode cX7_init 96 = .ok (.bipush 12, 2) := by decide +kernel
theorem dX7_init_98 : decode cX7_init 98 = .ok (.newarray .int, 2) := by decide +kernel
theorem dX7_init_100 : decode cX7_init 100 = .ok (.putfield 42, 3) := by decide +kernel
theorem dX7_init_103 : decode cX7_init 103 = .ok (.aload_n 0, 1) := by decide +kernel
theorem dX7_init_104 : decode cX7_init 104 = .ok (.bipush 12, 2) := by decide +kernel
theorem dX7_init_106 : decode cX7_init 106 = .ok (.newarray .int, 2) := by decide +kernel
theorem dX7_init_108 : decode cX7_init 108 = .ok (.putfield 45, 3) := by decide +kernel
theorem dX7_init_111 : decode cX7_init 111 = .ok (.aload_n 0, 1) := by decide +kernel
theorem dX7_init_112 : decode cX7_init 112 = .ok (.bipush 90, 2) := by decide +kernel
theorem dX7_init_114 : decode cX7_init 114 = .ok (.newarray .int, 2) := by decide +kernel
theorem dX7_init_116 : decode cX7_init 116 = .ok (.putfield 48, 3) := by decide +kernel
theorem dX7_init_119 : decode cX7_init 119 = .ok (.return_, 1) := by decide +kernel
theorem dX7_thrown_0 : decode cX7_thrown 0 = .ok (.aload_n 0, 1) := by decide +kernel
theorem dX7_thrown_1 : decode cX7_thrown 1 = .ok (.getfield 51, 3) := by decide +kernel
theorem dX7_thrown_4 : decode cX7_thrown 4 = .ok (.ireturn, 1) := by decide +kernel
theorem dX7_in_0 : decode cX7_in 0 = .ok (.lload_n 0, 1) := by decide +kernel
theorem dX7_in_1 : decode cX7_in 1 = .ok (.lload_n 2, 1) := by decide +kernel
theorem dX7_in_2 : decode cX7_in 2 = .ok (.lcmp, 1) := by decide +kernel
theorem dX7_in_3 : decode cX7_in 3 = .ok (.ifCond .lt 14, 3) := by decide +kernel
theorem dX7_in_6 : decode cX7_in 6 = .ok (.lload_n 0, 1) := by decide +kernel
theorem dX7_in_7 : decode cX7_in 7 = .ok (.lload 4, 2) := by decide +kernel
theorem dX7_in_9 : decode cX7_in 9 = .ok (.lcmp, 1) := by decide +kernel
theorem dX7_in_10 : decode cX7_in 10 = .ok (.ifCond .gt 7, 3) := by decide +kernel
theorem dX7_in_13 : decode cX7_in 13 = .ok (.iconst 1, 1) := by decide +kernel
theorem dX7_in_14 : decode cX7_in 14 = .ok (.goto 4, 3) := by decide +kernel
theorem dX7_in_17 : decode cX7_in 17 = .ok (.iconst 0, 1) := by decide +kernel
theorem dX7_in_18 : decode cX7_in 18 = .ok (.ireturn, 1) := by decide +kernel
theorem dX7_isRegister_0 : decode cX7_isRegister 0 = .ok (.iload_n 0, 1) := by decide +kernel
theorem dX7_isRegister_1 : decode cX7_isRegister 1 = .ok (.i2l, 1) := by decide +kernel
theorem dX7_isRegister_2 : decode cX7_isRegister 2 = .ok (.lconst 0, 1) := by decide +kernel
theorem dX7_isRegister_3 : decode cX7_isRegister 3 = .ok (.ldc2_w 54, 3) := by decide +kernel
theorem dX7_isRegister_6 : decode cX7_isRegister 6 = .ok (.invokestatic 56, 3) := by decide +kernel
theorem dX7_isRegister_9 : decode cX7_isRegister 9 = .ok (.ireturn, 1) := by decide +kernel
theorem dX7_copy_0 : decode cX7_copy 0 = .ok (.iconst 0, 1) := by decide +kernel
theorem dX7_copy_1 : decode cX7_copy 1 = .ok (.istore_n 3, 1) := by decide +kernel
theorem dX7_copy_2 : decode cX7_copy 2 = .ok (.iload_n 3, 1) := by decide +kernel
theorem dX7_copy_3 : decode cX7_copy 3 = .ok (.bipush 12, 2) := by decide +kernel
theorem dX7_copy_5 : decode cX7_copy 5 = .ok (.if_icmp .ge 31, 3) := by decide +kernel
theorem dX7_copy_8 : decode cX7_copy 8 = .ok (.aload_n 0, 1) := by decide +kernel
theorem dX7_copy_9 : decode cX7_copy 9 = .ok (.getfield 7, 3) := by decide +kernel
theorem dX7_copy_12 : decode cX7_copy 12 = .ok (.bipush 12, 2) := by decide +kernel
theorem dX7_copy_14 : decode cX7_copy 14 = .ok (.iload_n 1, 1) := by decide +kernel
theorem dX7_copy_15 : decode cX7_copy 15 = .ok (.imul, 1) := by decide +kernel
theorem dX7_copy_16 : decode cX7_copy 16 = .ok (.iload_n 3, 1) := by decide +kernel
theorem dX7_copy_17 : decode cX7_copy 17 = .ok (.iadd, 1) := by decide +kernel
theorem dX7_copy_18 : decode cX7_copy 18 = .ok (.aload_n 0, 1) := by decide +kernel
theorem dX7_copy_19 : decode cX7_copy 19 = .ok (.getfield 7, 3) := by decide +kernel
theorem dX7_copy_22 : decode cX7_copy 22 = .ok (.bipush 12, 2) := by decide +kernel
theorem dX7_copy_24 : decode cX7_copy 24 = .ok (.iload_n 2, 1) := by decide +kernel
theorem dX7_copy_25 : decode cX7_copy 25 = .ok (.imul, 1) := by decide +kernel
theorem dX7_copy_26 : decode cX7_copy 26 = .ok (.iload_n 3, 1) := by decide +kernel
theorem dX7_copy_27 : decode cX7_copy 27 = .ok (.iadd, 1) := by decide +kernel
theorem dX7_copy_28 : decode cX7_copy 28 = .ok (.laload, 1) := by decide +kernel
theorem dX7_copy_29 : decode cX7_copy 29 = .ok (.lastore, 1) := by decide +kernel
theorem dX7_copy_30 : decode cX7_copy 30 = .ok (.iinc 3 1, 3) := by decide +kernel
theorem dX7_copy_33 : decode cX7_copy 33 = .ok (.goto (-31), 3) := by decide +kernel
theorem dX7_copy_36 : decode cX7_copy 36 = .ok (.return_, 1) := by decide +kernel
theorem dX7_set_0 : decode cX7_set 0 = .ok (.iconst 0, 1) := by decide +kernel
theorem dX7_set_1 : decode cX7_set 1 = .ok (.istore 4, 2) := by decide +kernel
theorem dX7_set_3 : decode cX7_set 3 = .ok (.iload 4, 2) := by decide +kernel
theorem dX7_set_5 : decode cX7_set 5 = .ok (.bipush 12, 2) := by decide +kernel
theorem dX7_set_7 : decode cX7_set 7 = .ok (.if_icmp .ge 48, 3) := by decide +kernel
theorem dX7_set_10 : decode cX7_set 10 = .ok (.aload_n 0, 1) := by decide +kernel
theorem dX7_set_11 : decode cX7_set 11 = .ok (.getfield 7, 3) := by decide +kernel
theorem dX7_set_14 : decode cX7_set 14 = .ok (.bipush 12, 2) := by decide +kernel
theorem dX7_set_16 : decode cX7_set 16 = .ok (.iload_n 1, 1) := by decide +kernel
theorem dX7_set_17 : decode cX7_set 17 = .ok (.imul, 1) := by decide +kernel
theorem dX7_set_18 : decode cX7_set 18 = .ok (.iload 4, 2) := by decide +kernel
theorem dX7_set_20 : decode cX7_set 20 = .ok (.iadd, 1) := by decide +kernel
theorem dX7_set_21 : decode cX7_set 21 = .ok (.iload 4, 2) := by decide +kernel
theorem dX7_set_23 : decode cX7_set 23 = .ok (.ifCond .ne 11, 3) := by decide +kernel
theorem dX7_set_26 : decode cX7_set 26 = .ok (.lload_n 2, 1) := by decide +kernel
theorem dX7_set_27 : decode cX7_set 27 = .ok (.ldc2_w 60, 3) := by decide +kernel
theorem dX7_set_30 : decode cX7_set 30 = .ok (.land, 1) := by decide +kernel
theorem dX7_set_31 : decode cX7_set 31 = .ok (.goto 17, 3) := by decide +kernel
theorem dX7_set_34 : decode cX7_set 34 = .ok (.iload 4, 2) := by decide +kernel
theorem dX7_set_36 : decode cX7_set 36 = .ok (.iconst 1, 1) := by decide +kernel
theorem dX7_set_37 : decode cX7_set 37 = .ok (.if_icmp .ne 10, 3) := by decide +kernel
theorem dX7_set_40 : decode cX7_set 40 = .ok (.lload_n 2, 1) := by decide +kernel
theorem dX7_set_41 : decode cX7_set 41 = .ok (.bipush 32, 2) := by decide +kernel
theorem dX7_set_43 : decode cX7_set 43 = .ok (.lushr, 1) := by decide +kernel
theorem dX7_set_44 : decode cX7_set 44 = .ok (.goto 4, 3) := by decide +kernel
theorem dX7_set_47 : decode cX7_set 47 = .ok (.lconst 0, 1) := by decide +kernel
theorem dX7_set_48 : decode cX7_set 48 = .ok (.lastore, 1) := by decide +kernel
theorem dX7_set_49 : decode cX7_set 49 = .ok (.iinc 4 1, 3) := by decide +kernel
theorem dX7_set_52 : decode cX7_set 52 = .ok (.goto (-49), 3) := by decide +kernel
theorem dX7_set_55 : decode cX7_set 55 = .ok (.return_, 1) := by decide +kernel
theorem dX7_isZero_0 : decode cX7_isZero 0 = .ok (.iconst 1, 1) := by decide +kernel
theorem dX7_isZero_1 : decode cX7_isZero 1 = .ok (.istore_n 2, 1) := by decide +kernel
theorem dX7_isZero_2 : decode cX7_isZero 2 = .ok (.iconst 0, 1) := by decide +kernel
theorem dX7_isZero_3 : decode cX7_isZero 3 = .ok (.istore_n 3, 1) := by decide +kernel
theorem dX7_isZero_4 : decode cX7_isZero 4 = .ok (.iload_n 3, 1) := by decide +kernel
theorem dX7_isZero_5 : decode cX7_isZero 5 = .ok (.bipush 12, 2) := by decide +kernel
theorem dX7_isZero_7 : decode cX7_isZero 7 = .ok (.if_icmp .ge 35, 3) := by decide +kernel
theorem dX7_isZero_10 : decode cX7_isZero 10 = .ok (.iload_n 2, 1) := by decide +kernel
theorem dX7_isZero_11 : decode cX7_isZero 11 = .ok (.ifCond .eq 23, 3) := by decide +kernel
theorem dX7_isZero_14 : decode cX7_isZero 14 = .ok (.aload_n 0, 1) := by decide +kernel
theorem dX7_isZero_15 : decode cX7_isZero 15 = .ok (.getfield 7, 3) := by decide +kernel
theorem dX7_isZero_18 : decode cX7_isZero 18 = .ok (.bipush 12, 2) := by decide +kernel
theorem dX7_isZero_20 : decode cX7_isZero 20 = .ok (.iload_n 1, 1) := by decide +kernel
theorem dX7_isZero_21 : decode cX7_isZero 21 = .ok (.imul, 1) := by decide +kernel
theorem dX7_isZero_22 : decode cX7_isZero 22 = .ok (.iload_n 3, 1) := by decide +kernel
theorem dX7_isZero_23 : decode cX7_isZero 23 = .ok (.iadd, 1) := by decide +kernel
theorem dX7_isZero_24 : decode cX7_isZero 24 = .ok (.laload, 1) := by decide +kernel
theorem dX7_isZero_25 : decode cX7_isZero 25 = .ok (.lconst 0, 1) := by decide +kernel
theorem dX7_isZero_26 : decode cX7_isZero 26 = .ok (.lcmp, 1) := by decide +kernel
theorem dX7_isZero_27 : decode cX7_isZero 27 = .ok (.ifCond .ne 7, 3) := by decide +kernel
theorem dX7_isZero_30 : decode cX7_isZero 30 = .ok (.iconst 1, 1) := by decide +kernel
theorem dX7_isZero_31 : decode cX7_isZero 31 = .ok (.goto 4, 3) := by decide +kernel
theorem dX7_isZero_34 : decode cX7_isZero 34 = .ok (.iconst 0, 1) := by decide +kernel
theorem dX7_isZero_35 : decode cX7_isZero 35 = .ok (.istore_n 2, 1) := by decide +kernel
theorem dX7_isZero_36 : decode cX7_isZero 36 = .ok (.iinc 3 1, 3) := by decide +kernel
theorem dX7_isZero_39 : decode cX7_isZero 39 = .ok (.goto (-35), 3) := by decide +kernel
theorem dX7_isZero_42 : decode cX7_isZero 42 = .ok (.iload_n 2, 1) := by decide +kernel
theorem dX7_isZero_43 : decode cX7_isZero 43 = .ok (.ireturn, 1) := by decide +kernel
theorem dX7_compare_0 : decode cX7_compare 0 = .ok (.bipush 11, 2) := by decide +kernel
theorem dX7_compare_2 : decode cX7_compare 2 = .ok (.istore_n 3, 1) := by decide +kernel
theorem dX7_compare_3 : decode cX7_compare 3 = .ok (.iload_n 3, 1) := by decide +kernel
theorem dX7_compare_4 : decode cX7_compare 4 = .ok (.ifCond .lt 57, 3) := by decide +kernel
theorem dX7_compare_7 : decode cX7_compare 7 = .ok (.aload_n 0, 1) := by decide +kernel
theorem dX7_compare_8 : decode cX7_compare 8 = .ok (.getfield 7, 3) := by decide +kernel
theorem dX7_compare_11 : decode cX7_compare 11 = .ok (.bipush 12, 2) := by decide +kernel
theorem dX7_compare_13 : decode cX7_compare 13 = .ok (.iload_n 1, 1) := by decide +kernel
theorem dX7_compare_14 : decode cX7_compare 14 = .ok (.imul, 1) := by decide +kernel
theorem dX7_compare_15 : decode cX7_compare 15 = .ok (.iload_n 3, 1) := by decide +kernel
theorem dX7_compare_16 : decode cX7_compare 16 = .ok (.iadd, 1) := by decide +kernel
theorem dX7_compare_17 : decode cX7_compare 17 = .ok (.laload, 1) := by decide +kernel
theorem dX7_compare_18 : decode cX7_compare 18 = .ok (.lstore 4, 2) := by decide +kernel
theorem dX7_compare_20 : decode cX7_compare 20 = .ok (.aload_n 0, 1) := by decide +kernel
theorem dX7_compare_21 : decode cX7_compare 21 = .ok (.getfield 7, 3) := by decide +kernel
theorem dX7_compare_24 : decode cX7_compare 24 = .ok (.bipush 12, 2) := by decide +kernel
theorem dX7_compare_26 : decode cX7_compare 26 = .ok (.iload_n 2, 1) := by decide +kernel
theorem dX7_compare_27 : decode cX7_compare 27 = .ok (.imul, 1) := by decide +kernel
theorem dX7_compare_28 : decode cX7_compare 28 = .ok (.iload_n 3, 1) := by decide +kernel
theorem dX7_compare_29 : decode cX7_compare 29 = .ok (.iadd, 1) := by decide +kernel
theorem dX7_compare_30 : decode cX7_compare 30 = .ok (.laload, 1) := by decide +kernel
theorem dX7_compare_31 : decode cX7_compare 31 = .ok (.lstore 6, 2) := by decide +kernel
theorem dX7_compare_33 : decode cX7_compare 33 = .ok (.lload 4, 2) := by decide +kernel
theorem dX7_compare_35 : decode cX7_compare 35 = .ok (.lload 6, 2) := by decide +kernel
theorem dX7_compare_37 : decode cX7_compare 37 = .ok (.lcmp, 1) := by decide +kernel
theorem dX7_compare_38 : decode cX7_compare 38 = .ok (.ifCond .eq 17, 3) := by decide +kernel
theorem dX7_compare_41 : decode cX7_compare 41 = .ok (.lload 4, 2) := by decide +kernel
theorem dX7_compare_43 : decode cX7_compare 43 = .ok (.lload 6, 2) := by decide +kernel
theorem dX7_compare_45 : decode cX7_compare 45 = .ok (.lcmp, 1) := by decide +kernel
theorem dX7_compare_46 : decode cX7_compare 46 = .ok (.ifCond .ge 7, 3) := by decide +kernel
theorem dX7_compare_49 : decode cX7_compare 49 = .ok (.iconst (-1), 1) := by decide +kernel
theorem dX7_compare_50 : decode cX7_compare 50 = .ok (.goto 4, 3) := by decide +kernel
theorem dX7_compare_53 : decode cX7_compare 53 = .ok (.iconst 1, 1) := by decide +kernel
theorem dX7_compare_54 : decode cX7_compare 54 = .ok (.ireturn, 1) := by decide +kernel
theorem dX7_compare_55 : decode cX7_compare 55 = .ok (.iinc 3 (-1), 3) := by decide +kernel
theorem dX7_compare_58 : decode cX7_compare 58 = .ok (.goto (-55), 3) := by decide +kernel
theorem dX7_compare_61 : decode cX7_compare 61 = .ok (.iconst 0, 1) := by decide +kernel
theorem dX7_compare_62 : decode cX7_compare 62 = .ok (.ireturn, 1) := by decide +kernel
theorem dX7_plus_0 : decode cX7_plus 0 = .ok (.lconst 0, 1) := by decide +kernel
theorem dX7_plus_1 : decode cX7_plus 1 = .ok (.lstore 4, 2) := by decide +kernel
theorem dX7_plus_3 : decode cX7_plus 3 = .ok (.iconst 0, 1) := by decide +kernel
theorem dX7_plus_4 : decode cX7_plus 4 = .ok (.istore 6, 2) := by decide +kernel
theorem dX7_plus_6 : decode cX7_plus 6 = .ok (.iload 6, 2) := by decide +kernel
theorem dX7_plus_8 : decode cX7_plus 8 = .ok (.bipush 12, 2) := by decide +kernel
theorem dX7_plus_10 : decode cX7_plus 10 = .ok (.if_icmp .ge 64, 3) := by decide +kernel
theorem dX7_plus_13 : decode cX7_plus 13 = .ok (.lload 4, 2) := by decide +kernel
theorem dX7_plus_15 : decode cX7_plus 15 = .ok (.aload_n 0, 1) := by decide +kernel
theorem dX7_plus_16 : decode cX7_plus 16 = .ok (.getfield 7, 3) := by decide +kernel
theorem dX7_plus_19 : decode cX7_plus 19 = .ok (.bipush 12, 2) := by decide +kernel
theorem dX7_plus_21 : decode cX7_plus 21 = .ok (.iload_n 2, 1) := by decide +kernel
theorem dX7_plus_22 : decode cX7_plus 22 = .ok (.imul, 1) := by decide +kernel
theorem dX7_plus_23 : decode cX7_plus 23 = .ok (.iload 6, 2) := by decide +kernel
theorem dX7_plus_25 : decode cX7_plus 25 = .ok (.iadd, 1) := by decide +kernel
theorem dX7_plus_26 : decode cX7_plus 26 = .ok (.laload, 1) := by decide +kernel
theorem dX7_plus_27 : decode cX7_plus 27 = .ok (.aload_n 0, 1) := by decide +kernel
theorem dX7_plus_28 : decode cX7_plus 28 = .ok (.getfield 7, 3) := by decide +kernel
theorem dX7_plus_31 : decode cX7_plus 31 = .ok (.bipush 12, 2) := by decide +kernel
theorem dX7_plus_33 : decode cX7_plus 33 = .ok (.iload_n 3, 1) := by decide +kernel
theorem dX7_plus_34 : decode cX7_plus 34 = .ok (.imul, 1) := by decide +kernel
theorem dX7_plus_35 : decode cX7_plus 35 = .ok (.iload 6, 2) := by decide +kernel
theorem dX7_plus_37 : decode cX7_plus 37 = .ok (.iadd, 1) := by decide +kernel
theorem dX7_plus_38 : decode cX7_plus 38 = .ok (.laload, 1) := by decide +kernel
theorem dX7_plus_39 : decode cX7_plus 39 = .ok (.ladd, 1) := by decide +kernel
theorem dX7_plus_40 : decode cX7_plus 40 = .ok (.ladd, 1) := by decide +kernel
theorem dX7_plus_41 : decode cX7_plus 41 = .ok (.lstore 4, 2) := by decide +kernel
theorem dX7_plus_43 : decode cX7_plus 43 = .ok (.aload_n 0, 1) := by decide +kernel
theorem dX7_plus_44 : decode cX7_plus 44 = .ok (.getfield 7, 3) := by decide +kernel
theorem dX7_plus_47 : decode cX7_plus 47 = .ok (.bipush 12, 2) := by decide +kernel
theorem dX7_plus_49 : decode cX7_plus 49 = .ok (.iload_n 1, 1) := by decide +kernel
theorem dX7_plus_50 : decode cX7_plus 50 = .ok (.imul, 1) := by decide +kernel
theorem dX7_plus_51 : decode cX7_plus 51 = .ok (.iload 6, 2) := by decide +kernel
theorem dX7_plus_53 : decode cX7_plus 53 = .ok (.iadd, 1) := by decide +kernel
theorem dX7_plus_54 : decode cX7_plus 54 = .ok (.lload 4, 2) := by decide +kernel
theorem dX7_plus_56 : decode cX7_plus 56 = .ok (.ldc2_w 60, 3) := by decide +kernel
theorem dX7_plus_59 : decode cX7_plus 59 = .ok (.land, 1) := by decide +kernel
theorem dX7_plus_60 : decode cX7_plus 60 = .ok (.lastore, 1) := by decide +kernel
theorem dX7_plus_61 : decode cX7_plus 61 = .ok (.lload 4, 2) := by decide +kernel
theorem dX7_plus_63 : decode cX7_plus 63 = .ok (.bipush 32, 2) := by decide +kernel
theorem dX7_plus_65 : decode cX7_plus 65 = .ok (.lushr, 1) := by decide +kernel
theorem dX7_plus_66 : decode cX7_plus 66 = .ok (.lstore 4, 2) := by decide +kernel
theorem dX7_plus_68 : decode cX7_plus 68 = .ok (.iinc 6 1, 3) := by decide +kernel
theorem dX7_plus_71 : decode cX7_plus 71 = .ok (.goto (-65), 3) := by decide +kernel
theorem dX7_plus_74 : decode cX7_plus 74 = .ok (.return_, 1) := by decide +kernel
theorem dX7_minus_0 : decode cX7_minus 0 = .ok (.lconst 0, 1) := by decide +kernel
theorem dX7_minus_1 : decode cX7_minus 1 = .ok (.lstore 4, 2) := by decide +kernel
theorem dX7_minus_3 : decode cX7_minus 3 = .ok (.iconst 0, 1) := by decide +kernel
theorem dX7_minus_4 : decode cX7_minus 4 = .ok (.istore 6, 2) := by decide +kernel
theorem dX7_minus_6 : decode cX7_minus 6 = .ok (.iload 6, 2) := by decide +kernel
theorem dX7_minus_8 : decode cX7_minus 8 = .ok (.bipush 12, 2) := by decide +kernel
theorem dX7_minus_10 : decode cX7_minus 10 = .ok (.if_icmp .ge 64, 3) := by decide +kernel
theorem dX7_minus_13 : decode cX7_minus 13 = .ok (.lload 4, 2) := by decide +kernel
theorem dX7_minus_15 : decode cX7_minus 15 = .ok (.aload_n 0, 1) := by decide +kernel
theorem dX7_minus_16 : decode cX7_minus 16 = .ok (.getfield 7, 3) := by decide +kernel
theorem dX7_minus_19 : decode cX7_minus 19 = .ok (.bipush 12, 2) := by decide +kernel
theorem dX7_minus_21 : decode cX7_minus 21 = .ok (.iload_n 2, 1) := by decide +kernel
theorem dX7_minus_22 : decode cX7_minus 22 = .ok (.imul, 1) := by decide +kernel
theorem dX7_minus_23 : decode cX7_minus 23 = .ok (.iload 6, 2) := by decide +kernel
theorem dX7_minus_25 : decode cX7_minus 25 = .ok (.iadd, 1) := by decide +kernel
theorem dX7_minus_26 : decode cX7_minus 26 = .ok (.laload, 1) := by decide +kernel
theorem dX7_minus_27 : decode cX7_minus 27 = .ok (.aload_n 0, 1) := by decide +kernel
theorem dX7_minus_28 : decode cX7_minus 28 = .ok (.getfield 7, 3) := by decide +kernel
theorem dX7_minus_31 : decode cX7_minus 31 = .ok (.bipush 12, 2) := by decide +kernel
theorem dX7_minus_33 : decode cX7_minus 33 = .ok (.iload_n 3, 1) := by decide +kernel
theorem dX7_minus_34 : decode cX7_minus 34 = .ok (.imul, 1) := by decide +kernel
theorem dX7_minus_35 : decode cX7_minus 35 = .ok (.iload 6, 2) := by decide +kernel
theorem dX7_minus_37 : decode cX7_minus 37 = .ok (.iadd, 1) := by decide +kernel
theorem dX7_minus_38 : decode cX7_minus 38 = .ok (.laload, 1) := by decide +kernel
theorem dX7_minus_39 : decode cX7_minus 39 = .ok (.lsub, 1) := by decide +kernel
theorem dX7_minus_40 : decode cX7_minus 40 = .ok (.ladd, 1) := by decide +kernel
theorem dX7_minus_41 : decode cX7_minus 41 = .ok (.lstore 4, 2) := by decide +kernel
theorem dX7_minus_43 : decode cX7_minus 43 = .ok (.aload_n 0, 1) := by decide +kernel
theorem dX7_minus_44 : decode cX7_minus 44 = .ok (.getfield 7, 3) := by decide +kernel
theorem dX7_minus_47 : decode cX7_minus 47 = .ok (.bipush 12, 2) := by decide +kernel
theorem dX7_minus_49 : decode cX7_minus 49 = .ok (.iload_n 1, 1) := by decide +kernel
theorem dX7_minus_50 : decode cX7_minus 50 = .ok (.imul, 1) := by decide +kernel
theorem dX7_minus_51 : decode cX7_minus 51 = .ok (.iload 6, 2) := by decide +kernel
theorem dX7_minus_53 : decode cX7_minus 53 = .ok (.iadd, 1) := by decide +kernel
theorem dX7_minus_54 : decode cX7_minus 54 = .ok (.lload 4, 2) := by decide +kernel
theorem dX7_minus_56 : decode cX7_minus 56 = .ok (.ldc2_w 60, 3) := by decide +kernel
theorem dX7_minus_59 : decode cX7_minus 59 = .ok (.land, 1) := by decide +kernel
theorem dX7_minus_60 : decode cX7_minus 60 = .ok (.lastore, 1) := by decide +kernel
theorem dX7_minus_61 : decode cX7_minus 61 = .ok (.lload 4, 2) := by decide +kernel
theorem dX7_minus_63 : decode cX7_minus 63 = .ok (.bipush 32, 2) := by decide +kernel
theorem dX7_minus_65 : decode cX7_minus 65 = .ok (.lshr, 1) := by decide +kernel
theorem dX7_minus_66 : decode cX7_minus 66 = .ok (.lstore 4, 2) := by decide +kernel
theorem dX7_minus_68 : decode cX7_minus 68 = .ok (.iinc 6 1, 3) := by decide +kernel
theorem dX7_minus_71 : decode cX7_minus 71 = .ok (.goto (-65), 3) := by decide +kernel
theorem dX7_minus_74 : decode cX7_minus 74 = .ok (.return_, 1) := by decide +kernel
theorem dX7_one_0 : decode cX7_one 0 = .ok (.aload_n 0, 1) := by decide +kernel
theorem dX7_one_1 : decode cX7_one 1 = .ok (.bipush 35, 2) := by decide +kernel
theorem dX7_one_3 : decode cX7_one 3 = .ok (.lconst 1, 1) := by decide +kernel
theorem dX7_one_4 : decode cX7_one 4 = .ok (.invokevirtual 62, 3) := by decide +kernel
theorem dX7_one_7 : decode cX7_one 7 = .ok (.aload_n 0, 1) := by decide +kernel
theorem dX7_one_8 : decode cX7_one 8 = .ok (.iload_n 1, 1) := by decide +kernel
theorem dX7_one_9 : decode cX7_one 9 = .ok (.iload_n 1, 1) := by decide +kernel
theorem dX7_one_10 : decode cX7_one 10 = .ok (.bipush 35, 2) := by decide +kernel
theorem dX7_one_12 : decode cX7_one 12 = .ok (.invokevirtual 66, 3) := by decide +kernel
theorem dX7_one_15 : decode cX7_one 15 = .ok (.return_, 1) := by decide +kernel
theorem dX7_product_0 : decode cX7_product 0 = .ok (.aload_n 0, 1) := by decide +kernel
theorem dX7_product_1 : decode cX7_product 1 = .ok (.bipush 34, 2) := by decide +kernel
theorem dX7_product_3 : decode cX7_product 3 = .ok (.lconst 0, 1) := by decide +kernel
theorem dX7_product_4 : decode cX7_product 4 = .ok (.invokevirtual 62, 3) := by decide +kernel
theorem dX7_product_7 : decode cX7_product 7 = .ok (.iconst 0, 1) := by decide +kernel
theorem dX7_product_8 : decode cX7_product 8 = .ok (.istore 4, 2) := by decide +kernel
theorem dX7_product_10 : decode cX7_product 10 = .ok (.iload 4, 2) := by decide +kernel
theorem dX7_product_12 : decode cX7_product 12 = .ok (.bipush 12, 2) := by decide +kernel
theorem dX7_product_14 : decode cX7_product 14 = .ok (.if_icmp .ge 151, 3) := by decide +kernel
theorem dX7_product_17 : decode cX7_product 17 = .ok (.aload_n 0, 1) := by decide +kernel
theorem dX7_product_18 : decode cX7_product 18 = .ok (.getfield 7, 3) := by decide +kernel
theorem dX7_product_21 : decode cX7_product 21 = .ok (.bipush 12, 2) := by decide +kernel
theorem dX7_product_23 : decode cX7_product 23 = .ok (.iload_n 2, 1) := by decide +kernel
theorem dX7_product_24 : decode cX7_product 24 = .ok (.imul, 1) := by decide +kernel
theorem dX7_product_25 : decode cX7_product 25 = .ok (.iload 4, 2) := by decide +kernel
theorem dX7_product_27 : decode cX7_product 27 = .ok (.iadd, 1) := by decide +kernel
theorem dX7_product_28 : decode cX7_product 28 = .ok (.laload, 1) := by decide +kernel
theorem dX7_product_29 : decode cX7_product 29 = .ok (.lstore 5, 2) := by decide +kernel
theorem dX7_product_31 : decode cX7_product 31 = .ok (.lconst 0, 1) := by decide +kernel
theorem dX7_product_32 : decode cX7_product 32 = .ok (.lstore 7, 2) := by decide +kernel
theorem dX7_product_34 : decode cX7_product 34 = .ok (.iconst 0, 1) := by decide +kernel
theorem dX7_product_35 : decode cX7_product 35 = .ok (.istore 9, 2) := by decide +kernel
theorem dX7_product_37 : decode cX7_product 37 = .ok (.iload 4, 2) := by decide +kernel
theorem dX7_product_39 : decode cX7_product 39 = .ok (.iload 9, 2) := by decide +kernel
theorem dX7_product_41 : decode cX7_product 41 = .ok (.iadd, 1) := by decide +kernel
theorem dX7_product_42 : decode cX7_product 42 = .ok (.bipush 12, 2) := by decide +kernel
theorem dX7_product_44 : decode cX7_product 44 = .ok (.if_icmp .ge 115, 3) := by decide +kernel
theorem dX7_product_47 : decode cX7_product 47 = .ok (.aload_n 0, 1) := by decide +kernel
theorem dX7_product_48 : decode cX7_product 48 = .ok (.getfield 7, 3) := by decide +kernel
theorem dX7_product_51 : decode cX7_product 51 = .ok (.bipush 12, 2) := by decide +kernel
theorem dX7_product_53 : decode cX7_product 53 = .ok (.iload_n 3, 1) := by decide +kernel
theorem dX7_product_54 : decode cX7_product 54 = .ok (.imul, 1) := by decide +kernel
theorem dX7_product_55 : decode cX7_product 55 = .ok (.iload 9, 2) := by decide +kernel
theorem dX7_product_57 : decode cX7_product 57 = .ok (.iadd, 1) := by decide +kernel
theorem dX7_product_58 : decode cX7_product 58 = .ok (.laload, 1) := by decide +kernel
theorem dX7_product_59 : decode cX7_product 59 = .ok (.lstore 10, 2) := by decide +kernel
theorem dX7_product_61 : decode cX7_product 61 = .ok (.lload 5, 2) := by decide +kernel
theorem dX7_product_63 : decode cX7_product 63 = .ok (.lload 10, 2) := by decide +kernel
theorem dX7_product_65 : decode cX7_product 65 = .ok (.ldc2_w 70, 3) := by decide +kernel
theorem dX7_product_68 : decode cX7_product 68 = .ok (.land, 1) := by decide +kernel
theorem dX7_product_69 : decode cX7_product 69 = .ok (.lmul, 1) := by decide +kernel
theorem dX7_product_70 : decode cX7_product 70 = .ok (.aload_n 0, 1) := by decide +kernel
theorem dX7_product_71 : decode cX7_product 71 = .ok (.getfield 7, 3) := by decide +kernel
theorem dX7_product_74 : decode cX7_product 74 = .ok (.sipush 408, 3) := by decide +kernel
theorem dX7_product_77 : decode cX7_product 77 = .ok (.iload 4, 2) := by decide +kernel
theorem dX7_product_79 : decode cX7_product 79 = .ok (.iadd, 1) := by decide +kernel
theorem dX7_product_80 : decode cX7_product 80 = .ok (.iload 9, 2) := by decide +kernel
theorem dX7_product_82 : decode cX7_product 82 = .ok (.iadd, 1) := by decide +kernel
theorem dX7_product_83 : decode cX7_product 83 = .ok (.laload, 1) := by decide +kernel
theorem dX7_product_84 : decode cX7_product 84 = .ok (.ladd, 1) := by decide +kernel
theorem dX7_product_85 : decode cX7_product 85 = .ok (.lload 7, 2) := by decide +kernel
theorem dX7_product_87 : decode cX7_product 87 = .ok (.ldc2_w 60, 3) := by decide +kernel
theorem dX7_product_90 : decode cX7_product 90 = .ok (.land, 1) := by decide +kernel
theorem dX7_product_91 : decode cX7_product 91 = .ok (.ladd, 1) := by decide +kernel
theorem dX7_product_92 : decode cX7_product 92 = .ok (.lstore 12, 2) := by decide +kernel
theorem dX7_product_94 : decode cX7_product 94 = .ok (.lload 5, 2) := by decide +kernel
theorem dX7_product_96 : decode cX7_product 96 = .ok (.lload 10, 2) := by decide +kernel
theorem dX7_product_98 : decode cX7_product 98 = .ok (.bipush 16, 2) := by decide +kernel
theorem dX7_product_100 : decode cX7_product 100 = .ok (.lushr, 1) := by decide +kernel
theorem dX7_product_101 : decode cX7_product 101 = .ok (.lmul, 1) := by decide +kernel
theorem dX7_product_102 : decode cX7_product 102 = .ok (.lload 12, 2) := by decide +kernel
theorem dX7_product_104 : decode cX7_product 104 = .ok (.bipush 16, 2) := by decide +kernel
theorem dX7_product_106 : decode cX7_product 106 = .ok (.lushr, 1) := by decide +kernel
theorem dX7_product_107 : decode cX7_product 107 = .ok (.ladd, 1) := by decide +kernel
theorem dX7_product_108 : decode cX7_product 108 = .ok (.lstore 14, 2) := by decide +kernel
theorem dX7_product_110 : decode cX7_product 110 = .ok (.aload_n 0, 1) := by decide +kernel
theorem dX7_product_111 : decode cX7_product 111 = .ok (.getfield 7, 3) := by decide +kernel
theorem dX7_product_114 : decode cX7_product 114 = .ok (.sipush 408, 3) := by decide +kernel
theorem dX7_product_117 : decode cX7_product 117 = .ok (.iload 4, 2) := by decide +kernel
theorem dX7_product_119 : decode cX7_product 119 = .ok (.iadd, 1) := by decide +kernel
theorem dX7_product_120 : decode cX7_product 120 = .ok (.iload 9, 2) := by decide +kernel
theorem dX7_product_122 : decode cX7_product 122 = .ok (.iadd, 1) := by decide +kernel
theorem dX7_product_123 : decode cX7_product 123 = .ok (.lload 14, 2) := by decide +kernel
theorem dX7_product_125 : decode cX7_product 125 = .ok (.ldc2_w 70, 3) := by decide +kernel
theorem dX7_product_128 : decode cX7_product 128 = .ok (.land, 1) := by decide +kernel
theorem dX7_product_129 : decode cX7_product 129 = .ok (.bipush 16, 2) := by decide +kernel
theorem dX7_product_131 : decode cX7_product 131 = .ok (.lshl, 1) := by decide +kernel
theorem dX7_product_132 : decode cX7_product 132 = .ok (.lload 12, 2) := by decide +kernel
theorem dX7_product_134 : decode cX7_product 134 = .ok (.ldc2_w 70, 3) := by decide +kernel
theorem dX7_product_137 : decode cX7_product 137 = .ok (.land, 1) := by decide +kernel
theorem dX7_product_138 : decode cX7_product 138 = .ok (.lor, 1) := by decide +kernel
theorem dX7_product_139 : decode cX7_product 139 = .ok (.lastore, 1) := by decide +kernel
theorem dX7_product_140 : decode cX7_product 140 = .ok (.lload 14, 2) := by decide +kernel
theorem dX7_product_142 : decode cX7_product 142 = .ok (.bipush 16, 2) := by decide +kernel
theorem dX7_product_144 : decode cX7_product 144 = .ok (.lushr, 1) := by decide +kernel
theorem dX7_product_145 : decode cX7_product 145 = .ok (.lload 7, 2) := by decide +kernel
theorem dX7_product_147 : decode cX7_product 147 = .ok (.bipush 32, 2) := by decide +kernel
theorem dX7_product_149 : decode cX7_product 149 = .ok (.lushr, 1) := by decide +kernel
theorem dX7_product_150 : decode cX7_product 150 = .ok (.ladd, 1) := by decide +kernel
theorem dX7_product_151 : decode cX7_product 151 = .ok (.lstore 7, 2) := by decide +kernel
theorem dX7_product_153 : decode cX7_product 153 = .ok (.iinc 9 1, 3) := by decide +kernel
theorem dX7_product_156 : decode cX7_product 156 = .ok (.goto (-119), 3) := by decide +kernel
theorem dX7_product_159 : decode cX7_product 159 = .ok (.iinc 4 1, 3) := by decide +kernel
theorem dX7_product_162 : decode cX7_product 162 = .ok (.goto (-152), 3) := by decide +kernel
theorem dX7_product_165 : decode cX7_product 165 = .ok (.aload_n 0, 1) := by decide +kernel
theorem dX7_product_166 : decode cX7_product 166 = .ok (.iload_n 1, 1) := by decide +kernel
theorem dX7_product_167 : decode cX7_product 167 = .ok (.bipush 34, 2) := by decide +kernel
theorem dX7_product_169 : decode cX7_product 169 = .ok (.invokevirtual 72, 3) := by decide +kernel
theorem dX7_product_172 : decode cX7_product 172 = .ok (.return_, 1) := by decide +kernel
theorem dX7_divides_0 : decode cX7_divides 0 = .ok (.aload_n 0, 1) := by decide +kernel
theorem dX7_divides_1 : decode cX7_divides 1 = .ok (.bipush 32, 2) := by decide +kernel
theorem dX7_divides_3 : decode cX7_divides 3 = .ok (.lconst 0, 1) := by decide +kernel
theorem dX7_divides_4 : decode cX7_divides 4 = .ok (.invokevirtual 62, 3) := by decide +kernel
theorem dX7_divides_7 : decode cX7_divides 7 = .ok (.aload_n 0, 1) := by decide +kernel
theorem dX7_divides_8 : decode cX7_divides 8 = .ok (.bipush 33, 2) := by decide +kernel
theorem dX7_divides_10 : decode cX7_divides 10 = .ok (.lconst 0, 1) := by decide +kernel
theorem dX7_divides_11 : decode cX7_divides 11 = .ok (.invokevirtual 62, 3) := by decide +kernel
theorem dX7_divides_14 : decode cX7_divides 14 = .ok (.sipush 383, 3) := by decide +kernel
theorem dX7_divides_17 : decode cX7_divides 17 = .ok (.istore_n 3, 1) := by decide +kernel
theorem dX7_divides_18 : decode cX7_divides 18 = .ok (.iload_n 3, 1) := by decide +kernel
theorem dX7_divides_19 : decode cX7_divides 19 = .ok (.ifCond .lt 92, 3) := by decide +kernel
theorem dX7_divides_22 : decode cX7_divides 22 = .ok (.aload_n 0, 1) := by decide +kernel
theorem dX7_divides_23 : decode cX7_divides 23 = .ok (.bipush 33, 2) := by decide +kernel
theorem dX7_divides_25 : decode cX7_divides 25 = .ok (.bipush 33, 2) := by decide +kernel
theorem dX7_divides_27 : decode cX7_divides 27 = .ok (.bipush 33, 2) := by decide +kernel
theorem dX7_divides_29 : decode cX7_divides 29 = .ok (.invokevirtual 66, 3) := by decide +kernel
theorem dX7_divides_32 : decode cX7_divides 32 = .ok (.aload_n 0, 1) := by decide +kernel
theorem dX7_divides_33 : decode cX7_divides 33 = .ok (.getfield 7, 3) := by decide +kernel
theorem dX7_divides_36 : decode cX7_divides 36 = .ok (.sipush 396, 3) := by decide +kernel
theorem dX7_divides_39 : decode cX7_divides 39 = .ok (.dup2, 1) := by decide +kernel
theorem dX7_divides_40 : decode cX7_divides 40 = .ok (.laload, 1) := by decide +kernel
theorem dX7_divides_41 : decode cX7_divides 41 = .ok (.aload_n 0, 1) := by decide +kernel
theorem dX7_divides_42 : decode cX7_divides 42 = .ok (.getfield 7, 3) := by decide +kernel
theorem dX7_divides_45 : decode cX7_divides 45 = .ok (.bipush 12, 2) := by decide +kernel
theorem dX7_divides_47 : decode cX7_divides 47 = .ok (.iload_n 1, 1) := by decide +kernel
theorem dX7_divides_48 : decode cX7_divides 48 = .ok (.imul, 1) := by decide +kernel
theorem dX7_divides_49 : decode cX7_divides 49 = .ok (.iload_n 3, 1) := by decide +kernel
theorem dX7_divides_50 : decode cX7_divides 50 = .ok (.bipush 32, 2) := by decide +kernel
theorem dX7_divides_52 : decode cX7_divides 52 = .ok (.idiv, 1) := by decide +kernel
theorem dX7_divides_53 : decode cX7_divides 53 = .ok (.iadd, 1) := by decide +kernel
theorem dX7_divides_54 : decode cX7_divides 54 = .ok (.laload, 1) := by decide +kernel
theorem dX7_divides_55 : decode cX7_divides 55 = .ok (.iload_n 3, 1) := by decide +kernel
theorem dX7_divides_56 : decode cX7_divides 56 = .ok (.bipush 32, 2) := by decide +kernel
theorem dX7_divides_58 : decode cX7_divides 58 = .ok (.irem, 1) := by decide +kernel
theorem dX7_divides_59 : decode cX7_divides 59 = .ok (.lshr, 1) := by decide +kernel
theorem dX7_divides_60 : decode cX7_divides 60 = .ok (.lconst 1, 1) := by decide +kernel
theorem dX7_divides_61 : decode cX7_divides 61 = .ok (.land, 1) := by decide +kernel
theorem dX7_divides_62 : decode cX7_divides 62 = .ok (.lor, 1) := by decide +kernel
theorem dX7_divides_63 : decode cX7_divides 63 = .ok (.lastore, 1) := by decide +kernel
theorem dX7_divides_64 : decode cX7_divides 64 = .ok (.aload_n 0, 1) := by decide +kernel
theorem dX7_divides_65 : decode cX7_divides 65 = .ok (.bipush 33, 2) := by decide +kernel
theorem dX7_divides_67 : decode cX7_divides 67 = .ok (.iload_n 2, 1) := by decide +kernel
theorem dX7_divides_68 : decode cX7_divides 68 = .ok (.invokevirtual 76, 3) := by decide +kernel
theorem dX7_divides_71 : decode cX7_divides 71 = .ok (.ifCond .lt 34, 3) := by decide +kernel
theorem dX7_divides_74 : decode cX7_divides 74 = .ok (.aload_n 0, 1) := by decide +kernel
theorem dX7_divides_75 : decode cX7_divides 75 = .ok (.bipush 33, 2) := by decide +kernel
theorem dX7_divides_77 : decode cX7_divides 77 = .ok (.bipush 33, 2) := by decide +kernel
theorem dX7_divides_79 : decode cX7_divides 79 = .ok (.iload_n 2, 1) := by decide +kernel
theorem dX7_divides_80 : decode cX7_divides 80 = .ok (.invokevirtual 80, 3) := by decide +kernel
theorem dX7_divides_83 : decode cX7_divides 83 = .ok (.aload_n 0, 1) := by decide +kernel
theorem dX7_divides_84 : decode cX7_divides 84 = .ok (.getfield 7, 3) := by decide +kernel
theorem dX7_divides_87 : decode cX7_divides 87 = .ok (.sipush 384, 3) := by decide +kernel
theorem dX7_divides_90 : decode cX7_divides 90 = .ok (.iload_n 3, 1) := by decide +kernel
theorem dX7_divides_91 : decode cX7_divides 91 = .ok (.bipush 32, 2) := by decide +kernel
theorem dX7_divides_93 : decode cX7_divides 93 = .ok (.idiv, 1) := by decide +kernel
theorem dX7_divides_94 : decode cX7_divides 94 = .ok (.iadd, 1) := by decide +kernel
theorem dX7_divides_95 : decode cX7_divides 95 = .ok (.dup2, 1) := by decide +kernel
theorem dX7_divides_96 : decode cX7_divides 96 = .ok (.laload, 1) := by decide +kernel
theorem dX7_divides_97 : decode cX7_divides 97 = .ok (.lconst 1, 1) := by decide +kernel
theorem dX7_divides_98 : decode cX7_divides 98 = .ok (.iload_n 3, 1) := by decide +kernel
theorem dX7_divides_99 : decode cX7_divides 99 = .ok (.bipush 32, 2) := by decide +kernel
theorem dX7_divides_101 : decode cX7_divides 101 = .ok (.irem, 1) := by decide +kernel
theorem dX7_divides_102 : decode cX7_divides 102 = .ok (.lshl, 1) := by decide +kernel
theorem dX7_divides_103 : decode cX7_divides 103 = .ok (.lor, 1) := by decide +kernel
theorem dX7_divides_104 : decode cX7_divides 104 = .ok (.lastore, 1) := by decide +kernel
theorem dX7_divides_105 : decode cX7_divides 105 = .ok (.iinc 3 (-1), 3) := by decide +kernel
theorem dX7_divides_108 : decode cX7_divides 108 = .ok (.goto (-90), 3) := by decide +kernel
theorem dX7_divides_111 : decode cX7_divides 111 = .ok (.return_, 1) := by decide +kernel
theorem dX7_isSum_0 : decode cX7_isSum 0 = .ok (.aload_n 0, 1) := by decide +kernel
theorem dX7_isSum_1 : decode cX7_isSum 1 = .ok (.getfield 7, 3) := by decide +kernel
theorem dX7_isSum_4 : decode cX7_isSum 4 = .ok (.bipush 12, 2) := by decide +kernel
theorem dX7_isSum_6 : decode cX7_isSum 6 = .ok (.iload_n 1, 1) := by decide +kernel
theorem dX7_isSum_7 : decode cX7_isSum 7 = .ok (.imul, 1) := by decide +kernel
theorem dX7_isSum_8 : decode cX7_isSum 8 = .ok (.bipush 8, 2) := by decide +kernel
theorem dX7_isSum_10 : decode cX7_isSum 10 = .ok (.iadd, 1) := by decide +kernel
theorem dX7_isSum_11 : decode cX7_isSum 11 = .ok (.laload, 1) := by decide +kernel
theorem dX7_isSum_12 : decode cX7_isSum 12 = .ok (.lconst 0, 1) := by decide +kernel
theorem dX7_isSum_13 : decode cX7_isSum 13 = .ok (.lcmp, 1) := by decide +kernel
theorem dX7_isSum_14 : decode cX7_isSum 14 = .ok (.ifCond .ne 58, 3) := by decide +kernel
theorem dX7_isSum_17 : decode cX7_isSum 17 = .ok (.aload_n 0, 1) := by decide +kernel
theorem dX7_isSum_18 : decode cX7_isSum 18 = .ok (.getfield 7, 3) := by decide +kernel
theorem dX7_isSum_21 : decode cX7_isSum 21 = .ok (.bipush 12, 2) := by decide +kernel
theorem dX7_isSum_23 : decode cX7_isSum 23 = .ok (.iload_n 1, 1) := by decide +kernel
theorem dX7_isSum_24 : decode cX7_isSum 24 = .ok (.imul, 1) := by decide +kernel
theorem dX7_isSum_25 : decode cX7_isSum 25 = .ok (.bipush 9, 2) := by decide +kernel
theorem dX7_isSum_27 : decode cX7_isSum 27 = .ok (.iadd, 1) := by decide +kernel
theorem dX7_isSum_28 : decode cX7_isSum 28 = .ok (.laload, 1) := by decide +kernel
theorem dX7_isSum_29 : decode cX7_isSum 29 = .ok (.lconst 0, 1) := by decide +kernel
theorem dX7_isSum_30 : decode cX7_isSum 30 = .ok (.lcmp, 1) := by decide +kernel
theorem dX7_isSum_31 : decode cX7_isSum 31 = .ok (.ifCond .ne 41, 3) := by decide +kernel
theorem dX7_isSum_34 : decode cX7_isSum 34 = .ok (.aload_n 0, 1) := by decide +kernel
theorem dX7_isSum_35 : decode cX7_isSum 35 = .ok (.getfield 7, 3) := by decide +kernel
theorem dX7_isSum_38 : decode cX7_isSum 38 = .ok (.bipush 12, 2) := by decide +kernel
theorem dX7_isSum_40 : decode cX7_isSum 40 = .ok (.iload_n 1, 1) := by decide +kernel
theorem dX7_isSum_41 : decode cX7_isSum 41 = .ok (.imul, 1) := by decide +kernel
theorem dX7_isSum_42 : decode cX7_isSum 42 = .ok (.bipush 10, 2) := by decide +kernel
theorem dX7_isSum_44 : decode cX7_isSum 44 = .ok (.iadd, 1) := by decide +kernel
theorem dX7_isSum_45 : decode cX7_isSum 45 = .ok (.laload, 1) := by decide +kernel
theorem dX7_isSum_46 : decode cX7_isSum 46 = .ok (.lconst 0, 1) := by decide +kernel
theorem dX7_isSum_47 : decode cX7_isSum 47 = .ok (.lcmp, 1) := by decide +kernel
theorem dX7_isSum_48 : decode cX7_isSum 48 = .ok (.ifCond .ne 24, 3) := by decide +kernel
theorem dX7_isSum_51 : decode cX7_isSum 51 = .ok (.aload_n 0, 1) := by decide +kernel
theorem dX7_isSum_52 : decode cX7_isSum 52 = .ok (.getfield 7, 3) := by decide +kernel
theorem dX7_isSum_55 : decode cX7_isSum 55 = .ok (.bipush 12, 2) := by decide +kernel
theorem dX7_isSum_57 : decode cX7_isSum 57 = .ok (.iload_n 1, 1) := by decide +kernel
theorem dX7_isSum_58 : decode cX7_isSum 58 = .ok (.imul, 1) := by decide +kernel
theorem dX7_isSum_59 : decode cX7_isSum 59 = .ok (.bipush 11, 2) := by decide +kernel
theorem dX7_isSum_61 : decode cX7_isSum 61 = .ok (.iadd, 1) := by decide +kernel
theorem dX7_isSum_62 : decode cX7_isSum 62 = .ok (.laload, 1) := by decide +kernel
theorem dX7_isSum_63 : decode cX7_isSum 63 = .ok (.lconst 0, 1) := by decide +kernel
theorem dX7_isSum_64 : decode cX7_isSum 64 = .ok (.lcmp, 1) := by decide +kernel
theorem dX7_isSum_65 : decode cX7_isSum 65 = .ok (.ifCond .ne 7, 3) := by decide +kernel
theorem dX7_isSum_68 : decode cX7_isSum 68 = .ok (.iconst 1, 1) := by decide +kernel
theorem dX7_isSum_69 : decode cX7_isSum 69 = .ok (.goto 4, 3) := by decide +kernel
theorem dX7_isSum_72 : decode cX7_isSum 72 = .ok (.iconst 0, 1) := by decide +kernel
theorem dX7_isSum_73 : decode cX7_isSum 73 = .ok (.ireturn, 1) := by decide +kernel
theorem dX7_isSide_0 : decode cX7_isSide 0 = .ok (.aload_n 0, 1) := by decide +kernel
theorem dX7_isSide_1 : decode cX7_isSide 1 = .ok (.getfield 7, 3) := by decide +kernel
theorem dX7_isSide_4 : decode cX7_isSide 4 = .ok (.bipush 12, 2) := by decide +kernel
theorem dX7_isSide_6 : decode cX7_isSide 6 = .ok (.iload_n 1, 1) := by decide +kernel
theorem dX7_isSide_7 : decode cX7_isSide 7 = .ok (.imul, 1) := by decide +kernel
theorem dX7_isSide_8 : decode cX7_isSide 8 = .ok (.iconst 3, 1) := by decide +kernel
theorem dX7_isSide_9 : decode cX7_isSide 9 = .ok (.iadd, 1) := by decide +kernel
theorem dX7_isSide_10 : decode cX7_isSide 10 = .ok (.laload, 1) := by decide +kernel
theorem dX7_isSide_11 : decode cX7_isSide 11 = .ok (.ldc2_w 83, 3) := by decide +kernel
theorem dX7_isSide_14 : decode cX7_isSide 14 = .ok (.lcmp, 1) := by decide +kernel
theorem dX7_isSide_15 : decode cX7_isSide 15 = .ok (.ifCond .ge 7, 3) := by decide +kernel
theorem dX7_isSide_18 : decode cX7_isSide 18 = .ok (.iconst 1, 1) := by decide +kernel
theorem dX7_isSide_19 : decode cX7_isSide 19 = .ok (.goto 4, 3) := by decide +kernel
theorem dX7_isSide_22 : decode cX7_isSide 22 = .ok (.iconst 0, 1) := by decide +kernel
theorem dX7_isSide_23 : decode cX7_isSide 23 = .ok (.istore_n 2, 1) := by decide +kernel
theorem dX7_isSide_24 : decode cX7_isSide 24 = .ok (.iconst 4, 1) := by decide +kernel
theorem dX7_isSide_25 : decode cX7_isSide 25 = .ok (.istore_n 3, 1) := by decide +kernel
theorem dX7_isSide_26 : decode cX7_isSide 26 = .ok (.iload_n 3, 1) := by decide +kernel
theorem dX7_isSide_27 : decode cX7_isSide 27 = .ok (.bipush 12, 2) := by decide +kernel
theorem dX7_isSide_29 : decode cX7_isSide 29 = .ok (.if_icmp .ge 35, 3) := by decide +kernel
theorem dX7_isSide_32 : decode cX7_isSide 32 = .ok (.iload_n 2, 1) := by decide +kernel
theorem dX7_isSide_33 : decode cX7_isSide 33 = .ok (.ifCond .eq 23, 3) := by decide +kernel
theorem dX7_isSide_36 : decode cX7_isSide 36 = .ok (.aload_n 0, 1) := by decide +kernel
theorem dX7_isSide_37 : decode cX7_isSide 37 = .ok (.getfield 7, 3) := by decide +kernel
theorem dX7_isSide_40 : decode cX7_isSide 40 = .ok (.bipush 12, 2) := by decide +kernel
theorem dX7_isSide_42 : decode cX7_isSide 42 = .ok (.iload_n 1, 1) := by decide +kernel
theorem dX7_isSide_43 : decode cX7_isSide 43 = .ok (.imul, 1) := by decide +kernel
theorem dX7_isSide_44 : decode cX7_isSide 44 = .ok (.iload_n 3, 1) := by decide +kernel
theorem dX7_isSide_45 : decode cX7_isSide 45 = .ok (.iadd, 1) := by decide +kernel
theorem dX7_isSide_46 : decode cX7_isSide 46 = .ok (.laload, 1) := by decide +kernel
theorem dX7_isSide_47 : decode cX7_isSide 47 = .ok (.lconst 0, 1) := by decide +kernel
theorem dX7_isSide_48 : decode cX7_isSide 48 = .ok (.lcmp, 1) := by decide +kernel
theorem dX7_isSide_49 : decode cX7_isSide 49 = .ok (.ifCond .ne 7, 3) := by decide +kernel
theorem dX7_isSide_52 : decode cX7_isSide 52 = .ok (.iconst 1, 1) := by decide +kernel
theorem dX7_isSide_53 : decode cX7_isSide 53 = .ok (.goto 4, 3) := by decide +kernel
theorem dX7_isSide_56 : decode cX7_isSide 56 = .ok (.iconst 0, 1) := by decide +kernel
theorem dX7_isSide_57 : decode cX7_isSide 57 = .ok (.istore_n 2, 1) := by decide +kernel
theorem dX7_isSide_58 : decode cX7_isSide 58 = .ok (.iinc 3 1, 3) := by decide +kernel
theorem dX7_isSide_61 : decode cX7_isSide 61 = .ok (.goto (-35), 3) := by decide +kernel
theorem dX7_isSide_64 : decode cX7_isSide 64 = .ok (.iload_n 2, 1) := by decide +kernel
theorem dX7_isSide_65 : decode cX7_isSide 65 = .ok (.ireturn, 1) := by decide +kernel
theorem dX7_put_0 : decode cX7_put 0 = .ok (.iload_n 1, 1) := by decide +kernel
theorem dX7_put_1 : decode cX7_put 1 = .ok (.invokestatic 85, 3) := by decide +kernel
theorem dX7_put_4 : decode cX7_put 4 = .ok (.ifCond .eq 9, 3) := by decide +kernel
theorem dX7_put_7 : decode cX7_put 7 = .ok (.lload_n 2, 1) := by decide +kernel
theorem dX7_put_8 : decode cX7_put 8 = .ok (.lconst 0, 1) := by decide +kernel
theorem dX7_put_9 : decode cX7_put 9 = .ok (.lcmp, 1) := by decide +kernel
theorem dX7_put_10 : decode cX7_put 10 = .ok (.ifCond .ge 5, 3) := by decide +kernel
theorem dX7_put_13 : decode cX7_put 13 = .ok (.iconst (-1), 1) := by decide +kernel
theorem dX7_put_14 : decode cX7_put 14 = .ok (.ireturn, 1) := by decide +kernel
theorem dX7_put_15 : decode cX7_put 15 = .ok (.aload_n 0, 1) := by decide +kernel
theorem dX7_put_16 : decode cX7_put 16 = .ok (.iload_n 1, 1) := by decide +kernel
theorem dX7_put_17 : decode cX7_put 17 = .ok (.lload_n 2, 1) := by decide +kernel
theorem dX7_put_18 : decode cX7_put 18 = .ok (.invokevirtual 62, 3) := by decide +kernel
theorem dX7_put_21 : decode cX7_put 21 = .ok (.iconst 1, 1) := by decide +kernel
theorem dX7_put_22 : decode cX7_put 22 = .ok (.ireturn, 1) := by decide +kernel
theorem dX7_more_0 : decode cX7_more 0 = .ok (.iload_n 1, 1) := by decide +kernel
theorem dX7_more_1 : decode cX7_more 1 = .ok (.invokestatic 85, 3) := by decide +kernel
theorem dX7_more_4 : decode cX7_more 4 = .ok (.ifCond .ne 5, 3) := by decide +kernel
theorem dX7_more_7 : decode cX7_more 7 = .ok (.iconst (-1), 1) := by decide +kernel
theorem dX7_more_8 : decode cX7_more 8 = .ok (.ireturn, 1) := by decide +kernel
theorem dX7_more_9 : decode cX7_more 9 = .ok (.aload_n 0, 1) := by decide +kernel
theorem dX7_more_10 : decode cX7_more 10 = .ok (.getfield 7, 3) := by decide +kernel
theorem dX7_more_13 : decode cX7_more 13 = .ok (.bipush 12, 2) := by decide +kernel
theorem dX7_more_15 : decode cX7_more 15 = .ok (.iload_n 1, 1) := by decide +kernel
theorem dX7_more_16 : decode cX7_more 16 = .ok (.imul, 1) := by decide +kernel
theorem dX7_more_17 : decode cX7_more 17 = .ok (.bipush 7, 2) := by decide +kernel
theorem dX7_more_19 : decode cX7_more 19 = .ok (.iadd, 1) := by decide +kernel
theorem dX7_more_20 : decode cX7_more 20 = .ok (.laload, 1) := by decide +kernel
theorem dX7_more_21 : decode cX7_more 21 = .ok (.lconst 0, 1) := by decide +kernel
theorem dX7_more_22 : decode cX7_more 22 = .ok (.lcmp, 1) := by decide +kernel
theorem dX7_more_23 : decode cX7_more 23 = .ok (.ifCond .eq 6, 3) := by decide +kernel
theorem dX7_more_26 : decode cX7_more 26 = .ok (.bipush (-2), 2) := by decide +kernel
theorem dX7_more_28 : decode cX7_more 28 = .ok (.ireturn, 1) := by decide +kernel
theorem dX7_more_29 : decode cX7_more 29 = .ok (.bipush 7, 2) := by decide +kernel
theorem dX7_more_31 : decode cX7_more 31 = .ok (.istore_n 3, 1) := by decide +kernel
theorem dX7_more_32 : decode cX7_more 32 = .ok (.iload_n 3, 1) := by decide +kernel
theorem dX7_more_33 : decode cX7_more 33 = .ok (.ifCond .le 33, 3) := by decide +kernel
theorem dX7_more_36 : decode cX7_more 36 = .ok (.aload_n 0, 1) := by decide +kernel
theorem dX7_more_37 : decode cX7_more 37 = .ok (.getfield 7, 3) := by decide +kernel
theorem dX7_more_40 : decode cX7_more 40 = .ok (.bipush 12, 2) := by decide +kernel
theorem dX7_more_42 : decode cX7_more 42 = .ok (.iload_n 1, 1) := by decide +kernel
theorem dX7_more_43 : decode cX7_more 43 = .ok (.imul, 1) := by decide +kernel
theorem dX7_more_44 : decode cX7_more 44 = .ok (.iload_n 3, 1) := by decide +kernel
theorem dX7_more_45 : decode cX7_more 45 = .ok (.iadd, 1) := by decide +kernel
theorem dX7_more_46 : decode cX7_more 46 = .ok (.aload_n 0, 1) := by decide +kernel
theorem dX7_more_47 : decode cX7_more 47 = .ok (.getfield 7, 3) := by decide +kernel
theorem dX7_more_50 : decode cX7_more 50 = .ok (.bipush 12, 2) := by decide +kernel
theorem dX7_more_52 : decode cX7_more 52 = .ok (.iload_n 1, 1) := by decide +kernel
theorem dX7_more_53 : decode cX7_more 53 = .ok (.imul, 1) := by decide +kernel
theorem dX7_more_54 : decode cX7_more 54 = .ok (.iload_n 3, 1) := by decide +kernel
theorem dX7_more_55 : decode cX7_more 55 = .ok (.iadd, 1) := by decide +kernel
theorem dX7_more_56 : decode cX7_more 56 = .ok (.iconst 1, 1) := by decide +kernel
theorem dX7_more_57 : decode cX7_more 57 = .ok (.isub, 1) := by decide +kernel
theorem dX7_more_58 : decode cX7_more 58 = .ok (.laload, 1) := by decide +kernel
theorem dX7_more_59 : decode cX7_more 59 = .ok (.lastore, 1) := by decide +kernel
theorem dX7_more_60 : decode cX7_more 60 = .ok (.iinc 3 (-1), 3) := by decide +kernel
theorem dX7_more_63 : decode cX7_more 63 = .ok (.goto (-31), 3) := by decide +kernel
theorem dX7_more_66 : decode cX7_more 66 = .ok (.aload_n 0, 1) := by decide +kernel
theorem dX7_more_67 : decode cX7_more 67 = .ok (.getfield 7, 3) := by decide +kernel
theorem dX7_more_70 : decode cX7_more 70 = .ok (.bipush 12, 2) := by decide +kernel
theorem dX7_more_72 : decode cX7_more 72 = .ok (.iload_n 1, 1) := by decide +kernel
theorem dX7_more_73 : decode cX7_more 73 = .ok (.imul, 1) := by decide +kernel
theorem dX7_more_74 : decode cX7_more 74 = .ok (.iload_n 2, 1) := by decide +kernel
theorem dX7_more_75 : decode cX7_more 75 = .ok (.i2l, 1) := by decide +kernel
theorem dX7_more_76 : decode cX7_more 76 = .ok (.ldc2_w 60, 3) := by decide +kernel
theorem dX7_more_79 : decode cX7_more 79 = .ok (.land, 1) := by decide +kernel
theorem dX7_more_80 : decode cX7_more 80 = .ok (.lastore, 1) := by decide +kernel
theorem dX7_more_81 : decode cX7_more 81 = .ok (.iconst 1, 1) := by decide +kernel
theorem dX7_more_82 : decode cX7_more 82 = .ok (.ireturn, 1) := by decide +kernel
theorem dX7_limb_0 : decode cX7_limb 0 = .ok (.iload_n 1, 1) := by decide +kernel
theorem dX7_limb_1 : decode cX7_limb 1 = .ok (.invokestatic 85, 3) := by decide +kernel
theorem dX7_limb_4 : decode cX7_limb 4 = .ok (.ifCond .eq 29, 3) := by decide +kernel
theorem dX7_limb_7 : decode cX7_limb 7 = .ok (.iload_n 2, 1) := by decide +kernel
theorem dX7_limb_8 : decode cX7_limb 8 = .ok (.i2l, 1) := by decide +kernel
theorem dX7_limb_9 : decode cX7_limb 9 = .ok (.lconst 0, 1) := by decide +kernel
theorem dX7_limb_10 : decode cX7_limb 10 = .ok (.ldc2_w 89, 3) := by decide +kernel
theorem dX7_limb_13 : decode cX7_limb 13 = .ok (.invokestatic 56, 3) := by decide +kernel
theorem dX7_limb_16 : decode cX7_limb 16 = .ok (.ifCond .eq 17, 3) := by decide +kernel
theorem dX7_limb_19 : decode cX7_limb 19 = .ok (.aload_n 0, 1) := by decide +kernel
theorem dX7_limb_20 : decode cX7_limb 20 = .ok (.getfield 7, 3) := by decide +kernel
theorem dX7_limb_23 : decode cX7_limb 23 = .ok (.bipush 12, 2) := by decide +kernel
theorem dX7_limb_25 : decode cX7_limb 25 = .ok (.iload_n 1, 1) := by decide +kernel
theorem dX7_limb_26 : decode cX7_limb 26 = .ok (.imul, 1) := by decide +kernel
theorem dX7_limb_27 : decode cX7_limb 27 = .ok (.iload_n 2, 1) := by decide +kernel
theorem dX7_limb_28 : decode cX7_limb 28 = .ok (.iadd, 1) := by decide +kernel
theorem dX7_limb_29 : decode cX7_limb 29 = .ok (.laload, 1) := by decide +kernel
theorem dX7_limb_30 : decode cX7_limb 30 = .ok (.goto 6, 3) := by decide +kernel
theorem dX7_limb_33 : decode cX7_limb 33 = .ok (.ldc2_w 91, 3) := by decide +kernel
theorem dX7_limb_36 : decode cX7_limb 36 = .ok (.lreturn, 1) := by decide +kernel
theorem dX7_keep_0 : decode cX7_keep 0 = .ok (.aload_n 0, 1) := by decide +kernel
theorem dX7_keep_1 : decode cX7_keep 1 = .ok (.iload_n 2, 1) := by decide +kernel
theorem dX7_keep_2 : decode cX7_keep 2 = .ok (.invokevirtual 93, 3) := by decide +kernel
theorem dX7_keep_5 : decode cX7_keep 5 = .ok (.ifCond .ne 6, 3) := by decide +kernel
theorem dX7_keep_8 : decode cX7_keep 8 = .ok (.bipush (-2), 2) := by decide +kernel
theorem dX7_keep_10 : decode cX7_keep 10 = .ok (.ireturn, 1) := by decide +kernel
theorem dX7_keep_11 : decode cX7_keep 11 = .ok (.aload_n 0, 1) := by decide +kernel
theorem dX7_keep_12 : decode cX7_keep 12 = .ok (.iload_n 1, 1) := by decide +kernel
theorem dX7_keep_13 : decode cX7_keep 13 = .ok (.iload_n 2, 1) := by decide +kernel
theorem dX7_keep_14 : decode cX7_keep 14 = .ok (.invokevirtual 72, 3) := by decide +kernel
theorem dX7_keep_17 : decode cX7_keep 17 = .ok (.iconst 1, 1) := by decide +kernel
theorem dX7_keep_18 : decode cX7_keep 18 = .ok (.ireturn, 1) := by decide +kernel
theorem dX7_add_0 : decode cX7_add 0 = .ok (.iload_n 1, 1) := by decide +kernel
theorem dX7_add_1 : decode cX7_add 1 = .ok (.invokestatic 85, 3) := by decide +kernel
theorem dX7_add_4 : decode cX7_add 4 = .ok (.ifCond .eq 17, 3) := by decide +kernel
theorem dX7_add_7 : decode cX7_add 7 = .ok (.iload_n 2, 1) := by decide +kernel
theorem dX7_add_8 : decode cX7_add 8 = .ok (.invokestatic 85, 3) := by decide +kernel
theorem dX7_add_11 : decode cX7_add 11 = .ok (.ifCond .eq 10, 3) := by decide +kernel
theorem dX7_add_14 : decode cX7_add 14 = .ok (.iload_n 3, 1) := by decide +kernel
theorem dX7_add_15 : decode cX7_add 15 = .ok (.invokestatic 85, 3) := by decide +kernel
theorem dX7_add_18 : decode cX7_add 18 = .ok (.ifCond .ne 5, 3) := by decide +kernel
theorem dX7_add_21 : decode cX7_add 21 = .ok (.iconst (-1), 1) := by decide +kernel
theorem dX7_add_22 : decode cX7_add 22 = .ok (.ireturn, 1) := by decide +kernel
theorem dX7_add_23 : decode cX7_add 23 = .ok (.aload_n 0, 1) := by decide +kernel
theorem dX7_add_24 : decode cX7_add 24 = .ok (.bipush 28, 2) := by decide +kernel
theorem dX7_add_26 : decode cX7_add 26 = .ok (.iload_n 2, 1) := by decide +kernel
theorem dX7_add_27 : decode cX7_add 27 = .ok (.iload_n 3, 1) := by decide +kernel
theorem dX7_add_28 : decode cX7_add 28 = .ok (.invokevirtual 66, 3) := by decide +kernel
theorem dX7_add_31 : decode cX7_add 31 = .ok (.aload_n 0, 1) := by decide +kernel
theorem dX7_add_32 : decode cX7_add 32 = .ok (.iload_n 1, 1) := by decide +kernel
theorem dX7_add_33 : decode cX7_add 33 = .ok (.bipush 28, 2) := by decide +kernel
theorem dX7_add_35 : decode cX7_add 35 = .ok (.invokevirtual 96, 3) := by decide +kernel
theorem dX7_add_38 : decode cX7_add 38 = .ok (.ireturn, 1) := by decide +kernel
theorem dX7_take_0 : decode cX7_take 0 = .ok (.iload_n 1, 1) := by decide +kernel
theorem dX7_take_1 : decode cX7_take 1 = .ok (.invokestatic 85, 3) := by decide +kernel
theorem dX7_take_4 : decode cX7_take 4 = .ok (.ifCond .eq 17, 3) := by decide +kernel
theorem dX7_take_7 : decode cX7_take 7 = .ok (.iload_n 2, 1) := by decide +kernel
theorem dX7_take_8 : decode cX7_take 8 = .ok (.invokestatic 85, 3) := by decide +kernel
theorem dX7_take_11 : decode cX7_take 11 = .ok (.ifCond .eq 10, 3) := by decide +kernel
theorem dX7_take_14 : decode cX7_take 14 = .ok (.iload_n 3, 1) := by decide +kernel
theorem dX7_take_15 : decode cX7_take 15 = .ok (.invokestatic 85, 3) := by decide +kernel
theorem dX7_take_18 : decode cX7_take 18 = .ok (.ifCond .ne 5, 3) := by decide +kernel
theorem dX7_take_21 : decode cX7_take 21 = .ok (.iconst (-1), 1) := by decide +kernel
theorem dX7_take_22 : decode cX7_take 22 = .ok (.ireturn, 1) := by decide +kernel
