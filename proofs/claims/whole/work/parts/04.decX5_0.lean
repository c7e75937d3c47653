theorem dX5_init_0 : decode cX5_init 0 = .ok (.aload_n 0, 1) := by decide +kernel
theorem dX5_init_1 : decode cX5_init 1 = .ok (.invokespecial 1, 3) := by decide +kernel
theorem dX5_init_4 : decode cX5_init 4 = .ok (.aload_n 0, 1) := by decide +kernel
theorem dX5_init_5 : decode cX5_init 5 = .ok (.bipush 24, 2) := by decide +kernel
theorem dX5_init_7 : decode cX5_init 7 = .ok (.newarray .int, 2) := by decide +kernel
theorem dX5_init_9 : decode cX5_init 9 = .ok (.putfield 9, 3) := by decide +kernel
theorem dX5_init_12 : decode cX5_init 12 = .ok (.return_, 1) := by decide +kernel
theorem dX5_clear_0 : decode cX5_clear 0 = .ok (.iconst 0, 1) := by decide +kernel
theorem dX5_clear_1 : decode cX5_clear 1 = .ok (.istore_n 1, 1) := by decide +kernel
theorem dX5_clear_2 : decode cX5_clear 2 = .ok (.iload_n 1, 1) := by decide +kernel
theorem dX5_clear_3 : decode cX5_clear 3 = .ok (.bipush 24, 2) := by decide +kernel
theorem dX5_clear_5 : decode cX5_clear 5 = .ok (.if_icmp .ge 16, 3) := by decide +kernel
theorem dX5_clear_8 : decode cX5_clear 8 = .ok (.aload_n 0, 1) := by decide +kernel
theorem dX5_clear_9 : decode cX5_clear 9 = .ok (.getfield 9, 3) := by decide +kernel
theorem dX5_clear_12 : decode cX5_clear 12 = .ok (.iload_n 1, 1) := by decide +kernel
theorem dX5_clear_13 : decode cX5_clear 13 = .ok (.iconst 0, 1) := by decide +kernel
theorem dX5_clear_14 : decode cX5_clear 14 = .ok (.iastore, 1) := by decide +kernel
theorem dX5_clear_15 : decode cX5_clear 15 = .ok (.iinc 1 1, 3) := by decide +kernel
theorem dX5_clear_18 : decode cX5_clear 18 = .ok (.goto (-16), 3) := by decide +kernel
theorem dX5_clear_21 : decode cX5_clear 21 = .ok (.return_, 1) := by decide +kernel
theorem dX5_copy_0 : decode cX5_copy 0 = .ok (.aload_n 1, 1) := by decide +kernel
theorem dX5_copy_1 : decode cX5_copy 1 = .ok (.getfield 9, 3) := by decide +kernel
theorem dX5_copy_4 : decode cX5_copy 4 = .ok (.iconst 0, 1) := by decide +kernel
theorem dX5_copy_5 : decode cX5_copy 5 = .ok (.aload_n 0, 1) := by decide +kernel
theorem dX5_copy_6 : decode cX5_copy 6 = .ok (.getfield 9, 3) := by decide +kernel
theorem dX5_copy_9 : decode cX5_copy 9 = .ok (.iconst 0, 1) := by decide +kernel
theorem dX5_copy_10 : decode cX5_copy 10 = .ok (.bipush 24, 2) := by decide +kernel
theorem dX5_copy_12 : decode cX5_copy 12 = .ok (.invokestatic 13, 3) := by decide +kernel
theorem dX5_copy_15 : decode cX5_copy 15 = .ok (.return_, 1) := by decide +kernel
theorem dX5_setLong_0 : decode cX5_setLong 0 = .ok (.aload_n 0, 1) := by decide +kernel
theorem dX5_setLong_1 : decode cX5_setLong 1 = .ok (.invokevirtual 19, 3) := by decide +kernel
theorem dX5_setLong_4 : decode cX5_setLong 4 = .ok (.iconst 0, 1) := by decide +kernel
theorem dX5_setLong_5 : decode cX5_setLong 5 = .ok (.istore_n 3, 1) := by decide +kernel
theorem dX5_setLong_6 : decode cX5_setLong 6 = .ok (.iload_n 3, 1) := by decide +kernel
theorem dX5_setLong_7 : decode cX5_setLong 7 = .ok (.iconst 4, 1) := by decide +kernel
theorem dX5_setLong_8 : decode cX5_setLong 8 = .ok (.if_icmp .ge 25, 3) := by decide +kernel
theorem dX5_setLong_11 : decode cX5_setLong 11 = .ok (.aload_n 0, 1) := by decide +kernel
theorem dX5_setLong_12 : decode cX5_setLong 12 = .ok (.getfield 9, 3) := by decide +kernel
theorem dX5_setLong_15 : decode cX5_setLong 15 = .ok (.iload_n 3, 1) := by decide +kernel
theorem dX5_setLong_16 : decode cX5_setLong 16 = .ok (.lload_n 1, 1) := by decide +kernel
theorem dX5_setLong_17 : decode cX5_setLong 17 = .ok (.bipush 16, 2) := by decide +kernel
theorem dX5_setLong_19 : decode cX5_setLong 19 = .ok (.iload_n 3, 1) := by decide +kernel
theorem dX5_setLong_20 : decode cX5_setLong 20 = .ok (.imul, 1) := by decide +kernel
theorem dX5_setLong_21 : decode cX5_setLong 21 = .ok (.lushr, 1) := by decide +kernel
theorem dX5_setLong_22 : decode cX5_setLong 22 = .ok (.l2i, 1) := by decide +kernel
theorem dX5_setLong_23 : decode cX5_setLong 23 = .ok (.ldc 22, 2) := by decide +kernel
theorem dX5_setLong_25 : decode cX5_setLong 25 = .ok (.iand, 1) := by decide +kernel
theorem dX5_setLong_26 : decode cX5_setLong 26 = .ok (.iastore, 1) := by decide +kernel
theorem dX5_setLong_27 : decode cX5_setLong 27 = .ok (.iinc 3 1, 3) := by decide +kernel
theorem dX5_setLong_30 : decode cX5_setLong 30 = .ok (.goto (-24), 3) := by decide +kernel
theorem dX5_setLong_33 : decode cX5_setLong 33 = .ok (.return_, 1) := by decide +kernel
theorem dX5_lowestLong_0 : decode cX5_lowestLong 0 = .ok (.aload_n 0, 1) := by decide +kernel
theorem dX5_lowestLong_1 : decode cX5_lowestLong 1 = .ok (.iconst 1, 1) := by decide +kernel
theorem dX5_lowestLong_2 : decode cX5_lowestLong 2 = .ok (.invokevirtual 23, 3) := by decide +kernel
theorem dX5_lowestLong_5 : decode cX5_lowestLong 5 = .ok (.bipush 32, 2) := by decide +kernel
theorem dX5_lowestLong_7 : decode cX5_lowestLong 7 = .ok (.lshl, 1) := by decide +kernel
theorem dX5_lowestLong_8 : decode cX5_lowestLong 8 = .ok (.aload_n 0, 1) := by decide +kernel
theorem dX5_lowestLong_9 : decode cX5_lowestLong 9 = .ok (.iconst 0, 1) := by decide +kernel
theorem dX5_lowestLong_10 : decode cX5_lowestLong 10 = .ok (.invokevirtual 23, 3) := by decide +kernel
theorem dX5_lowestLong_13 : decode cX5_lowestLong 13 = .ok (.lor, 1) := by decide +kernel
theorem dX5_lowestLong_14 : decode cX5_lowestLong 14 = .ok (.lreturn, 1) := by decide +kernel
theorem dX5_bits32_0 : decode cX5_bits32 0 = .ok (.aload_n 0, 1) := by decide +kernel
theorem dX5_bits32_1 : decode cX5_bits32 1 = .ok (.iconst 2, 1) := by decide +kernel
theorem dX5_bits32_2 : decode cX5_bits32 2 = .ok (.iload_n 1, 1) := by decide +kernel
theorem dX5_bits32_3 : decode cX5_bits32 3 = .ok (.imul, 1) := by decide +kernel
theorem dX5_bits32_4 : decode cX5_bits32 4 = .ok (.iconst 1, 1) := by decide +kernel
theorem dX5_bits32_5 : decode cX5_bits32 5 = .ok (.iadd, 1) := by decide +kernel
theorem dX5_bits32_6 : decode cX5_bits32 6 = .ok (.invokevirtual 27, 3) := by decide +kernel
theorem dX5_bits32_9 : decode cX5_bits32 9 = .ok (.i2l, 1) := by decide +kernel
theorem dX5_bits32_10 : decode cX5_bits32 10 = .ok (.bipush 16, 2) := by decide +kernel
theorem dX5_bits32_12 : decode cX5_bits32 12 = .ok (.lshl, 1) := by decide +kernel
theorem dX5_bits32_13 : decode cX5_bits32 13 = .ok (.aload_n 0, 1) := by decide +kernel
theorem dX5_bits32_14 : decode cX5_bits32 14 = .ok (.iconst 2, 1) := by decide +kernel
theorem dX5_bits32_15 : decode cX5_bits32 15 = .ok (.iload_n 1, 1) := by decide +kernel
theorem dX5_bits32_16 : decode cX5_bits32 16 = .ok (.imul, 1) := by decide +kernel
theorem dX5_bits32_17 : decode cX5_bits32 17 = .ok (.invokevirtual 27, 3) := by decide +kernel
theorem dX5_bits32_20 : decode cX5_bits32 20 = .ok (.i2l, 1) := by decide +kernel
theorem dX5_bits32_21 : decode cX5_bits32 21 = .ok (.lor, 1) := by decide +kernel
theorem dX5_bits32_22 : decode cX5_bits32 22 = .ok (.lreturn, 1) := by decide +kernel
theorem dX5_limbAt_0 : decode cX5_limbAt 0 = .ok (.iload_n 1, 1) := by decide +kernel
theorem dX5_limbAt_1 : decode cX5_limbAt 1 = .ok (.ifCond .lt 18, 3) := by decide +kernel
theorem dX5_limbAt_4 : decode cX5_limbAt 4 = .ok (.iload_n 1, 1) := by decide +kernel
theorem dX5_limbAt_5 : decode cX5_limbAt 5 = .ok (.bipush 24, 2) := by decide +kernel
theorem dX5_limbAt_7 : decode cX5_limbAt 7 = .ok (.if_icmp .ge 12, 3) := by decide +kernel
theorem dX5_limbAt_10 : decode cX5_limbAt 10 = .ok (.aload_n 0, 1) := by decide +kernel
theorem dX5_limbAt_11 : decode cX5_limbAt 11 = .ok (.getfield 9, 3) := by decide +kernel
theorem dX5_limbAt_14 : decode cX5_limbAt 14 = .ok (.iload_n 1, 1) := by decide +kernel
theorem dX5_limbAt_15 : decode cX5_limbAt 15 = .ok (.iaload, 1) := by decide +kernel
theorem dX5_limbAt_16 : decode cX5_limbAt 16 = .ok (.goto 4, 3) := by decide +kernel
theorem dX5_limbAt_19 : decode cX5_limbAt 19 = .ok (.iconst 0, 1) := by decide +kernel
theorem dX5_limbAt_20 : decode cX5_limbAt 20 = .ok (.ireturn, 1) := by decide +kernel
theorem dX5_usedLimbs_0 : decode cX5_usedLimbs 0 = .ok (.bipush 24, 2) := by decide +kernel
theorem dX5_usedLimbs_2 : decode cX5_usedLimbs 2 = .ok (.istore_n 1, 1) := by decide +kernel
theorem dX5_usedLimbs_3 : decode cX5_usedLimbs 3 = .ok (.iload_n 1, 1) := by decide +kernel
theorem dX5_usedLimbs_4 : decode cX5_usedLimbs 4 = .ok (.ifCond .le 20, 3) := by decide +kernel
theorem dX5_usedLimbs_7 : decode cX5_usedLimbs 7 = .ok (.aload_n 0, 1) := by decide +kernel
theorem dX5_usedLimbs_8 : decode cX5_usedLimbs 8 = .ok (.getfield 9, 3) := by decide +kernel
theorem dX5_usedLimbs_11 : decode cX5_usedLimbs 11 = .ok (.iload_n 1, 1) := by decide +kernel
theorem dX5_usedLimbs_12 : decode cX5_usedLimbs 12 = .ok (.iconst 1, 1) := by decide +kernel
theorem dX5_usedLimbs_13 : decode cX5_usedLimbs 13 = .ok (.isub, 1) := by decide +kernel
theorem dX5_usedLimbs_14 : decode cX5_usedLimbs 14 = .ok (.iaload, 1) := by decide +kernel
theorem dX5_usedLimbs_15 : decode cX5_usedLimbs 15 = .ok (.ifCond .ne 9, 3) := by decide +kernel
theorem dX5_usedLimbs_18 : decode cX5_usedLimbs 18 = .ok (.iinc 1 (-1), 3) := by decide +kernel
theorem dX5_usedLimbs_21 : decode cX5_usedLimbs 21 = .ok (.goto (-18), 3) := by decide +kernel
theorem dX5_usedLimbs_24 : decode cX5_usedLimbs 24 = .ok (.iload_n 1, 1) := by decide +kernel
theorem dX5_usedLimbs_25 : decode cX5_usedLimbs 25 = .ok (.ireturn, 1) := by decide +kernel
theorem dX5_isZero_0 : decode cX5_isZero 0 = .ok (.aload_n 0, 1) := by decide +kernel
theorem dX5_isZero_1 : decode cX5_isZero 1 = .ok (.invokevirtual 31, 3) := by decide +kernel
theorem dX5_isZero_4 : decode cX5_isZero 4 = .ok (.ifCond .ne 7, 3) := by decide +kernel
theorem dX5_isZero_7 : decode cX5_isZero 7 = .ok (.iconst 1, 1) := by decide +kernel
theorem dX5_isZero_8 : decode cX5_isZero 8 = .ok (.goto 4, 3) := by decide +kernel
theorem dX5_isZero_11 : decode cX5_isZero 11 = .ok (.iconst 0, 1) := by decide +kernel
theorem dX5_isZero_12 : decode cX5_isZero 12 = .ok (.ireturn, 1) := by decide +kernel
theorem dX5_isOdd_0 : decode cX5_isOdd 0 = .ok (.aload_n 0, 1) := by decide +kernel
theorem dX5_isOdd_1 : decode cX5_isOdd 1 = .ok (.getfield 9, 3) := by decide +kernel
theorem dX5_isOdd_4 : decode cX5_isOdd 4 = .ok (.iconst 0, 1) := by decide +kernel
theorem dX5_isOdd_5 : decode cX5_isOdd 5 = .ok (.iaload, 1) := by decide +kernel
theorem dX5_isOdd_6 : decode cX5_isOdd 6 = .ok (.iconst 1, 1) := by decide +kernel
theorem dX5_isOdd_7 : decode cX5_isOdd 7 = .ok (.iand, 1) := by decide +kernel
theorem dX5_isOdd_8 : decode cX5_isOdd 8 = .ok (.iconst 1, 1) := by decide +kernel
theorem dX5_isOdd_9 : decode cX5_isOdd 9 = .ok (.if_icmp .ne 7, 3) := by decide +kernel
theorem dX5_isOdd_12 : decode cX5_isOdd 12 = .ok (.iconst 1, 1) := by decide +kernel
theorem dX5_isOdd_13 : decode cX5_isOdd 13 = .ok (.goto 4, 3) := by decide +kernel
theorem dX5_isOdd_16 : decode cX5_isOdd 16 = .ok (.iconst 0, 1) := by decide +kernel
theorem dX5_isOdd_17 : decode cX5_isOdd 17 = .ok (.ireturn, 1) := by decide +kernel
theorem dX5_isSum_0 : decode cX5_isSum 0 = .ok (.aload_n 0, 1) := by decide +kernel
theorem dX5_isSum_1 : decode cX5_isSum 1 = .ok (.invokevirtual 31, 3) := by decide +kernel
theorem dX5_isSum_4 : decode cX5_isSum 4 = .ok (.bipush 16, 2) := by decide +kernel
theorem dX5_isSum_6 : decode cX5_isSum 6 = .ok (.if_icmp .gt 7, 3) := by decide +kernel
theorem dX5_isSum_9 : decode cX5_isSum 9 = .ok (.iconst 1, 1) := by decide +kernel
theorem dX5_isSum_10 : decode cX5_isSum 10 = .ok (.goto 4, 3) := by decide +kernel
theorem dX5_isSum_13 : decode cX5_isSum 13 = .ok (.iconst 0, 1) := by decide +kernel
theorem dX5_isSum_14 : decode cX5_isSum 14 = .ok (.ireturn, 1) := by decide +kernel
theorem dX5_fitsPool_0 : decode cX5_fitsPool 0 = .ok (.aload_n 0, 1) := by decide +kernel
theorem dX5_fitsPool_1 : decode cX5_fitsPool 1 = .ok (.invokevirtual 31, 3) := by decide +kernel
theorem dX5_fitsPool_4 : decode cX5_fitsPool 4 = .ok (.bipush 7, 2) := by decide +kernel
theorem dX5_fitsPool_6 : decode cX5_fitsPool 6 = .ok (.if_icmp .gt 19, 3) := by decide +kernel
theorem dX5_fitsPool_9 : decode cX5_fitsPool 9 = .ok (.aload_n 0, 1) := by decide +kernel
theorem dX5_fitsPool_10 : decode cX5_fitsPool 10 = .ok (.getfield 9, 3) := by decide +kernel
theorem dX5_fitsPool_13 : decode cX5_fitsPool 13 = .ok (.bipush 6, 2) := by decide +kernel
theorem dX5_fitsPool_15 : decode cX5_fitsPool 15 = .ok (.iaload, 1) := by decide +kernel
theorem dX5_fitsPool_16 : decode cX5_fitsPool 16 = .ok (.bipush 16, 2) := by decide +kernel
theorem dX5_fitsPool_18 : decode cX5_fitsPool 18 = .ok (.if_icmp .ge 7, 3) := by decide +kernel
theorem dX5_fitsPool_21 : decode cX5_fitsPool 21 = .ok (.iconst 1, 1) := by decide +kernel
theorem dX5_fitsPool_22 : decode cX5_fitsPool 22 = .ok (.goto 4, 3) := by decide +kernel
theorem dX5_fitsPool_25 : decode cX5_fitsPool 25 = .ok (.iconst 0, 1) := by decide +kernel
theorem dX5_fitsPool_26 : decode cX5_fitsPool 26 = .ok (.ireturn, 1) := by decide +kernel
theorem dX5_compareWith_0 : decode cX5_compareWith 0 = .ok (.bipush 23, 2) := by decide +kernel
theorem dX5_compareWith_2 : decode cX5_compareWith 2 = .ok (.istore_n 2, 1) := by decide +kernel
theorem dX5_compareWith_3 : decode cX5_compareWith 3 = .ok (.iload_n 2, 1) := by decide +kernel
theorem dX5_compareWith_4 : decode cX5_compareWith 4 = .ok (.ifCond .lt 45, 3) := by decide +kernel
theorem dX5_compareWith_7 : decode cX5_compareWith 7 = .ok (.aload_n 0, 1) := by decide +kernel
theorem dX5_compareWith_8 : decode cX5_compareWith 8 = .ok (.getfield 9, 3) := by decide +kernel
theorem dX5_compareWith_11 : decode cX5_compareWith 11 = .ok (.iload_n 2, 1) := by decide +kernel
theorem dX5_compareWith_12 : decode cX5_compareWith 12 = .ok (.iaload, 1) := by decide +kernel
theorem dX5_compareWith_13 : decode cX5_compareWith 13 = .ok (.aload_n 1, 1) := by decide +kernel
theorem dX5_compareWith_14 : decode cX5_compareWith 14 = .ok (.getfield 9, 3) := by decide +kernel
theorem dX5_compareWith_17 : decode cX5_compareWith 17 = .ok (.iload_n 2, 1) := by decide +kernel
theorem dX5_compareWith_18 : decode cX5_compareWith 18 = .ok (.iaload, 1) := by decide +kernel
theorem dX5_compareWith_19 : decode cX5_compareWith 19 = .ok (.if_icmp .eq 24, 3) := by decide +kernel
theorem dX5_compareWith_22 : decode cX5_compareWith 22 = .ok (.aload_n 0, 1) := by decide +kernel
theorem dX5_compareWith_23 : decode cX5_compareWith 23 = .ok (.getfield 9, 3) := by decide +kernel
theorem dX5_compareWith_26 : decode cX5_compareWith 26 = .ok (.iload_n 2, 1) := by decide +kernel
theorem dX5_compareWith_27 : decode cX5_compareWith 27 = .ok (.iaload, 1) := by decide +kernel
theorem dX5_compareWith_28 : decode cX5_compareWith 28 = .ok (.aload_n 1, 1) := by decide +kernel
theorem dX5_compareWith_29 : decode cX5_compareWith 29 = .ok (.getfield 9, 3) := by decide +kernel
theorem dX5_compareWith_32 : decode cX5_compareWith 32 = .ok (.iload_n 2, 1) := by decide +kernel
theorem dX5_compareWith_33 : decode cX5_compareWith 33 = .ok (.iaload, 1) := by decide +kernel
theorem dX5_compareWith_34 : decode cX5_compareWith 34 = .ok (.if_icmp .ge 7, 3) := by decide +kernel
theorem dX5_compareWith_37 : decode cX5_compareWith 37 = .ok (.iconst (-1), 1) := by decide +kernel
theorem dX5_compareWith_38 : decode cX5_compareWith 38 = .ok (.goto 4, 3) := by decide +kernel
theorem dX5_compareWith_41 : decode cX5_compareWith 41 = .ok (.iconst 1, 1) := by decide +kernel
theorem dX5_compareWith_42 : decode cX5_compareWith 42 = .ok (.ireturn, 1) := by decide +kernel
theorem dX5_compareWith_43 : decode cX5_compareWith 43 = .ok (.iinc 2 (-1), 3) := by decide +kernel
theorem dX5_compareWith_46 : decode cX5_compareWith 46 = .ok (.goto (-43), 3) := by decide +kernel
theorem dX5_compareWith_49 : decode cX5_compareWith 49 = .ok (.iconst 0, 1) := by decide +kernel
theorem dX5_compareWith_50 : decode cX5_compareWith 50 = .ok (.ireturn, 1) := by decide +kernel
theorem dX5_plus_0 : decode cX5_plus 0 = .ok (.iconst 0, 1) := by decide +kernel
theorem dX5_plus_1 : decode cX5_plus 1 = .ok (.istore_n 2, 1) := by decide +kernel
theorem dX5_plus_2 : decode cX5_plus 2 = .ok (.iconst 0, 1) := by decide +kernel
theorem dX5_plus_3 : decode cX5_plus 3 = .ok (.istore_n 3, 1) := by decide +kernel
theorem dX5_plus_4 : decode cX5_plus 4 = .ok (.iload_n 3, 1) := by decide +kernel
theorem dX5_plus_5 : decode cX5_plus 5 = .ok (.bipush 24, 2) := by decide +kernel
theorem dX5_plus_7 : decode cX5_plus 7 = .ok (.if_icmp .ge 43, 3) := by decide +kernel
theorem dX5_plus_10 : decode cX5_plus 10 = .ok (.aload_n 0, 1) := by decide +kernel
theorem dX5_plus_11 : decode cX5_plus 11 = .ok (.getfield 9, 3) := by decide +kernel
theorem dX5_plus_14 : decode cX5_plus 14 = .ok (.iload_n 3, 1) := by decide +kernel
theorem dX5_plus_15 : decode cX5_plus 15 = .ok (.iaload, 1) := by decide +kernel
theorem dX5_plus_16 : decode cX5_plus 16 = .ok (.aload_n 1, 1) := by decide +kernel
theorem dX5_plus_17 : decode cX5_plus 17 = .ok (.getfield 9, 3) := by decide +kernel
theorem dX5_plus_20 : decode cX5_plus 20 = .ok (.iload_n 3, 1) := by decide +kernel
theorem dX5_plus_21 : decode cX5_plus 21 = .ok (.iaload, 1) := by decide +kernel
theorem dX5_plus_22 : decode cX5_plus 22 = .ok (.iadd, 1) := by decide +kernel
theorem dX5_plus_23 : decode cX5_plus 23 = .ok (.iload_n 2, 1) := by decide +kernel
theorem dX5_plus_24 : decode cX5_plus 24 = .ok (.iadd, 1) := by decide +kernel
theorem dX5_plus_25 : decode cX5_plus 25 = .ok (.istore 4, 2) := by decide +kernel
theorem dX5_plus_27 : decode cX5_plus 27 = .ok (.aload_n 0, 1) := by decide +kernel
theorem dX5_plus_28 : decode cX5_plus 28 = .ok (.getfield 9, 3) := by decide +kernel
theorem dX5_plus_31 : decode cX5_plus 31 = .ok (.iload_n 3, 1) := by decide +kernel
theorem dX5_plus_32 : decode cX5_plus 32 = .ok (.iload 4, 2) := by decide +kernel
theorem dX5_plus_34 : decode cX5_plus 34 = .ok (.ldc 22, 2) := by decide +kernel
theorem dX5_plus_36 : decode cX5_plus 36 = .ok (.iand, 1) := by decide +kernel
theorem dX5_plus_37 : decode cX5_plus 37 = .ok (.iastore, 1) := by decide +kernel
theorem dX5_plus_38 : decode cX5_plus 38 = .ok (.iload 4, 2) := by decide +kernel
theorem dX5_plus_40 : decode cX5_plus 40 = .ok (.bipush 16, 2) := by decide +kernel
theorem dX5_plus_42 : decode cX5_plus 42 = .ok (.iushr, 1) := by decide +kernel
theorem dX5_plus_43 : decode cX5_plus 43 = .ok (.istore_n 2, 1) := by decide +kernel
theorem dX5_plus_44 : decode cX5_plus 44 = .ok (.iinc 3 1, 3) := by decide +kernel
theorem dX5_plus_47 : decode cX5_plus 47 = .ok (.goto (-43), 3) := by decide +kernel
theorem dX5_plus_50 : decode cX5_plus 50 = .ok (.return_, 1) := by decide +kernel
theorem dX5_minus_0 : decode cX5_minus 0 = .ok (.iconst 0, 1) := by decide +kernel
theorem dX5_minus_1 : decode cX5_minus 1 = .ok (.istore_n 2, 1) := by decide +kernel
theorem dX5_minus_2 : decode cX5_minus 2 = .ok (.iconst 0, 1) := by decide +kernel
theorem dX5_minus_3 : decode cX5_minus 3 = .ok (.istore_n 3, 1) := by decide +kernel
theorem dX5_minus_4 : decode cX5_minus 4 = .ok (.iload_n 3, 1) := by decide +kernel
theorem dX5_minus_5 : decode cX5_minus 5 = .ok (.bipush 24, 2) := by decide +kernel
theorem dX5_minus_7 : decode cX5_minus 7 = .ok (.if_icmp .ge 43, 3) := by decide +kernel
theorem dX5_minus_10 : decode cX5_minus 10 = .ok (.aload_n 0, 1) := by decide +kernel
theorem dX5_minus_11 : decode cX5_minus 11 = .ok (.getfield 9, 3) := by decide +kernel
theorem dX5_minus_14 : decode cX5_minus 14 = .ok (.iload_n 3, 1) := by decide +kernel
theorem dX5_minus_15 : decode cX5_minus 15 = .ok (.iaload, 1) := by decide +kernel
theorem dX5_minus_16 : decode cX5_minus 16 = .ok (.aload_n 1, 1) := by decide +kernel
theorem dX5_minus_17 : decode cX5_minus 17 = .ok (.getfield 9, 3) := by decide +kernel
theorem dX5_minus_20 : decode cX5_minus 20 = .ok (.iload_n 3, 1) := by decide +kernel
theorem dX5_minus_21 : decode cX5_minus 21 = .ok (.iaload, 1) := by decide +kernel
theorem dX5_minus_22 : decode cX5_minus 22 = .ok (.isub, 1) := by decide +kernel
theorem dX5_minus_23 : decode cX5_minus 23 = .ok (.iload_n 2, 1) := by decide +kernel
theorem dX5_minus_24 : decode cX5_minus 24 = .ok (.iadd, 1) := by decide +kernel
theorem dX5_minus_25 : decode cX5_minus 25 = .ok (.istore 4, 2) := by decide +kernel
theorem dX5_minus_27 : decode cX5_minus 27 = .ok (.aload_n 0, 1) := by decide +kernel
theorem dX5_minus_28 : decode cX5_minus 28 = .ok (.getfield 9, 3) := by decide +kernel
theorem dX5_minus_31 : decode cX5_minus 31 = .ok (.iload_n 3, 1) := by decide +kernel
theorem dX5_minus_32 : decode cX5_minus 32 = .ok (.iload 4, 2) := by decide +kernel
theorem dX5_minus_34 : decode cX5_minus 34 = .ok (.ldc 22, 2) := by decide +kernel
theorem dX5_minus_36 : decode cX5_minus 36 = .ok (.iand, 1) := by decide +kernel
theorem dX5_minus_37 : decode cX5_minus 37 = .ok (.iastore, 1) := by decide +kernel
theorem dX5_minus_38 : decode cX5_minus 38 = .ok (.iload 4, 2) := by decide +kernel
theorem dX5_minus_40 : decode cX5_minus 40 = .ok (.bipush 16, 2) := by decide +kernel
theorem dX5_minus_42 : decode cX5_minus 42 = .ok (.ishr, 1) := by decide +kernel
theorem dX5_minus_43 : decode cX5_minus 43 = .ok (.istore_n 2, 1) := by decide +kernel
theorem dX5_minus_44 : decode cX5_minus 44 = .ok (.iinc 3 1, 3) := by decide +kernel
theorem dX5_minus_47 : decode cX5_minus 47 = .ok (.goto (-43), 3) := by decide +kernel
theorem dX5_minus_50 : decode cX5_minus 50 = .ok (.return_, 1) := by decide +kernel
theorem dX5_increment_0 : decode cX5_increment 0 = .ok (.aload_n 0, 1) := by decide +kernel
theorem dX5_increment_1 : decode cX5_increment 1 = .ok (.iconst 1, 1) := by decide +kernel
theorem dX5_increment_2 : decode cX5_increment 2 = .ok (.iconst 1, 1) := by decide +kernel
theorem dX5_increment_3 : decode cX5_increment 3 = .ok (.invokevirtual 35, 3) := by decide +kernel
theorem dX5_increment_6 : decode cX5_increment 6 = .ok (.return_, 1) := by decide +kernel
theorem dX5_scale_0 : decode cX5_scale 0 = .ok (.iload_n 2, 1) := by decide +kernel
theorem dX5_scale_1 : decode cX5_scale 1 = .ok (.i2l, 1) := by decide +kernel
theorem dX5_scale_2 : decode cX5_scale 2 = .ok (.lstore_n 3, 1) := by decide +kernel
theorem dX5_scale_3 : decode cX5_scale 3 = .ok (.iconst 0, 1) := by decide +kernel
theorem dX5_scale_4 : decode cX5_scale 4 = .ok (.istore 5, 2) := by decide +kernel
theorem dX5_scale_6 : decode cX5_scale 6 = .ok (.iload 5, 2) := by decide +kernel
theorem dX5_scale_8 : decode cX5_scale 8 = .ok (.bipush 24, 2) := by decide +kernel
theorem dX5_scale_10 : decode cX5_scale 10 = .ok (.if_icmp .ge 43, 3) := by decide +kernel
theorem dX5_scale_13 : decode cX5_scale 13 = .ok (.aload_n 0, 1) := by decide +kernel
theorem dX5_scale_14 : decode cX5_scale 14 = .ok (.getfield 9, 3) := by decide +kernel
theorem dX5_scale_17 : decode cX5_scale 17 = .ok (.iload 5, 2) := by decide +kernel
theorem dX5_scale_19 : decode cX5_scale 19 = .ok (.iaload, 1) := by decide +kernel
theorem dX5_scale_20 : decode cX5_scale 20 = .ok (.i2l, 1) := by decide +kernel
theorem dX5_scale_21 : decode cX5_scale 21 = .ok (.iload_n 1, 1) := by decide +kernel
theorem dX5_scale_22 : decode cX5_scale 22 = .ok (.i2l, 1) := by decide +kernel
theorem dX5_scale_23 : decode cX5_scale 23 = .ok (.lmul, 1) := by decide +kernel
theorem dX5_scale_24 : decode cX5_scale 24 = .ok (.lload_n 3, 1) := by decide +kernel
theorem dX5_scale_25 : decode cX5_scale 25 = .ok (.ladd, 1) := by decide +kernel
theorem dX5_scale_26 : decode cX5_scale 26 = .ok (.lstore 6, 2) := by decide +kernel
theorem dX5_scale_28 : decode cX5_scale 28 = .ok (.aload_n 0, 1) := by decide +kernel
theorem dX5_scale_29 : decode cX5_scale 29 = .ok (.getfield 9, 3) := by decide +kernel
theorem dX5_scale_32 : decode cX5_scale 32 = .ok (.iload 5, 2) := by decide +kernel
theorem dX5_scale_34 : decode cX5_scale 34 = .ok (.lload 6, 2) := by decide +kernel
theorem dX5_scale_36 : decode cX5_scale 36 = .ok (.l2i, 1) := by decide +kernel
theorem dX5_scale_37 : decode cX5_scale 37 = .ok (.ldc 22, 2) := by decide +kernel
theorem dX5_scale_39 : decode cX5_scale 39 = .ok (.iand, 1) := by decide +kernel
theorem dX5_scale_40 : decode cX5_scale 40 = .ok (.iastore, 1) := by decide +kernel
theorem dX5_scale_41 : decode cX5_scale 41 = .ok (.lload 6, 2) := by decide +kernel
theorem dX5_scale_43 : decode cX5_scale 43 = .ok (.bipush 16, 2) := by decide +kernel
theorem dX5_scale_45 : decode cX5_scale 45 = .ok (.lushr, 1) := by decide +kernel
theorem dX5_scale_46 : decode cX5_scale 46 = .ok (.lstore_n 3, 1) := by decide +kernel
theorem dX5_scale_47 : decode cX5_scale 47 = .ok (.iinc 5 1, 3) := by decide +kernel
theorem dX5_scale_50 : decode cX5_scale 50 = .ok (.goto (-44), 3) := by decide +kernel
theorem dX5_scale_53 : decode cX5_scale 53 = .ok (.return_, 1) := by decide +kernel
theorem dX5_shrink_0 : decode cX5_shrink 0 = .ok (.iload_n 1, 1) := by decide +kernel
theorem dX5_shrink_1 : decode cX5_shrink 1 = .ok (.ifCond .gt 5, 3) := by decide +kernel
theorem dX5_shrink_4 : decode cX5_shrink 4 = .ok (.iconst 0, 1) := by decide +kernel
theorem dX5_shrink_5 : decode cX5_shrink 5 = .ok (.ireturn, 1) := by decide +kernel
theorem dX5_shrink_6 : decode cX5_shrink 6 = .ok (.lconst 0, 1) := by decide +kernel
theorem dX5_shrink_7 : decode cX5_shrink 7 = .ok (.lstore_n 2, 1) := by decide +kernel
theorem dX5_shrink_8 : decode cX5_shrink 8 = .ok (.aload_n 0, 1) := by decide +kernel
theorem dX5_shrink_9 : decode cX5_shrink 9 = .ok (.invokevirtual 31, 3) := by decide +kernel
theorem dX5_shrink_12 : decode cX5_shrink 12 = .ok (.iconst 1, 1) := by decide +kernel
theorem dX5_shrink_13 : decode cX5_shrink 13 = .ok (.isub, 1) := by decide +kernel
theorem dX5_shrink_14 : decode cX5_shrink 14 = .ok (.istore 4, 2) := by decide +kernel
theorem dX5_shrink_16 : decode cX5_shrink 16 = .ok (.iload 4, 2) := by decide +kernel
theorem dX5_shrink_18 : decode cX5_shrink 18 = .ok (.ifCond .lt 40, 3) := by decide +kernel
theorem dX5_shrink_21 : decode cX5_shrink 21 = .ok (.lload_n 2, 1) := by decide +kernel
theorem dX5_shrink_22 : decode cX5_shrink 22 = .ok (.bipush 16, 2) := by decide +kernel
theorem dX5_shrink_24 : decode cX5_shrink 24 = .ok (.lshl, 1) := by decide +kernel
theorem dX5_shrink_25 : decode cX5_shrink 25 = .ok (.aload_n 0, 1) := by decide +kernel
theorem dX5_shrink_26 : decode cX5_shrink 26 = .ok (.getfield 9, 3) := by decide +kernel
theorem dX5_shrink_29 : decode cX5_shrink 29 = .ok (.iload 4, 2) := by decide +kernel
theorem dX5_shrink_31 : decode cX5_shrink 31 = .ok (.iaload, 1) := by decide +kernel
theorem dX5_shrink_32 : decode cX5_shrink 32 = .ok (.i2l, 1) := by decide +kernel
theorem dX5_shrink_33 : decode cX5_shrink 33 = .ok (.lor, 1) := by decide +kernel
theorem dX5_shrink_34 : decode cX5_shrink 34 = .ok (.lstore_n 2, 1) := by decide +kernel
theorem dX5_shrink_35 : decode cX5_shrink 35 = .ok (.aload_n 0, 1) := by decide +kernel
theorem dX5_shrink_36 : decode cX5_shrink 36 = .ok (.getfield 9, 3) := by decide +kernel
theorem dX5_shrink_39 : decode cX5_shrink 39 = .ok (.iload 4, 2) := by decide +kernel
theorem dX5_shrink_41 : decode cX5_shrink 41 = .ok (.lload_n 2, 1) := by decide +kernel
theorem dX5_shrink_42 : decode cX5_shrink 42 = .ok (.iload_n 1, 1) := by decide +kernel
theorem dX5_shrink_43 : decode cX5_shrink 43 = .ok (.i2l, 1) := by decide +kernel
theorem dX5_shrink_44 : decode cX5_shrink 44 = .ok (.ldiv, 1) := by decide +kernel
theorem dX5_shrink_45 : decode cX5_shrink 45 = .ok (.l2i, 1) := by decide +kernel
theorem dX5_shrink_46 : decode cX5_shrink 46 = .ok (.iastore, 1) := by decide +kernel
theorem dX5_shrink_47 : decode cX5_shrink 47 = .ok (.lload_n 2, 1) := by decide +kernel
theorem dX5_shrink_48 : decode cX5_shrink 48 = .ok (.iload_n 1, 1) := by decide +kernel
theorem dX5_shrink_49 : decode cX5_shrink 49 = .ok (.i2l, 1) := by decide +kernel
theorem dX5_shrink_50 : decode cX5_shrink 50 = .ok (.lrem, 1) := by decide +kernel
theorem dX5_shrink_51 : decode cX5_shrink 51 = .ok (.lstore_n 2, 1) := by decide +kernel
theorem dX5_shrink_52 : decode cX5_shrink 52 = .ok (.iinc 4 (-1), 3) := by decide +kernel
theorem dX5_shrink_55 : decode cX5_shrink 55 = .ok (.goto (-39), 3) := by decide +kernel
theorem dX5_shrink_58 : decode cX5_shrink 58 = .ok (.lload_n 2, 1) := by decide +kernel
theorem dX5_shrink_59 : decode cX5_shrink 59 = .ok (.l2i, 1) := by decide +kernel
theorem dX5_shrink_60 : decode cX5_shrink 60 = .ok (.ireturn, 1) := by decide +kernel
theorem dX5_product_0 : decode cX5_product 0 = .ok (.aload_n 0, 1) := by decide +kernel
theorem dX5_product_1 : decode cX5_product 1 = .ok (.invokevirtual 19, 3) := by decide +kernel
theorem dX5_product_4 : decode cX5_product 4 = .ok (.aload_n 1, 1) := by decide +kernel
theorem dX5_product_5 : decode cX5_product 5 = .ok (.invokevirtual 31, 3) := by decide +kernel
theorem dX5_product_8 : decode cX5_product 8 = .ok (.istore_n 3, 1) := by decide +kernel
theorem dX5_product_9 : decode cX5_product 9 = .ok (.aload_n 2, 1) := by decide +kernel
theorem dX5_product_10 : decode cX5_product 10 = .ok (.invokevirtual 31, 3) := by decide +kernel
theorem dX5_product_13 : decode cX5_product 13 = .ok (.istore 4, 2) := by decide +kernel
theorem dX5_product_15 : decode cX5_product 15 = .ok (.iconst 0, 1) := by decide +kernel
theorem dX5_product_16 : decode cX5_product 16 = .ok (.istore 5, 2) := by decide +kernel
theorem dX5_product_18 : decode cX5_product 18 = .ok (.iload 5, 2) := by decide +kernel
theorem dX5_product_20 : decode cX5_product 20 = .ok (.iload_n 3, 1) := by decide +kernel
theorem dX5_product_21 : decode cX5_product 21 = .ok (.if_icmp .ge 94, 3) := by decide +kernel
theorem dX5_product_24 : decode cX5_product 24 = .ok (.lconst 0, 1) := by decide +kernel
theorem dX5_product_25 : decode cX5_product 25 = .ok (.lstore 6, 2) := by decide +kernel
theorem dX5_product_27 : decode cX5_product 27 = .ok (.iconst 0, 1) := by decide +kernel
theorem dX5_product_28 : decode cX5_product 28 = .ok (.istore 8, 2) := by decide +kernel
theorem dX5_product_30 : decode cX5_product 30 = .ok (.iload 8, 2) := by decide +kernel
theorem dX5_product_32 : decode cX5_product 32 = .ok (.iload 4, 2) := by decide +kernel
theorem dX5_product_34 : decode cX5_product 34 = .ok (.if_icmp .gt 75, 3) := by decide +kernel
theorem dX5_product_37 : decode cX5_product 37 = .ok (.iload 5, 2) := by decide +kernel
theorem dX5_product_39 : decode cX5_product 39 = .ok (.iload 8, 2) := by decide +kernel
theorem dX5_product_41 : decode cX5_product 41 = .ok (.iadd, 1) := by decide +kernel
theorem dX5_product_42 : decode cX5_product 42 = .ok (.bipush 24, 2) := by decide +kernel
theorem dX5_product_44 : decode cX5_product 44 = .ok (.if_icmp .ge 65, 3) := by decide +kernel
theorem dX5_product_47 : decode cX5_product 47 = .ok (.aload_n 1, 1) := by decide +kernel
theorem dX5_product_48 : decode cX5_product 48 = .ok (.getfield 9, 3) := by decide +kernel
theorem dX5_product_51 : decode cX5_product 51 = .ok (.iload 5, 2) := by decide +kernel
theorem dX5_product_53 : decode cX5_product 53 = .ok (.iaload, 1) := by decide +kernel
theorem dX5_product_54 : decode cX5_product 54 = .ok (.i2l, 1) := by decide +kernel
theorem dX5_product_55 : decode cX5_product 55 = .ok (.aload_n 2, 1) := by decide +kernel
theorem dX5_product_56 : decode cX5_product 56 = .ok (.iload 8, 2) := by decide +kernel
theorem dX5_product_58 : decode cX5_product 58 = .ok (.invokevirtual 27, 3) := by decide +kernel
theorem dX5_product_61 : decode cX5_product 61 = .ok (.i2l, 1) := by decide +kernel
theorem dX5_product_62 : decode cX5_product 62 = .ok (.lmul, 1) := by decide +kernel
theorem dX5_product_63 : decode cX5_product 63 = .ok (.aload_n 0, 1) := by decide +kernel
theorem dX5_product_64 : decode cX5_product 64 = .ok (.getfield 9, 3) := by decide +kernel
theorem dX5_product_67 : decode cX5_product 67 = .ok (.iload 5, 2) := by decide +kernel
theorem dX5_product_69 : decode cX5_product 69 = .ok (.iload 8, 2) := by decide +kernel
theorem dX5_product_71 : decode cX5_product 71 = .ok (.iadd, 1) := by decide +kernel
theorem dX5_product_72 : decode cX5_product 72 = .ok (.iaload, 1) := by decide +kernel
theorem dX5_product_73 : decode cX5_product 73 = .ok (.i2l, 1) := by decide +kernel
theorem dX5_product_74 : decode cX5_product 74 = .ok (.ladd, 1) := by decide +kernel
theorem dX5_product_75 : decode cX5_product 75 = .ok (.lload 6, 2) := by decide +kernel
theorem dX5_product_77 : decode cX5_product 77 = .ok (.ladd, 1) := by decide +kernel
theorem dX5_product_78 : decode cX5_product 78 = .ok (.lstore 9, 2) := by decide +kernel
theorem dX5_product_80 : decode cX5_product 80 = .ok (.aload_n 0, 1) := by decide +kernel
theorem dX5_product_81 : decode cX5_product 81 = .ok (.getfield 9, 3) := by decide +kernel
theorem dX5_product_84 : decode cX5_product 84 = .ok (.iload 5, 2) := by decide +kernel
theorem dX5_product_86 : decode cX5_product 86 = .ok (.iload 8, 2) := by decide +kernel
theorem dX5_product_88 : decode cX5_product 88 = .ok (.iadd, 1) := by decide +kernel
theorem dX5_product_89 : decode cX5_product 89 = .ok (.lload 9, 2) := by decide +kernel
theorem dX5_product_91 : decode cX5_product 91 = .ok (.l2i, 1) := by decide +kernel
theorem dX5_product_92 : decode cX5_product 92 = .ok (.ldc 22, 2) := by decide +kernel
theorem dX5_product_94 : decode cX5_product 94 = .ok (.iand, 1) := by decide +kernel
theorem dX5_product_95 : decode cX5_product 95 = .ok (.iastore, 1) := by decide +kernel
theorem dX5_product_96 : decode cX5_product 96 = .ok (.lload 9, 2) := by decide +kernel
theorem dX5_product_98 : decode cX5_product 98 = .ok (.bipush 16, 2) := by decide +kernel
theorem dX5_product_100 : decode cX5_product 100 = .ok (.lushr, 1) := by decide +kernel
theorem dX5_product_101 : decode cX5_product 101 = .ok (.lstore 6, 2) := by decide +kernel
theorem dX5_product_103 : decode cX5_product 103 = .ok (.iinc 8 1, 3) := by decide +kernel
theorem dX5_product_106 : decode cX5_product 106 = .ok (.goto (-76), 3) := by decide +kernel
theorem dX5_product_109 : decode cX5_product 109 = .ok (.iinc 5 1, 3) := by decide +kernel
theorem dX5_product_112 : decode cX5_product 112 = .ok (.goto (-94), 3) := by decide +kernel
theorem dX5_product_115 : decode cX5_product 115 = .ok (.return_, 1) := by decide +kernel
