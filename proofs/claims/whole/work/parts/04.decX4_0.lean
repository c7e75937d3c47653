theorem dX4_init_0 : decode cX4_init 0 = .ok (.aload_n 0, 1) := by decide +kernel
theorem dX4_init_1 : decode cX4_init 1 = .ok (.invokespecial 3, 3) := by decide +kernel
theorem dX4_init_4 : decode cX4_init 4 = .ok (.aload_n 0, 1) := by decide +kernel
theorem dX4_init_5 : decode cX4_init 5 = .ok (.bipush 120, 2) := by decide +kernel
theorem dX4_init_7 : decode cX4_init 7 = .ok (.newarray .int, 2) := by decide +kernel
theorem dX4_init_9 : decode cX4_init 9 = .ok (.putfield 11, 3) := by decide +kernel
theorem dX4_init_12 : decode cX4_init 12 = .ok (.aload_n 0, 1) := by decide +kernel
theorem dX4_init_13 : decode cX4_init 13 = .ok (.iconst 0, 1) := by decide +kernel
theorem dX4_init_14 : decode cX4_init 14 = .ok (.putfield 15, 3) := by decide +kernel
theorem dX4_init_17 : decode cX4_init 17 = .ok (.aload_n 0, 1) := by decide +kernel
theorem dX4_init_18 : decode cX4_init 18 = .ok (.iconst 0, 1) := by decide +kernel
theorem dX4_init_19 : decode cX4_init 19 = .ok (.putfield 19, 3) := by decide +kernel
theorem dX4_init_22 : decode cX4_init 22 = .ok (.aload_n 0, 1) := by decide +kernel
theorem dX4_init_23 : decode cX4_init 23 = .ok (.iconst 0, 1) := by decide +kernel
theorem dX4_init_24 : decode cX4_init 24 = .ok (.putfield 22, 3) := by decide +kernel
theorem dX4_init_27 : decode cX4_init 27 = .ok (.aload_n 0, 1) := by decide +kernel
theorem dX4_init_28 : decode cX4_init 28 = .ok (.iconst 0, 1) := by decide +kernel
theorem dX4_init_29 : decode cX4_init 29 = .ok (.putfield 26, 3) := by decide +kernel
theorem dX4_init_32 : decode cX4_init 32 = .ok (.aload_n 0, 1) := by decide +kernel
theorem dX4_init_33 : decode cX4_init 33 = .ok (.iconst 0, 1) := by decide +kernel
theorem dX4_init_34 : decode cX4_init 34 = .ok (.putfield 29, 3) := by decide +kernel
theorem dX4_init_37 : decode cX4_init 37 = .ok (.aload_n 0, 1) := by decide +kernel
theorem dX4_init_38 : decode cX4_init 38 = .ok (.iconst 0, 1) := by decide +kernel
theorem dX4_init_39 : decode cX4_init 39 = .ok (.putfield 32, 3) := by decide +kernel
theorem dX4_init_42 : decode cX4_init 42 = .ok (.return_, 1) := by decide +kernel
theorem dX4_isFull_0 : decode cX4_isFull 0 = .ok (.aload_n 0, 1) := by decide +kernel
theorem dX4_isFull_1 : decode cX4_isFull 1 = .ok (.getfield 15, 3) := by decide +kernel
theorem dX4_isFull_4 : decode cX4_isFull 4 = .ok (.bipush 120, 2) := by decide +kernel
theorem dX4_isFull_6 : decode cX4_isFull 6 = .ok (.if_icmp .lt 7, 3) := by decide +kernel
theorem dX4_isFull_9 : decode cX4_isFull 9 = .ok (.iconst 1, 1) := by decide +kernel
theorem dX4_isFull_10 : decode cX4_isFull 10 = .ok (.goto 4, 3) := by decide +kernel
theorem dX4_isFull_13 : decode cX4_isFull 13 = .ok (.iconst 0, 1) := by decide +kernel
theorem dX4_isFull_14 : decode cX4_isFull 14 = .ok (.ireturn, 1) := by decide +kernel
theorem dX4_append_0 : decode cX4_append 0 = .ok (.aload_n 0, 1) := by decide +kernel
theorem dX4_append_1 : decode cX4_append 1 = .ok (.invokevirtual 35, 3) := by decide +kernel
theorem dX4_append_4 : decode cX4_append 4 = .ok (.ifCond .ne 23, 3) := by decide +kernel
theorem dX4_append_7 : decode cX4_append 7 = .ok (.aload_n 0, 1) := by decide +kernel
theorem dX4_append_8 : decode cX4_append 8 = .ok (.getfield 11, 3) := by decide +kernel
theorem dX4_append_11 : decode cX4_append 11 = .ok (.aload_n 0, 1) := by decide +kernel
theorem dX4_append_12 : decode cX4_append 12 = .ok (.getfield 15, 3) := by decide +kernel
theorem dX4_append_15 : decode cX4_append 15 = .ok (.iload_n 1, 1) := by decide +kernel
theorem dX4_append_16 : decode cX4_append 16 = .ok (.iastore, 1) := by decide +kernel
theorem dX4_append_17 : decode cX4_append 17 = .ok (.aload_n 0, 1) := by decide +kernel
theorem dX4_append_18 : decode cX4_append 18 = .ok (.dup, 1) := by decide +kernel
theorem dX4_append_19 : decode cX4_append 19 = .ok (.getfield 15, 3) := by decide +kernel
theorem dX4_append_22 : decode cX4_append 22 = .ok (.iconst 1, 1) := by decide +kernel
theorem dX4_append_23 : decode cX4_append 23 = .ok (.iadd, 1) := by decide +kernel
theorem dX4_append_24 : decode cX4_append 24 = .ok (.putfield 15, 3) := by decide +kernel
theorem dX4_append_27 : decode cX4_append 27 = .ok (.return_, 1) := by decide +kernel
theorem dX4_isFigure_0 : decode cX4_isFigure 0 = .ok (.iload_n 0, 1) := by decide +kernel
theorem dX4_isFigure_1 : decode cX4_isFigure 1 = .ok (.bipush 48, 2) := by decide +kernel
theorem dX4_isFigure_3 : decode cX4_isFigure 3 = .ok (.if_icmp .lt 13, 3) := by decide +kernel
theorem dX4_isFigure_6 : decode cX4_isFigure 6 = .ok (.iload_n 0, 1) := by decide +kernel
theorem dX4_isFigure_7 : decode cX4_isFigure 7 = .ok (.bipush 57, 2) := by decide +kernel
theorem dX4_isFigure_9 : decode cX4_isFigure 9 = .ok (.if_icmp .gt 7, 3) := by decide +kernel
theorem dX4_isFigure_12 : decode cX4_isFigure 12 = .ok (.iconst 1, 1) := by decide +kernel
theorem dX4_isFigure_13 : decode cX4_isFigure 13 = .ok (.goto 4, 3) := by decide +kernel
theorem dX4_isFigure_16 : decode cX4_isFigure 16 = .ok (.iconst 0, 1) := by decide +kernel
theorem dX4_isFigure_17 : decode cX4_isFigure 17 = .ok (.ireturn, 1) := by decide +kernel
theorem dX4_firstFault_0 : decode cX4_firstFault 0 = .ok (.aload_n 0, 1) := by decide +kernel
theorem dX4_firstFault_1 : decode cX4_firstFault 1 = .ok (.iconst 0, 1) := by decide +kernel
theorem dX4_firstFault_2 : decode cX4_firstFault 2 = .ok (.putfield 19, 3) := by decide +kernel
theorem dX4_firstFault_5 : decode cX4_firstFault 5 = .ok (.aload_n 0, 1) := by decide +kernel
theorem dX4_firstFault_6 : decode cX4_firstFault 6 = .ok (.iconst 0, 1) := by decide +kernel
theorem dX4_firstFault_7 : decode cX4_firstFault 7 = .ok (.putfield 22, 3) := by decide +kernel
theorem dX4_firstFault_10 : decode cX4_firstFault 10 = .ok (.aload_n 0, 1) := by decide +kernel
theorem dX4_firstFault_11 : decode cX4_firstFault 11 = .ok (.iconst 0, 1) := by decide +kernel
theorem dX4_firstFault_12 : decode cX4_firstFault 12 = .ok (.putfield 26, 3) := by decide +kernel
theorem dX4_firstFault_15 : decode cX4_firstFault 15 = .ok (.aload_n 0, 1) := by decide +kernel
theorem dX4_firstFault_16 : decode cX4_firstFault 16 = .ok (.iconst 0, 1) := by decide +kernel
theorem dX4_firstFault_17 : decode cX4_firstFault 17 = .ok (.putfield 29, 3) := by decide +kernel
theorem dX4_firstFault_20 : decode cX4_firstFault 20 = .ok (.aload_n 0, 1) := by decide +kernel
theorem dX4_firstFault_21 : decode cX4_firstFault 21 = .ok (.iconst 0, 1) := by decide +kernel
theorem dX4_firstFault_22 : decode cX4_firstFault 22 = .ok (.putfield 32, 3) := by decide +kernel
theorem dX4_firstFault_25 : decode cX4_firstFault 25 = .ok (.iconst 0, 1) := by decide +kernel
theorem dX4_firstFault_26 : decode cX4_firstFault 26 = .ok (.istore_n 2, 1) := by decide +kernel
theorem dX4_firstFault_27 : decode cX4_firstFault 27 = .ok (.iload_n 2, 1) := by decide +kernel
theorem dX4_firstFault_28 : decode cX4_firstFault 28 = .ok (.aload_n 0, 1) := by decide +kernel
theorem dX4_firstFault_29 : decode cX4_firstFault 29 = .ok (.getfield 15, 3) := by decide +kernel
theorem dX4_firstFault_32 : decode cX4_firstFault 32 = .ok (.if_icmp .ge 25, 3) := by decide +kernel
theorem dX4_firstFault_35 : decode cX4_firstFault 35 = .ok (.aload_n 0, 1) := by decide +kernel
theorem dX4_firstFault_36 : decode cX4_firstFault 36 = .ok (.aload_n 0, 1) := by decide +kernel
theorem dX4_firstFault_37 : decode cX4_firstFault 37 = .ok (.getfield 11, 3) := by decide +kernel
theorem dX4_firstFault_40 : decode cX4_firstFault 40 = .ok (.iload_n 2, 1) := by decide +kernel
theorem dX4_firstFault_41 : decode cX4_firstFault 41 = .ok (.iaload, 1) := by decide +kernel
theorem dX4_firstFault_42 : decode cX4_firstFault 42 = .ok (.iload_n 1, 1) := by decide +kernel
theorem dX4_firstFault_43 : decode cX4_firstFault 43 = .ok (.invokevirtual 39, 3) := by decide +kernel
theorem dX4_firstFault_46 : decode cX4_firstFault 46 = .ok (.ifCond .ne 5, 3) := by decide +kernel
theorem dX4_firstFault_49 : decode cX4_firstFault 49 = .ok (.iload_n 2, 1) := by decide +kernel
theorem dX4_firstFault_50 : decode cX4_firstFault 50 = .ok (.ireturn, 1) := by decide +kernel
theorem dX4_firstFault_51 : decode cX4_firstFault 51 = .ok (.iinc 2 1, 3) := by decide +kernel
theorem dX4_firstFault_54 : decode cX4_firstFault 54 = .ok (.goto (-27), 3) := by decide +kernel
theorem dX4_firstFault_57 : decode cX4_firstFault 57 = .ok (.iload_n 1, 1) := by decide +kernel
theorem dX4_firstFault_58 : decode cX4_firstFault 58 = .ok (.ifCond .ne 10, 3) := by decide +kernel
theorem dX4_firstFault_61 : decode cX4_firstFault 61 = .ok (.aload_n 0, 1) := by decide +kernel
theorem dX4_firstFault_62 : decode cX4_firstFault 62 = .ok (.invokevirtual 43, 3) := by decide +kernel
theorem dX4_firstFault_65 : decode cX4_firstFault 65 = .ok (.goto 23, 3) := by decide +kernel
theorem dX4_firstFault_68 : decode cX4_firstFault 68 = .ok (.aload_n 0, 1) := by decide +kernel
theorem dX4_firstFault_69 : decode cX4_firstFault 69 = .ok (.getfield 29, 3) := by decide +kernel
theorem dX4_firstFault_72 : decode cX4_firstFault 72 = .ok (.ifCond .eq 15, 3) := by decide +kernel
theorem dX4_firstFault_75 : decode cX4_firstFault 75 = .ok (.aload_n 0, 1) := by decide +kernel
theorem dX4_firstFault_76 : decode cX4_firstFault 76 = .ok (.getfield 32, 3) := by decide +kernel
theorem dX4_firstFault_79 : decode cX4_firstFault 79 = .ok (.iload_n 1, 1) := by decide +kernel
theorem dX4_firstFault_80 : decode cX4_firstFault 80 = .ok (.if_icmp .ne 7, 3) := by decide +kernel
theorem dX4_firstFault_83 : decode cX4_firstFault 83 = .ok (.iconst 1, 1) := by decide +kernel
theorem dX4_firstFault_84 : decode cX4_firstFault 84 = .ok (.goto 4, 3) := by decide +kernel
theorem dX4_firstFault_87 : decode cX4_firstFault 87 = .ok (.iconst 0, 1) := by decide +kernel
theorem dX4_firstFault_88 : decode cX4_firstFault 88 = .ok (.istore_n 2, 1) := by decide +kernel
theorem dX4_firstFault_89 : decode cX4_firstFault 89 = .ok (.iload_n 2, 1) := by decide +kernel
theorem dX4_firstFault_90 : decode cX4_firstFault 90 = .ok (.ifCond .eq 8, 3) := by decide +kernel
theorem dX4_firstFault_93 : decode cX4_firstFault 93 = .ok (.bipush (-4), 2) := by decide +kernel
theorem dX4_firstFault_95 : decode cX4_firstFault 95 = .ok (.goto 7, 3) := by decide +kernel
theorem dX4_firstFault_98 : decode cX4_firstFault 98 = .ok (.aload_n 0, 1) := by decide +kernel
theorem dX4_firstFault_99 : decode cX4_firstFault 99 = .ok (.getfield 15, 3) := by decide +kernel
theorem dX4_firstFault_102 : decode cX4_firstFault 102 = .ok (.ireturn, 1) := by decide +kernel
theorem dX4_canStand_0 : decode cX4_canStand 0 = .ok (.aload_n 0, 1) := by decide +kernel
theorem dX4_canStand_1 : decode cX4_canStand 1 = .ok (.getfield 29, 3) := by decide +kernel
theorem dX4_canStand_4 : decode cX4_canStand 4 = .ok (.ifCond .eq 34, 3) := by decide +kernel
theorem dX4_canStand_7 : decode cX4_canStand 7 = .ok (.aload_n 0, 1) := by decide +kernel
theorem dX4_canStand_8 : decode cX4_canStand 8 = .ok (.dup, 1) := by decide +kernel
theorem dX4_canStand_9 : decode cX4_canStand 9 = .ok (.getfield 32, 3) := by decide +kernel
theorem dX4_canStand_12 : decode cX4_canStand 12 = .ok (.iconst 1, 1) := by decide +kernel
theorem dX4_canStand_13 : decode cX4_canStand 13 = .ok (.iadd, 1) := by decide +kernel
theorem dX4_canStand_14 : decode cX4_canStand 14 = .ok (.putfield 32, 3) := by decide +kernel
theorem dX4_canStand_17 : decode cX4_canStand 17 = .ok (.iload_n 1, 1) := by decide +kernel
theorem dX4_canStand_18 : decode cX4_canStand 18 = .ok (.invokestatic 46, 3) := by decide +kernel
theorem dX4_canStand_21 : decode cX4_canStand 21 = .ok (.ifCond .eq 15, 3) := by decide +kernel
theorem dX4_canStand_24 : decode cX4_canStand 24 = .ok (.aload_n 0, 1) := by decide +kernel
theorem dX4_canStand_25 : decode cX4_canStand 25 = .ok (.getfield 32, 3) := by decide +kernel
theorem dX4_canStand_28 : decode cX4_canStand 28 = .ok (.iload_n 2, 1) := by decide +kernel
theorem dX4_canStand_29 : decode cX4_canStand 29 = .ok (.if_icmp .gt 7, 3) := by decide +kernel
theorem dX4_canStand_32 : decode cX4_canStand 32 = .ok (.iconst 1, 1) := by decide +kernel
theorem dX4_canStand_33 : decode cX4_canStand 33 = .ok (.goto 4, 3) := by decide +kernel
theorem dX4_canStand_36 : decode cX4_canStand 36 = .ok (.iconst 0, 1) := by decide +kernel
theorem dX4_canStand_37 : decode cX4_canStand 37 = .ok (.ireturn, 1) := by decide +kernel
theorem dX4_canStand_38 : decode cX4_canStand 38 = .ok (.iload_n 1, 1) := by decide +kernel
theorem dX4_canStand_39 : decode cX4_canStand 39 = .ok (.invokestatic 46, 3) := by decide +kernel
theorem dX4_canStand_42 : decode cX4_canStand 42 = .ok (.ifCond .eq 9, 3) := by decide +kernel
theorem dX4_canStand_45 : decode cX4_canStand 45 = .ok (.aload_n 0, 1) := by decide +kernel
theorem dX4_canStand_46 : decode cX4_canStand 46 = .ok (.iload_n 1, 1) := by decide +kernel
theorem dX4_canStand_47 : decode cX4_canStand 47 = .ok (.invokevirtual 50, 3) := by decide +kernel
theorem dX4_canStand_50 : decode cX4_canStand 50 = .ok (.ireturn, 1) := by decide +kernel
theorem dX4_canStand_51 : decode cX4_canStand 51 = .ok (.iload_n 1, 1) := by decide +kernel
theorem dX4_canStand_52 : decode cX4_canStand 52 = .ok (.bipush 44, 2) := by decide +kernel
theorem dX4_canStand_54 : decode cX4_canStand 54 = .ok (.if_icmp .ne 8, 3) := by decide +kernel
theorem dX4_canStand_57 : decode cX4_canStand 57 = .ok (.aload_n 0, 1) := by decide +kernel
theorem dX4_canStand_58 : decode cX4_canStand 58 = .ok (.invokevirtual 53, 3) := by decide +kernel
theorem dX4_canStand_61 : decode cX4_canStand 61 = .ok (.ireturn, 1) := by decide +kernel
theorem dX4_canStand_62 : decode cX4_canStand 62 = .ok (.aload_n 0, 1) := by decide +kernel
theorem dX4_canStand_63 : decode cX4_canStand 63 = .ok (.iconst 1, 1) := by decide +kernel
theorem dX4_canStand_64 : decode cX4_canStand 64 = .ok (.putfield 29, 3) := by decide +kernel
theorem dX4_canStand_67 : decode cX4_canStand 67 = .ok (.iload_n 1, 1) := by decide +kernel
theorem dX4_canStand_68 : decode cX4_canStand 68 = .ok (.bipush 46, 2) := by decide +kernel
theorem dX4_canStand_70 : decode cX4_canStand 70 = .ok (.if_icmp .ne 18, 3) := by decide +kernel
theorem dX4_canStand_73 : decode cX4_canStand 73 = .ok (.iload_n 2, 1) := by decide +kernel
theorem dX4_canStand_74 : decode cX4_canStand 74 = .ok (.ifCond .le 14, 3) := by decide +kernel
theorem dX4_canStand_77 : decode cX4_canStand 77 = .ok (.aload_n 0, 1) := by decide +kernel
theorem dX4_canStand_78 : decode cX4_canStand 78 = .ok (.invokevirtual 43, 3) := by decide +kernel
theorem dX4_canStand_81 : decode cX4_canStand 81 = .ok (.ifCond .eq 7, 3) := by decide +kernel
theorem dX4_canStand_84 : decode cX4_canStand 84 = .ok (.iconst 1, 1) := by decide +kernel
theorem dX4_canStand_85 : decode cX4_canStand 85 = .ok (.goto 4, 3) := by decide +kernel
theorem dX4_canStand_88 : decode cX4_canStand 88 = .ok (.iconst 0, 1) := by decide +kernel
theorem dX4_canStand_89 : decode cX4_canStand 89 = .ok (.ireturn, 1) := by decide +kernel
theorem dX4_canFigureStand_0 : decode cX4_canFigureStand 0 = .ok (.aload_n 0, 1) := by decide +kernel
theorem dX4_canFigureStand_1 : decode cX4_canFigureStand 1 = .ok (.getfield 26, 3) := by decide +kernel
theorem dX4_canFigureStand_4 : decode cX4_canFigureStand 4 = .ok (.ifCond .ne 18, 3) := by decide +kernel
theorem dX4_canFigureStand_7 : decode cX4_canFigureStand 7 = .ok (.aload_n 0, 1) := by decide +kernel
theorem dX4_canFigureStand_8 : decode cX4_canFigureStand 8 = .ok (.getfield 22, 3) := by decide +kernel
theorem dX4_canFigureStand_11 : decode cX4_canFigureStand 11 = .ok (.ifCond .eq 13, 3) := by decide +kernel
theorem dX4_canFigureStand_14 : decode cX4_canFigureStand 14 = .ok (.aload_n 0, 1) := by decide +kernel
theorem dX4_canFigureStand_15 : decode cX4_canFigureStand 15 = .ok (.getfield 19, 3) := by decide +kernel
theorem dX4_canFigureStand_18 : decode cX4_canFigureStand 18 = .ok (.iconst 3, 1) := by decide +kernel
theorem dX4_canFigureStand_19 : decode cX4_canFigureStand 19 = .ok (.if_icmp .ne 5, 3) := by decide +kernel
theorem dX4_canFigureStand_22 : decode cX4_canFigureStand 22 = .ok (.iconst 0, 1) := by decide +kernel
theorem dX4_canFigureStand_23 : decode cX4_canFigureStand 23 = .ok (.ireturn, 1) := by decide +kernel
theorem dX4_canFigureStand_24 : decode cX4_canFigureStand 24 = .ok (.aload_n 0, 1) := by decide +kernel
theorem dX4_canFigureStand_25 : decode cX4_canFigureStand 25 = .ok (.iload_n 1, 1) := by decide +kernel
theorem dX4_canFigureStand_26 : decode cX4_canFigureStand 26 = .ok (.bipush 48, 2) := by decide +kernel
theorem dX4_canFigureStand_28 : decode cX4_canFigureStand 28 = .ok (.if_icmp .ne 21, 3) := by decide +kernel
theorem dX4_canFigureStand_31 : decode cX4_canFigureStand 31 = .ok (.aload_n 0, 1) := by decide +kernel
theorem dX4_canFigureStand_32 : decode cX4_canFigureStand 32 = .ok (.getfield 19, 3) := by decide +kernel
theorem dX4_canFigureStand_35 : decode cX4_canFigureStand 35 = .ok (.ifCond .ne 14, 3) := by decide +kernel
theorem dX4_canFigureStand_38 : decode cX4_canFigureStand 38 = .ok (.aload_n 0, 1) := by decide +kernel
theorem dX4_canFigureStand_39 : decode cX4_canFigureStand 39 = .ok (.getfield 22, 3) := by decide +kernel
theorem dX4_canFigureStand_42 : decode cX4_canFigureStand 42 = .ok (.ifCond .ne 7, 3) := by decide +kernel
theorem dX4_canFigureStand_45 : decode cX4_canFigureStand 45 = .ok (.iconst 1, 1) := by decide +kernel
theorem dX4_canFigureStand_46 : decode cX4_canFigureStand 46 = .ok (.goto 4, 3) := by decide +kernel
theorem dX4_canFigureStand_49 : decode cX4_canFigureStand 49 = .ok (.iconst 0, 1) := by decide +kernel
theorem dX4_canFigureStand_50 : decode cX4_canFigureStand 50 = .ok (.putfield 26, 3) := by decide +kernel
theorem dX4_canFigureStand_53 : decode cX4_canFigureStand 53 = .ok (.aload_n 0, 1) := by decide +kernel
theorem dX4_canFigureStand_54 : decode cX4_canFigureStand 54 = .ok (.dup, 1) := by decide +kernel
theorem dX4_canFigureStand_55 : decode cX4_canFigureStand 55 = .ok (.getfield 19, 3) := by decide +kernel
theorem dX4_canFigureStand_58 : decode cX4_canFigureStand 58 = .ok (.iconst 1, 1) := by decide +kernel
theorem dX4_canFigureStand_59 : decode cX4_canFigureStand 59 = .ok (.iadd, 1) := by decide +kernel
theorem dX4_canFigureStand_60 : decode cX4_canFigureStand 60 = .ok (.putfield 19, 3) := by decide +kernel
theorem dX4_canFigureStand_63 : decode cX4_canFigureStand 63 = .ok (.iconst 1, 1) := by decide +kernel
theorem dX4_canFigureStand_64 : decode cX4_canFigureStand 64 = .ok (.ireturn, 1) := by decide +kernel
theorem dX4_canCommaStand_0 : decode cX4_canCommaStand 0 = .ok (.aload_n 0, 1) := by decide +kernel
theorem dX4_canCommaStand_1 : decode cX4_canCommaStand 1 = .ok (.getfield 26, 3) := by decide +kernel
theorem dX4_canCommaStand_4 : decode cX4_canCommaStand 4 = .ok (.ifCond .ne 33, 3) := by decide +kernel
theorem dX4_canCommaStand_7 : decode cX4_canCommaStand 7 = .ok (.aload_n 0, 1) := by decide +kernel
theorem dX4_canCommaStand_8 : decode cX4_canCommaStand 8 = .ok (.getfield 19, 3) := by decide +kernel
theorem dX4_canCommaStand_11 : decode cX4_canCommaStand 11 = .ok (.ifCond .eq 26, 3) := by decide +kernel
theorem dX4_canCommaStand_14 : decode cX4_canCommaStand 14 = .ok (.aload_n 0, 1) := by decide +kernel
theorem dX4_canCommaStand_15 : decode cX4_canCommaStand 15 = .ok (.getfield 19, 3) := by decide +kernel
theorem dX4_canCommaStand_18 : decode cX4_canCommaStand 18 = .ok (.iconst 3, 1) := by decide +kernel
theorem dX4_canCommaStand_19 : decode cX4_canCommaStand 19 = .ok (.if_icmp .gt 18, 3) := by decide +kernel
theorem dX4_canCommaStand_22 : decode cX4_canCommaStand 22 = .ok (.aload_n 0, 1) := by decide +kernel
theorem dX4_canCommaStand_23 : decode cX4_canCommaStand 23 = .ok (.getfield 22, 3) := by decide +kernel
theorem dX4_canCommaStand_26 : decode cX4_canCommaStand 26 = .ok (.ifCond .eq 13, 3) := by decide +kernel
theorem dX4_canCommaStand_29 : decode cX4_canCommaStand 29 = .ok (.aload_n 0, 1) := by decide +kernel
theorem dX4_canCommaStand_30 : decode cX4_canCommaStand 30 = .ok (.getfield 19, 3) := by decide +kernel
theorem dX4_canCommaStand_33 : decode cX4_canCommaStand 33 = .ok (.iconst 3, 1) := by decide +kernel
theorem dX4_canCommaStand_34 : decode cX4_canCommaStand 34 = .ok (.if_icmp .eq 5, 3) := by decide +kernel
theorem dX4_canCommaStand_37 : decode cX4_canCommaStand 37 = .ok (.iconst 0, 1) := by decide +kernel
theorem dX4_canCommaStand_38 : decode cX4_canCommaStand 38 = .ok (.ireturn, 1) := by decide +kernel
theorem dX4_canCommaStand_39 : decode cX4_canCommaStand 39 = .ok (.aload_n 0, 1) := by decide +kernel
theorem dX4_canCommaStand_40 : decode cX4_canCommaStand 40 = .ok (.iconst 1, 1) := by decide +kernel
theorem dX4_canCommaStand_41 : decode cX4_canCommaStand 41 = .ok (.putfield 22, 3) := by decide +kernel
theorem dX4_canCommaStand_44 : decode cX4_canCommaStand 44 = .ok (.aload_n 0, 1) := by decide +kernel
theorem dX4_canCommaStand_45 : decode cX4_canCommaStand 45 = .ok (.iconst 0, 1) := by decide +kernel
theorem dX4_canCommaStand_46 : decode cX4_canCommaStand 46 = .ok (.putfield 19, 3) := by decide +kernel
theorem dX4_canCommaStand_49 : decode cX4_canCommaStand 49 = .ok (.iconst 1, 1) := by decide +kernel
theorem dX4_canCommaStand_50 : decode cX4_canCommaStand 50 = .ok (.ireturn, 1) := by decide +kernel
theorem dX4_isAheadWhole_0 : decode cX4_isAheadWhole 0 = .ok (.aload_n 0, 1) := by decide +kernel
theorem dX4_isAheadWhole_1 : decode cX4_isAheadWhole 1 = .ok (.getfield 22, 3) := by decide +kernel
theorem dX4_isAheadWhole_4 : decode cX4_isAheadWhole 4 = .ok (.ifCond .eq 19, 3) := by decide +kernel
theorem dX4_isAheadWhole_7 : decode cX4_isAheadWhole 7 = .ok (.aload_n 0, 1) := by decide +kernel
theorem dX4_isAheadWhole_8 : decode cX4_isAheadWhole 8 = .ok (.getfield 19, 3) := by decide +kernel
theorem dX4_isAheadWhole_11 : decode cX4_isAheadWhole 11 = .ok (.iconst 3, 1) := by decide +kernel
theorem dX4_isAheadWhole_12 : decode cX4_isAheadWhole 12 = .ok (.if_icmp .ne 7, 3) := by decide +kernel
theorem dX4_isAheadWhole_15 : decode cX4_isAheadWhole 15 = .ok (.iconst 1, 1) := by decide +kernel
theorem dX4_isAheadWhole_16 : decode cX4_isAheadWhole 16 = .ok (.goto 19, 3) := by decide +kernel
theorem dX4_isAheadWhole_19 : decode cX4_isAheadWhole 19 = .ok (.iconst 0, 1) := by decide +kernel
theorem dX4_isAheadWhole_20 : decode cX4_isAheadWhole 20 = .ok (.goto 15, 3) := by decide +kernel
theorem dX4_isAheadWhole_23 : decode cX4_isAheadWhole 23 = .ok (.aload_n 0, 1) := by decide +kernel
theorem dX4_isAheadWhole_24 : decode cX4_isAheadWhole 24 = .ok (.getfield 19, 3) := by decide +kernel
theorem dX4_isAheadWhole_27 : decode cX4_isAheadWhole 27 = .ok (.ifCond .le 7, 3) := by decide +kernel
theorem dX4_isAheadWhole_30 : decode cX4_isAheadWhole 30 = .ok (.iconst 1, 1) := by decide +kernel
theorem dX4_isAheadWhole_31 : decode cX4_isAheadWhole 31 = .ok (.goto 4, 3) := by decide +kernel
theorem dX4_isAheadWhole_34 : decode cX4_isAheadWhole 34 = .ok (.iconst 0, 1) := by decide +kernel
theorem dX4_isAheadWhole_35 : decode cX4_isAheadWhole 35 = .ok (.ireturn, 1) := by decide +kernel
theorem dX4_countTo_0 : decode cX4_countTo 0 = .ok (.aload_n 1, 1) := by decide +kernel
theorem dX4_countTo_1 : decode cX4_countTo 1 = .ok (.invokevirtual 56, 3) := by decide +kernel
theorem dX4_countTo_4 : decode cX4_countTo 4 = .ok (.iconst 0, 1) := by decide +kernel
theorem dX4_countTo_5 : decode cX4_countTo 5 = .ok (.istore_n 2, 1) := by decide +kernel
theorem dX4_countTo_6 : decode cX4_countTo 6 = .ok (.iload_n 2, 1) := by decide +kernel
theorem dX4_countTo_7 : decode cX4_countTo 7 = .ok (.aload_n 0, 1) := by decide +kernel
theorem dX4_countTo_8 : decode cX4_countTo 8 = .ok (.getfield 15, 3) := by decide +kernel
theorem dX4_countTo_11 : decode cX4_countTo 11 = .ok (.if_icmp .ge 45, 3) := by decide +kernel
theorem dX4_countTo_14 : decode cX4_countTo 14 = .ok (.aload_n 0, 1) := by decide +kernel
theorem dX4_countTo_15 : decode cX4_countTo 15 = .ok (.getfield 11, 3) := by decide +kernel
theorem dX4_countTo_18 : decode cX4_countTo 18 = .ok (.iload_n 2, 1) := by decide +kernel
theorem dX4_countTo_19 : decode cX4_countTo 19 = .ok (.iaload, 1) := by decide +kernel
theorem dX4_countTo_20 : decode cX4_countTo 20 = .ok (.invokestatic 46, 3) := by decide +kernel
theorem dX4_countTo_23 : decode cX4_countTo 23 = .ok (.ifCond .eq 18, 3) := by decide +kernel
theorem dX4_countTo_26 : decode cX4_countTo 26 = .ok (.aload_n 1, 1) := by decide +kernel
theorem dX4_countTo_27 : decode cX4_countTo 27 = .ok (.bipush 10, 2) := by decide +kernel
theorem dX4_countTo_29 : decode cX4_countTo 29 = .ok (.aload_n 0, 1) := by decide +kernel
theorem dX4_countTo_30 : decode cX4_countTo 30 = .ok (.getfield 11, 3) := by decide +kernel
theorem dX4_countTo_33 : decode cX4_countTo 33 = .ok (.iload_n 2, 1) := by decide +kernel
theorem dX4_countTo_34 : decode cX4_countTo 34 = .ok (.iaload, 1) := by decide +kernel
theorem dX4_countTo_35 : decode cX4_countTo 35 = .ok (.bipush 48, 2) := by decide +kernel
theorem dX4_countTo_37 : decode cX4_countTo 37 = .ok (.isub, 1) := by decide +kernel
theorem dX4_countTo_38 : decode cX4_countTo 38 = .ok (.invokevirtual 61, 3) := by decide +kernel
theorem dX4_countTo_41 : decode cX4_countTo 41 = .ok (.aload_n 1, 1) := by decide +kernel
theorem dX4_countTo_42 : decode cX4_countTo 42 = .ok (.invokevirtual 65, 3) := by decide +kernel
theorem dX4_countTo_45 : decode cX4_countTo 45 = .ok (.ifCond .ne 5, 3) := by decide +kernel
theorem dX4_countTo_48 : decode cX4_countTo 48 = .ok (.iconst 0, 1) := by decide +kernel
theorem dX4_countTo_49 : decode cX4_countTo 49 = .ok (.ireturn, 1) := by decide +kernel
theorem dX4_countTo_50 : decode cX4_countTo 50 = .ok (.iinc 2 1, 3) := by decide +kernel
theorem dX4_countTo_53 : decode cX4_countTo 53 = .ok (.goto (-47), 3) := by decide +kernel
theorem dX4_countTo_56 : decode cX4_countTo 56 = .ok (.iconst 1, 1) := by decide +kernel
theorem dX4_countTo_57 : decode cX4_countTo 57 = .ok (.ireturn, 1) := by decide +kernel
