theorem dX6_join_17 : decode cX6_join 17 = .ok (.iconst (-1), 1) := by decide +kernel
theorem dX6_join_18 : decode cX6_join 18 = .ok (.ireturn, 1) := by decide +kernel
theorem dX6_join_19 : decode cX6_join 19 = .ok (.aload_n 0, 1) := by decide +kernel
theorem dX6_join_20 : decode cX6_join 20 = .ok (.getfield 10, 3) := by decide +kernel
theorem dX6_join_23 : decode cX6_join 23 = .ok (.getfield 230, 3) := by decide +kernel
theorem dX6_join_26 : decode cX6_join 26 = .ok (.iload_n 1, 1) := by decide +kernel
theorem dX6_join_27 : decode cX6_join 27 = .ok (.aaload, 1) := by decide +kernel
theorem dX6_join_28 : decode cX6_join 28 = .ok (.aload_n 0, 1) := by decide +kernel
theorem dX6_join_29 : decode cX6_join 29 = .ok (.getfield 10, 3) := by decide +kernel
theorem dX6_join_32 : decode cX6_join 32 = .ok (.getfield 72, 3) := by decide +kernel
theorem dX6_join_35 : decode cX6_join 35 = .ok (.iload_n 2, 1) := by decide +kernel
theorem dX6_join_36 : decode cX6_join 36 = .ok (.aaload, 1) := by decide +kernel
theorem dX6_join_37 : decode cX6_join 37 = .ok (.aload_n 0, 1) := by decide +kernel
theorem dX6_join_38 : decode cX6_join 38 = .ok (.getfield 10, 3) := by decide +kernel
theorem dX6_join_41 : decode cX6_join 41 = .ok (.getfield 72, 3) := by decide +kernel
theorem dX6_join_44 : decode cX6_join 44 = .ok (.iload_n 3, 1) := by decide +kernel
theorem dX6_join_45 : decode cX6_join 45 = .ok (.aaload, 1) := by decide +kernel
theorem dX6_join_46 : decode cX6_join 46 = .ok (.aload_n 0, 1) := by decide +kernel
theorem dX6_join_47 : decode cX6_join 47 = .ok (.getfield 22, 3) := by decide +kernel
theorem dX6_join_50 : decode cX6_join 50 = .ok (.invokevirtual 242, 3) := by decide +kernel
theorem dX6_join_53 : decode cX6_join 53 = .ok (.istore 5, 2) := by decide +kernel
theorem dX6_join_55 : decode cX6_join 55 = .ok (.iload 5, 2) := by decide +kernel
theorem dX6_join_57 : decode cX6_join 57 = .ok (.iconst 1, 1) := by decide +kernel
theorem dX6_join_58 : decode cX6_join 58 = .ok (.if_icmp .ne 19, 3) := by decide +kernel
theorem dX6_join_61 : decode cX6_join 61 = .ok (.aload_n 0, 1) := by decide +kernel
theorem dX6_join_62 : decode cX6_join 62 = .ok (.iload 4, 2) := by decide +kernel
theorem dX6_join_64 : decode cX6_join 64 = .ok (.aload_n 0, 1) := by decide +kernel
theorem dX6_join_65 : decode cX6_join 65 = .ok (.getfield 22, 3) := by decide +kernel
theorem dX6_join_68 : decode cX6_join 68 = .ok (.getfield 82, 3) := by decide +kernel
theorem dX6_join_71 : decode cX6_join 71 = .ok (.invokevirtual 96, 3) := by decide +kernel
theorem dX6_join_74 : decode cX6_join 74 = .ok (.goto 5, 3) := by decide +kernel
theorem dX6_join_77 : decode cX6_join 77 = .ok (.iload 5, 2) := by decide +kernel
theorem dX6_join_79 : decode cX6_join 79 = .ok (.ireturn, 1) := by decide +kernel
theorem dX6_leave_0 : decode cX6_leave 0 = .ok (.iload_n 1, 1) := by decide +kernel
theorem dX6_leave_1 : decode cX6_leave 1 = .ok (.invokestatic 226, 3) := by decide +kernel
theorem dX6_leave_4 : decode cX6_leave 4 = .ok (.ifCond .eq 13, 3) := by decide +kernel
theorem dX6_leave_7 : decode cX6_leave 7 = .ok (.iload_n 2, 1) := by decide +kernel
theorem dX6_leave_8 : decode cX6_leave 8 = .ok (.iload_n 3, 1) := by decide +kernel
theorem dX6_leave_9 : decode cX6_leave 9 = .ok (.iload 4, 2) := by decide +kernel
theorem dX6_leave_11 : decode cX6_leave 11 = .ok (.invokestatic 106, 3) := by decide +kernel
theorem dX6_leave_14 : decode cX6_leave 14 = .ok (.ifCond .ne 5, 3) := by decide +kernel
theorem dX6_leave_17 : decode cX6_leave 17 = .ok (.iconst (-1), 1) := by decide +kernel
theorem dX6_leave_18 : decode cX6_leave 18 = .ok (.ireturn, 1) := by decide +kernel
theorem dX6_leave_19 : decode cX6_leave 19 = .ok (.aload_n 0, 1) := by decide +kernel
theorem dX6_leave_20 : decode cX6_leave 20 = .ok (.getfield 10, 3) := by decide +kernel
theorem dX6_leave_23 : decode cX6_leave 23 = .ok (.getfield 230, 3) := by decide +kernel
theorem dX6_leave_26 : decode cX6_leave 26 = .ok (.iload_n 1, 1) := by decide +kernel
theorem dX6_leave_27 : decode cX6_leave 27 = .ok (.aaload, 1) := by decide +kernel
theorem dX6_leave_28 : decode cX6_leave 28 = .ok (.aload_n 0, 1) := by decide +kernel
theorem dX6_leave_29 : decode cX6_leave 29 = .ok (.getfield 10, 3) := by decide +kernel
theorem dX6_leave_32 : decode cX6_leave 32 = .ok (.getfield 72, 3) := by decide +kernel
theorem dX6_leave_35 : decode cX6_leave 35 = .ok (.iload_n 2, 1) := by decide +kernel
theorem dX6_leave_36 : decode cX6_leave 36 = .ok (.aaload, 1) := by decide +kernel
theorem dX6_leave_37 : decode cX6_leave 37 = .ok (.aload_n 0, 1) := by decide +kernel
theorem dX6_leave_38 : decode cX6_leave 38 = .ok (.getfield 22, 3) := by decide +kernel
theorem dX6_leave_41 : decode cX6_leave 41 = .ok (.invokevirtual 246, 3) := by decide +kernel
theorem dX6_leave_44 : decode cX6_leave 44 = .ok (.istore 5, 2) := by decide +kernel
theorem dX6_leave_46 : decode cX6_leave 46 = .ok (.iload 5, 2) := by decide +kernel
theorem dX6_leave_48 : decode cX6_leave 48 = .ok (.iconst 1, 1) := by decide +kernel
theorem dX6_leave_49 : decode cX6_leave 49 = .ok (.if_icmp .ne 42, 3) := by decide +kernel
theorem dX6_leave_52 : decode cX6_leave 52 = .ok (.aload_n 0, 1) := by decide +kernel
theorem dX6_leave_53 : decode cX6_leave 53 = .ok (.getfield 10, 3) := by decide +kernel
theorem dX6_leave_56 : decode cX6_leave 56 = .ok (.getfield 72, 3) := by decide +kernel
theorem dX6_leave_59 : decode cX6_leave 59 = .ok (.iload_n 3, 1) := by decide +kernel
theorem dX6_leave_60 : decode cX6_leave 60 = .ok (.aaload, 1) := by decide +kernel
theorem dX6_leave_61 : decode cX6_leave 61 = .ok (.aload_n 0, 1) := by decide +kernel
theorem dX6_leave_62 : decode cX6_leave 62 = .ok (.getfield 22, 3) := by decide +kernel
theorem dX6_leave_65 : decode cX6_leave 65 = .ok (.getfield 82, 3) := by decide +kernel
theorem dX6_leave_68 : decode cX6_leave 68 = .ok (.invokevirtual 86, 3) := by decide +kernel
theorem dX6_leave_71 : decode cX6_leave 71 = .ok (.aload_n 0, 1) := by decide +kernel
theorem dX6_leave_72 : decode cX6_leave 72 = .ok (.getfield 10, 3) := by decide +kernel
theorem dX6_leave_75 : decode cX6_leave 75 = .ok (.getfield 72, 3) := by decide +kernel
theorem dX6_leave_78 : decode cX6_leave 78 = .ok (.iload 4, 2) := by decide +kernel
theorem dX6_leave_80 : decode cX6_leave 80 = .ok (.aaload, 1) := by decide +kernel
theorem dX6_leave_81 : decode cX6_leave 81 = .ok (.aload_n 0, 1) := by decide +kernel
theorem dX6_leave_82 : decode cX6_leave 82 = .ok (.getfield 22, 3) := by decide +kernel
theorem dX6_leave_85 : decode cX6_leave 85 = .ok (.getfield 168, 3) := by decide +kernel
theorem dX6_leave_88 : decode cX6_leave 88 = .ok (.invokevirtual 86, 3) := by decide +kernel
theorem dX6_leave_91 : decode cX6_leave 91 = .ok (.iload 5, 2) := by decide +kernel
theorem dX6_leave_93 : decode cX6_leave 93 = .ok (.ireturn, 1) := by decide +kernel
theorem dX6_give_0 : decode cX6_give 0 = .ok (.iload_n 1, 1) := by decide +kernel
theorem dX6_give_1 : decode cX6_give 1 = .ok (.invokestatic 226, 3) := by decide +kernel
theorem dX6_give_4 : decode cX6_give 4 = .ok (.ifCond .eq 25, 3) := by decide +kernel
theorem dX6_give_7 : decode cX6_give 7 = .ok (.iload_n 2, 1) := by decide +kernel
theorem dX6_give_8 : decode cX6_give 8 = .ok (.invokestatic 250, 3) := by decide +kernel
theorem dX6_give_11 : decode cX6_give 11 = .ok (.ifCond .eq 18, 3) := by decide +kernel
theorem dX6_give_14 : decode cX6_give 14 = .ok (.iload_n 3, 1) := by decide +kernel
theorem dX6_give_15 : decode cX6_give 15 = .ok (.invokestatic 68, 3) := by decide +kernel
theorem dX6_give_18 : decode cX6_give 18 = .ok (.ifCond .eq 11, 3) := by decide +kernel
theorem dX6_give_21 : decode cX6_give 21 = .ok (.iload 4, 2) := by decide +kernel
theorem dX6_give_23 : decode cX6_give 23 = .ok (.invokestatic 68, 3) := by decide +kernel
theorem dX6_give_26 : decode cX6_give 26 = .ok (.ifCond .ne 5, 3) := by decide +kernel
theorem dX6_give_29 : decode cX6_give 29 = .ok (.iconst (-1), 1) := by decide +kernel
theorem dX6_give_30 : decode cX6_give 30 = .ok (.ireturn, 1) := by decide +kernel
theorem dX6_give_31 : decode cX6_give 31 = .ok (.aload_n 0, 1) := by decide +kernel
theorem dX6_give_32 : decode cX6_give 32 = .ok (.getfield 10, 3) := by decide +kernel
theorem dX6_give_35 : decode cX6_give 35 = .ok (.getfield 230, 3) := by decide +kernel
theorem dX6_give_38 : decode cX6_give 38 = .ok (.iload_n 1, 1) := by decide +kernel
theorem dX6_give_39 : decode cX6_give 39 = .ok (.aaload, 1) := by decide +kernel
theorem dX6_give_40 : decode cX6_give 40 = .ok (.iload_n 2, 1) := by decide +kernel
theorem dX6_give_41 : decode cX6_give 41 = .ok (.aload_n 0, 1) := by decide +kernel
theorem dX6_give_42 : decode cX6_give 42 = .ok (.getfield 10, 3) := by decide +kernel
theorem dX6_give_45 : decode cX6_give 45 = .ok (.getfield 72, 3) := by decide +kernel
theorem dX6_give_48 : decode cX6_give 48 = .ok (.iload_n 3, 1) := by decide +kernel
theorem dX6_give_49 : decode cX6_give 49 = .ok (.aaload, 1) := by decide +kernel
theorem dX6_give_50 : decode cX6_give 50 = .ok (.aload_n 0, 1) := by decide +kernel
theorem dX6_give_51 : decode cX6_give 51 = .ok (.getfield 22, 3) := by decide +kernel
theorem dX6_give_54 : decode cX6_give 54 = .ok (.invokevirtual 253, 3) := by decide +kernel
theorem dX6_give_57 : decode cX6_give 57 = .ok (.istore 5, 2) := by decide +kernel
theorem dX6_give_59 : decode cX6_give 59 = .ok (.iload 5, 2) := by decide +kernel
theorem dX6_give_61 : decode cX6_give 61 = .ok (.iconst 1, 1) := by decide +kernel
theorem dX6_give_62 : decode cX6_give 62 = .ok (.if_icmp .ne 19, 3) := by decide +kernel
theorem dX6_give_65 : decode cX6_give 65 = .ok (.aload_n 0, 1) := by decide +kernel
theorem dX6_give_66 : decode cX6_give 66 = .ok (.iload 4, 2) := by decide +kernel
theorem dX6_give_68 : decode cX6_give 68 = .ok (.aload_n 0, 1) := by decide +kernel
theorem dX6_give_69 : decode cX6_give 69 = .ok (.getfield 22, 3) := by decide +kernel
theorem dX6_give_72 : decode cX6_give 72 = .ok (.getfield 82, 3) := by decide +kernel
theorem dX6_give_75 : decode cX6_give 75 = .ok (.invokevirtual 96, 3) := by decide +kernel
theorem dX6_give_78 : decode cX6_give 78 = .ok (.goto 5, 3) := by decide +kernel
theorem dX6_give_81 : decode cX6_give 81 = .ok (.iload 5, 2) := by decide +kernel
theorem dX6_give_83 : decode cX6_give 83 = .ok (.ireturn, 1) := by decide +kernel
theorem dX6_ask_0 : decode cX6_ask 0 = .ok (.iload_n 1, 1) := by decide +kernel
theorem dX6_ask_1 : decode cX6_ask 1 = .ok (.invokestatic 226, 3) := by decide +kernel
theorem dX6_ask_4 : decode cX6_ask 4 = .ok (.ifCond .eq 25, 3) := by decide +kernel
theorem dX6_ask_7 : decode cX6_ask 7 = .ok (.iload_n 2, 1) := by decide +kernel
theorem dX6_ask_8 : decode cX6_ask 8 = .ok (.invokestatic 250, 3) := by decide +kernel
theorem dX6_ask_11 : decode cX6_ask 11 = .ok (.ifCond .eq 18, 3) := by decide +kernel
theorem dX6_ask_14 : decode cX6_ask 14 = .ok (.iload_n 3, 1) := by decide +kernel
theorem dX6_ask_15 : decode cX6_ask 15 = .ok (.invokestatic 68, 3) := by decide +kernel
theorem dX6_ask_18 : decode cX6_ask 18 = .ok (.ifCond .eq 11, 3) := by decide +kernel
theorem dX6_ask_21 : decode cX6_ask 21 = .ok (.iload 4, 2) := by decide +kernel
theorem dX6_ask_23 : decode cX6_ask 23 = .ok (.invokestatic 68, 3) := by decide +kernel
theorem dX6_ask_26 : decode cX6_ask 26 = .ok (.ifCond .ne 5, 3) := by decide +kernel
theorem dX6_ask_29 : decode cX6_ask 29 = .ok (.iconst (-1), 1) := by decide +kernel
theorem dX6_ask_30 : decode cX6_ask 30 = .ok (.ireturn, 1) := by decide +kernel
theorem dX6_ask_31 : decode cX6_ask 31 = .ok (.aload_n 0, 1) := by decide +kernel
theorem dX6_ask_32 : decode cX6_ask 32 = .ok (.getfield 10, 3) := by decide +kernel
theorem dX6_ask_35 : decode cX6_ask 35 = .ok (.getfield 230, 3) := by decide +kernel
theorem dX6_ask_38 : decode cX6_ask 38 = .ok (.iload_n 1, 1) := by decide +kernel
theorem dX6_ask_39 : decode cX6_ask 39 = .ok (.aaload, 1) := by decide +kernel
theorem dX6_ask_40 : decode cX6_ask 40 = .ok (.iload_n 2, 1) := by decide +kernel
theorem dX6_ask_41 : decode cX6_ask 41 = .ok (.aload_n 0, 1) := by decide +kernel
theorem dX6_ask_42 : decode cX6_ask 42 = .ok (.getfield 10, 3) := by decide +kernel
theorem dX6_ask_45 : decode cX6_ask 45 = .ok (.getfield 72, 3) := by decide +kernel
theorem dX6_ask_48 : decode cX6_ask 48 = .ok (.iload_n 3, 1) := by decide +kernel
theorem dX6_ask_49 : decode cX6_ask 49 = .ok (.aaload, 1) := by decide +kernel
theorem dX6_ask_50 : decode cX6_ask 50 = .ok (.aload_n 0, 1) := by decide +kernel
theorem dX6_ask_51 : decode cX6_ask 51 = .ok (.getfield 22, 3) := by decide +kernel
theorem dX6_ask_54 : decode cX6_ask 54 = .ok (.invokevirtual 257, 3) := by decide +kernel
theorem dX6_ask_57 : decode cX6_ask 57 = .ok (.istore 5, 2) := by decide +kernel
theorem dX6_ask_59 : decode cX6_ask 59 = .ok (.iload 5, 2) := by decide +kernel
theorem dX6_ask_61 : decode cX6_ask 61 = .ok (.iconst 1, 1) := by decide +kernel
theorem dX6_ask_62 : decode cX6_ask 62 = .ok (.if_icmp .ne 19, 3) := by decide +kernel
theorem dX6_ask_65 : decode cX6_ask 65 = .ok (.aload_n 0, 1) := by decide +kernel
theorem dX6_ask_66 : decode cX6_ask 66 = .ok (.iload 4, 2) := by decide +kernel
theorem dX6_ask_68 : decode cX6_ask 68 = .ok (.aload_n 0, 1) := by decide +kernel
theorem dX6_ask_69 : decode cX6_ask 69 = .ok (.getfield 22, 3) := by decide +kernel
theorem dX6_ask_72 : decode cX6_ask 72 = .ok (.getfield 82, 3) := by decide +kernel
theorem dX6_ask_75 : decode cX6_ask 75 = .ok (.invokevirtual 96, 3) := by decide +kernel
theorem dX6_ask_78 : decode cX6_ask 78 = .ok (.goto 5, 3) := by decide +kernel
theorem dX6_ask_81 : decode cX6_ask 81 = .ok (.iload 5, 2) := by decide +kernel
theorem dX6_ask_83 : decode cX6_ask 83 = .ok (.ireturn, 1) := by decide +kernel
theorem dX6_see_0 : decode cX6_see 0 = .ok (.iload_n 1, 1) := by decide +kernel
theorem dX6_see_1 : decode cX6_see 1 = .ok (.invokestatic 226, 3) := by decide +kernel
theorem dX6_see_4 : decode cX6_see 4 = .ok (.ifCond .eq 19, 3) := by decide +kernel
theorem dX6_see_7 : decode cX6_see 7 = .ok (.iload_n 2, 1) := by decide +kernel
theorem dX6_see_8 : decode cX6_see 8 = .ok (.ifCond .lt 15, 3) := by decide +kernel
theorem dX6_see_11 : decode cX6_see 11 = .ok (.iload_n 2, 1) := by decide +kernel
theorem dX6_see_12 : decode cX6_see 12 = .ok (.iconst 2, 1) := by decide +kernel
theorem dX6_see_13 : decode cX6_see 13 = .ok (.if_icmp .gt 10, 3) := by decide +kernel
theorem dX6_see_16 : decode cX6_see 16 = .ok (.iload_n 3, 1) := by decide +kernel
theorem dX6_see_17 : decode cX6_see 17 = .ok (.invokestatic 68, 3) := by decide +kernel
theorem dX6_see_20 : decode cX6_see 20 = .ok (.ifCond .ne 5, 3) := by decide +kernel
theorem dX6_see_23 : decode cX6_see 23 = .ok (.iconst (-1), 1) := by decide +kernel
theorem dX6_see_24 : decode cX6_see 24 = .ok (.ireturn, 1) := by decide +kernel
theorem dX6_see_25 : decode cX6_see 25 = .ok (.aload_n 0, 1) := by decide +kernel
theorem dX6_see_26 : decode cX6_see 26 = .ok (.getfield 10, 3) := by decide +kernel
theorem dX6_see_29 : decode cX6_see 29 = .ok (.getfield 230, 3) := by decide +kernel
theorem dX6_see_32 : decode cX6_see 32 = .ok (.iload_n 1, 1) := by decide +kernel
theorem dX6_see_33 : decode cX6_see 33 = .ok (.aaload, 1) := by decide +kernel
theorem dX6_see_34 : decode cX6_see 34 = .ok (.astore 4, 2) := by decide +kernel
theorem dX6_see_36 : decode cX6_see 36 = .ok (.aload_n 0, 1) := by decide +kernel
theorem dX6_see_37 : decode cX6_see 37 = .ok (.getfield 10, 3) := by decide +kernel
theorem dX6_see_40 : decode cX6_see 40 = .ok (.getfield 72, 3) := by decide +kernel
theorem dX6_see_43 : decode cX6_see 43 = .ok (.iload_n 3, 1) := by decide +kernel
theorem dX6_see_44 : decode cX6_see 44 = .ok (.aaload, 1) := by decide +kernel
theorem dX6_see_45 : decode cX6_see 45 = .ok (.iload_n 2, 1) := by decide +kernel
theorem dX6_see_46 : decode cX6_see 46 = .ok (.iconst 2, 1) := by decide +kernel
theorem dX6_see_47 : decode cX6_see 47 = .ok (.if_icmp .ne 11, 3) := by decide +kernel
theorem dX6_see_50 : decode cX6_see 50 = .ok (.aload 4, 2) := by decide +kernel
theorem dX6_see_52 : decode cX6_see 52 = .ok (.getfield 260, 3) := by decide +kernel
theorem dX6_see_55 : decode cX6_see 55 = .ok (.goto 10, 3) := by decide +kernel
theorem dX6_see_58 : decode cX6_see 58 = .ok (.aload 4, 2) := by decide +kernel
theorem dX6_see_60 : decode cX6_see 60 = .ok (.getfield 263, 3) := by decide +kernel
theorem dX6_see_63 : decode cX6_see 63 = .ok (.iload_n 2, 1) := by decide +kernel
theorem dX6_see_64 : decode cX6_see 64 = .ok (.aaload, 1) := by decide +kernel
theorem dX6_see_65 : decode cX6_see 65 = .ok (.invokevirtual 86, 3) := by decide +kernel
theorem dX6_see_68 : decode cX6_see 68 = .ok (.iconst 1, 1) := by decide +kernel
theorem dX6_see_69 : decode cX6_see 69 = .ok (.ireturn, 1) := by decide +kernel
theorem dX6_later_0 : decode cX6_later 0 = .ok (.iload_n 1, 1) := by decide +kernel
theorem dX6_later_1 : decode cX6_later 1 = .ok (.ifCond .lt 8, 3) := by decide +kernel
theorem dX6_later_4 : decode cX6_later 4 = .ok (.iload_n 1, 1) := by decide +kernel
theorem dX6_later_5 : decode cX6_later 5 = .ok (.iconst 5, 1) := by decide +kernel
theorem dX6_later_6 : decode cX6_later 6 = .ok (.if_icmp .lt 5, 3) := by decide +kernel
theorem dX6_later_9 : decode cX6_later 9 = .ok (.iconst (-1), 1) := by decide +kernel
theorem dX6_later_10 : decode cX6_later 10 = .ok (.ireturn, 1) := by decide +kernel
theorem dX6_later_11 : decode cX6_later 11 = .ok (.aload_n 0, 1) := by decide +kernel
theorem dX6_later_12 : decode cX6_later 12 = .ok (.getfield 52, 3) := by decide +kernel
theorem dX6_later_15 : decode cX6_later 15 = .ok (.bipush 12, 2) := by decide +kernel
theorem dX6_later_17 : decode cX6_later 17 = .ok (.if_icmp .lt 6, 3) := by decide +kernel
theorem dX6_later_20 : decode cX6_later 20 = .ok (.bipush (-2), 2) := by decide +kernel
theorem dX6_later_22 : decode cX6_later 22 = .ok (.ireturn, 1) := by decide +kernel
theorem dX6_later_23 : decode cX6_later 23 = .ok (.aload_n 0, 1) := by decide +kernel
theorem dX6_later_24 : decode cX6_later 24 = .ok (.getfield 49, 3) := by decide +kernel
theorem dX6_later_27 : decode cX6_later 27 = .ok (.aload_n 0, 1) := by decide +kernel
theorem dX6_later_28 : decode cX6_later 28 = .ok (.getfield 52, 3) := by decide +kernel
theorem dX6_later_31 : decode cX6_later 31 = .ok (.aaload, 1) := by decide +kernel
theorem dX6_later_32 : decode cX6_later 32 = .ok (.iconst 0, 1) := by decide +kernel
theorem dX6_later_33 : decode cX6_later 33 = .ok (.iload_n 1, 1) := by decide +kernel
theorem dX6_later_34 : decode cX6_later 34 = .ok (.iastore, 1) := by decide +kernel
theorem dX6_later_35 : decode cX6_later 35 = .ok (.aload_n 0, 1) := by decide +kernel
theorem dX6_later_36 : decode cX6_later 36 = .ok (.getfield 49, 3) := by decide +kernel
theorem dX6_later_39 : decode cX6_later 39 = .ok (.aload_n 0, 1) := by decide +kernel
theorem dX6_later_40 : decode cX6_later 40 = .ok (.getfield 52, 3) := by decide +kernel
theorem dX6_later_43 : decode cX6_later 43 = .ok (.aaload, 1) := by decide +kernel
theorem dX6_later_44 : decode cX6_later 44 = .ok (.iconst 1, 1) := by decide +kernel
theorem dX6_later_45 : decode cX6_later 45 = .ok (.iload_n 2, 1) := by decide +kernel
theorem dX6_later_46 : decode cX6_later 46 = .ok (.iastore, 1) := by decide +kernel
theorem dX6_later_47 : decode cX6_later 47 = .ok (.aload_n 0, 1) := by decide +kernel
theorem dX6_later_48 : decode cX6_later 48 = .ok (.getfield 49, 3) := by decide +kernel
theorem dX6_later_51 : decode cX6_later 51 = .ok (.aload_n 0, 1) := by decide +kernel
theorem dX6_later_52 : decode cX6_later 52 = .ok (.getfield 52, 3) := by decide +kernel
theorem dX6_later_55 : decode cX6_later 55 = .ok (.aaload, 1) := by decide +kernel
theorem dX6_later_56 : decode cX6_later 56 = .ok (.iconst 2, 1) := by decide +kernel
theorem dX6_later_57 : decode cX6_later 57 = .ok (.iload_n 3, 1) := by decide +kernel
theorem dX6_later_58 : decode cX6_later 58 = .ok (.iastore, 1) := by decide +kernel
theorem dX6_later_59 : decode cX6_later 59 = .ok (.aload_n 0, 1) := by decide +kernel
theorem dX6_later_60 : decode cX6_later 60 = .ok (.getfield 49, 3) := by decide +kernel
theorem dX6_later_63 : decode cX6_later 63 = .ok (.aload_n 0, 1) := by decide +kernel
theorem dX6_later_64 : decode cX6_later 64 = .ok (.getfield 52, 3) := by decide +kernel
theorem dX6_later_67 : decode cX6_later 67 = .ok (.aaload, 1) := by decide +kernel
theorem dX6_later_68 : decode cX6_later 68 = .ok (.iconst 3, 1) := by decide +kernel
theorem dX6_later_69 : decode cX6_later 69 = .ok (.iload 4, 2) := by decide +kernel
theorem dX6_later_71 : decode cX6_later 71 = .ok (.iastore, 1) := by decide +kernel
theorem dX6_later_72 : decode cX6_later 72 = .ok (.aload_n 0, 1) := by decide +kernel
theorem dX6_later_73 : decode cX6_later 73 = .ok (.dup, 1) := by decide +kernel
theorem dX6_later_74 : decode cX6_later 74 = .ok (.getfield 52, 3) := by decide +kernel
theorem dX6_later_77 : decode cX6_later 77 = .ok (.iconst 1, 1) := by decide +kernel
theorem dX6_later_78 : decode cX6_later 78 = .ok (.iadd, 1) := by decide +kernel
theorem dX6_later_79 : decode cX6_later 79 = .ok (.putfield 52, 3) := by decide +kernel
theorem dX6_later_82 : decode cX6_later 82 = .ok (.aload_n 0, 1) := by decide +kernel
theorem dX6_later_83 : decode cX6_later 83 = .ok (.getfield 52, 3) := by decide +kernel
theorem dX6_later_86 : decode cX6_later 86 = .ok (.ireturn, 1) := by decide +kernel
theorem dX6_done_0 : decode cX6_done 0 = .ok (.aload_n 0, 1) := by decide +kernel
theorem dX6_done_1 : decode cX6_done 1 = .ok (.getfield 52, 3) := by decide +kernel
theorem dX6_done_4 : decode cX6_done 4 = .ok (.istore_n 1, 1) := by decide +kernel
theorem dX6_done_5 : decode cX6_done 5 = .ok (.aload_n 0, 1) := by decide +kernel
theorem dX6_done_6 : decode cX6_done 6 = .ok (.iconst 0, 1) := by decide +kernel
theorem dX6_done_7 : decode cX6_done 7 = .ok (.putfield 52, 3) := by decide +kernel
theorem dX6_done_10 : decode cX6_done 10 = .ok (.aload_n 0, 1) := by decide +kernel
theorem dX6_done_11 : decode cX6_done 11 = .ok (.iconst 0, 1) := by decide +kernel
theorem dX6_done_12 : decode cX6_done 12 = .ok (.putfield 65, 3) := by decide +kernel
theorem dX6_done_15 : decode cX6_done 15 = .ok (.aload_n 0, 1) := by decide +kernel
theorem dX6_done_16 : decode cX6_done 16 = .ok (.getfield 16, 3) := by decide +kernel
theorem dX6_done_19 : decode cX6_done 19 = .ok (.aload_n 0, 1) := by decide +kernel
theorem dX6_done_20 : decode cX6_done 20 = .ok (.getfield 10, 3) := by decide +kernel
theorem dX6_done_23 : decode cX6_done 23 = .ok (.invokevirtual 266, 3) := by decide +kernel
theorem dX6_done_26 : decode cX6_done 26 = .ok (.iconst 0, 1) := by decide +kernel
theorem dX6_done_27 : decode cX6_done 27 = .ok (.istore_n 2, 1) := by decide +kernel
theorem dX6_done_28 : decode cX6_done 28 = .ok (.iload_n 2, 1) := by decide +kernel
theorem dX6_done_29 : decode cX6_done 29 = .ok (.iload_n 1, 1) := by decide +kernel
theorem dX6_done_30 : decode cX6_done 30 = .ok (.if_icmp .ge 92, 3) := by decide +kernel
theorem dX6_done_33 : decode cX6_done 33 = .ok (.aload_n 0, 1) := by decide +kernel
theorem dX6_done_34 : decode cX6_done 34 = .ok (.dup, 1) := by decide +kernel
theorem dX6_done_35 : decode cX6_done 35 = .ok (.getfield 62, 3) := by decide +kernel
theorem dX6_done_38 : decode cX6_done 38 = .ok (.iconst 1, 1) := by decide +kernel
theorem dX6_done_39 : decode cX6_done 39 = .ok (.iadd, 1) := by decide +kernel
theorem dX6_done_40 : decode cX6_done 40 = .ok (.putfield 62, 3) := by decide +kernel
theorem dX6_done_43 : decode cX6_done 43 = .ok (.aload_n 0, 1) := by decide +kernel
theorem dX6_done_44 : decode cX6_done 44 = .ok (.aload_n 0, 1) := by decide +kernel
theorem dX6_done_45 : decode cX6_done 45 = .ok (.getfield 49, 3) := by decide +kernel
theorem dX6_done_48 : decode cX6_done 48 = .ok (.iload_n 2, 1) := by decide +kernel
theorem dX6_done_49 : decode cX6_done 49 = .ok (.aaload, 1) := by decide +kernel
theorem dX6_done_50 : decode cX6_done 50 = .ok (.iconst 0, 1) := by decide +kernel
theorem dX6_done_51 : decode cX6_done 51 = .ok (.iaload, 1) := by decide +kernel
theorem dX6_done_52 : decode cX6_done 52 = .ok (.aload_n 0, 1) := by decide +kernel
theorem dX6_done_53 : decode cX6_done 53 = .ok (.getfield 49, 3) := by decide +kernel
theorem dX6_done_56 : decode cX6_done 56 = .ok (.iload_n 2, 1) := by decide +kernel
theorem dX6_done_57 : decode cX6_done 57 = .ok (.aaload, 1) := by decide +kernel
theorem dX6_done_58 : decode cX6_done 58 = .ok (.iconst 1, 1) := by decide +kernel
theorem dX6_done_59 : decode cX6_done 59 = .ok (.iaload, 1) := by decide +kernel
theorem dX6_done_60 : decode cX6_done 60 = .ok (.aload_n 0, 1) := by decide +kernel
theorem dX6_done_61 : decode cX6_done 61 = .ok (.getfield 49, 3) := by decide +kernel
theorem dX6_done_64 : decode cX6_done 64 = .ok (.iload_n 2, 1) := by decide +kernel
theorem dX6_done_65 : decode cX6_done 65 = .ok (.aaload, 1) := by decide +kernel
theorem dX6_done_66 : decode cX6_done 66 = .ok (.iconst 2, 1) := by decide +kernel
theorem dX6_done_67 : decode cX6_done 67 = .ok (.iaload, 1) := by decide +kernel
theorem dX6_done_68 : decode cX6_done 68 = .ok (.aload_n 0, 1) := by decide +kernel
theorem dX6_done_69 : decode cX6_done 69 = .ok (.getfield 49, 3) := by decide +kernel
theorem dX6_done_72 : decode cX6_done 72 = .ok (.iload_n 2, 1) := by decide +kernel
theorem dX6_done_73 : decode cX6_done 73 = .ok (.aaload, 1) := by decide +kernel
theorem dX6_done_74 : decode cX6_done 74 = .ok (.iconst 3, 1) := by decide +kernel
theorem dX6_done_75 : decode cX6_done 75 = .ok (.iaload, 1) := by decide +kernel
theorem dX6_done_76 : decode cX6_done 76 = .ok (.invokevirtual 269, 3) := by decide +kernel
theorem dX6_done_79 : decode cX6_done 79 = .ok (.istore_n 3, 1) := by decide +kernel
theorem dX6_done_80 : decode cX6_done 80 = .ok (.iload_n 3, 1) := by decide +kernel
theorem dX6_done_81 : decode cX6_done 81 = .ok (.iconst 1, 1) := by decide +kernel
theorem dX6_done_82 : decode cX6_done 82 = .ok (.if_icmp .eq 34, 3) := by decide +kernel
theorem dX6_done_85 : decode cX6_done 85 = .ok (.aload_n 0, 1) := by decide +kernel
theorem dX6_done_86 : decode cX6_done 86 = .ok (.getfield 10, 3) := by decide +kernel
theorem dX6_done_89 : decode cX6_done 89 = .ok (.aload_n 0, 1) := by decide +kernel
theorem dX6_done_90 : decode cX6_done 90 = .ok (.getfield 16, 3) := by decide +kernel
theorem dX6_done_93 : decode cX6_done 93 = .ok (.invokevirtual 266, 3) := by decide +kernel
theorem dX6_done_96 : decode cX6_done 96 = .ok (.aload_n 0, 1) := by decide +kernel
theorem dX6_done_97 : decode cX6_done 97 = .ok (.iload_n 3, 1) := by decide +kernel
theorem dX6_done_98 : decode cX6_done 98 = .ok (.bipush (-5), 2) := by decide +kernel
theorem dX6_done_100 : decode cX6_done 100 = .ok (.if_icmp .ne 7, 3) := by decide +kernel
theorem dX6_done_103 : decode cX6_done 103 = .ok (.iconst 1, 1) := by decide +kernel
theorem dX6_done_104 : decode cX6_done 104 = .ok (.goto 4, 3) := by decide +kernel
theorem dX6_done_107 : decode cX6_done 107 = .ok (.iload_n 3, 1) := by decide +kernel
theorem dX6_done_108 : decode cX6_done 108 = .ok (.putfield 65, 3) := by decide +kernel
theorem dX6_done_111 : decode cX6_done 111 = .ok (.bipush (-10), 2) := by decide +kernel
theorem dX6_done_113 : decode cX6_done 113 = .ok (.iload_n 2, 1) := by decide +kernel
theorem dX6_done_114 : decode cX6_done 114 = .ok (.isub, 1) := by decide +kernel
theorem dX6_done_115 : decode cX6_done 115 = .ok (.ireturn, 1) := by decide +kernel
theorem dX6_done_116 : decode cX6_done 116 = .ok (.iinc 2 1, 3) := by decide +kernel
theorem dX6_done_119 : decode cX6_done 119 = .ok (.goto (-91), 3) := by decide +kernel
theorem dX6_done_122 : decode cX6_done 122 = .ok (.iload_n 1, 1) := by decide +kernel
theorem dX6_done_123 : decode cX6_done 123 = .ok (.ireturn, 1) := by decide +kernel
theorem dX6_tries_0 : decode cX6_tries 0 = .ok (.aload_n 0, 1) := by decide +kernel
theorem dX6_tries_1 : decode cX6_tries 1 = .ok (.getfield 62, 3) := by decide +kernel
theorem dX6_tries_4 : decode cX6_tries 4 = .ok (.ireturn, 1) := by decide +kernel
theorem dX6_why_0 : decode cX6_why 0 = .ok (.aload_n 0, 1) := by decide +kernel
theorem dX6_why_1 : decode cX6_why 1 = .ok (.getfield 65, 3) := by decide +kernel
theorem dX6_why_4 : decode cX6_why 4 = .ok (.ireturn, 1) := by decide +kernel
theorem dX6_isRegister_0 : decode cX6_isRegister 0 = .ok (.iload_n 0, 1) := by decide +kernel
theorem dX6_isRegister_1 : decode cX6_isRegister 1 = .ok (.ifCond .lt 13, 3) := by decide +kernel
theorem dX6_isRegister_4 : decode cX6_isRegister 4 = .ok (.iload_n 0, 1) := by decide +kernel
theorem dX6_isRegister_5 : decode cX6_isRegister 5 = .ok (.bipush 16, 2) := by decide +kernel
theorem dX6_isRegister_7 : decode cX6_isRegister 7 = .ok (.if_icmp .ge 7, 3) := by decide +kernel
theorem dX6_isRegister_10 : decode cX6_isRegister 10 = .ok (.iconst 1, 1) := by decide +kernel
theorem dX6_isRegister_11 : decode cX6_isRegister 11 = .ok (.goto 4, 3) := by decide +kernel
theorem dX6_isRegister_14 : decode cX6_isRegister 14 = .ok (.iconst 0, 1) := by decide +kernel
theorem dX6_isRegister_15 : decode cX6_isRegister 15 = .ok (.ireturn, 1) := by decide +kernel
theorem dX6_areRegisters_0 : decode cX6_areRegisters 0 = .ok (.iload_n 0, 1) := by decide +kernel
theorem dX6_areRegisters_1 : decode cX6_areRegisters 1 = .ok (.invokestatic 68, 3) := by decide +kernel
theorem dX6_areRegisters_4 : decode cX6_areRegisters 4 = .ok (.ifCond .eq 21, 3) := by decide +kernel
theorem dX6_areRegisters_7 : decode cX6_areRegisters 7 = .ok (.iload_n 1, 1) := by decide +kernel
theorem dX6_areRegisters_8 : decode cX6_areRegisters 8 = .ok (.invokestatic 68, 3) := by decide +kernel
theorem dX6_areRegisters_11 : decode cX6_areRegisters 11 = .ok (.ifCond .eq 14, 3) := by decide +kernel
theorem dX6_areRegisters_14 : decode cX6_areRegisters 14 = .ok (.iload_n 2, 1) := by decide +kernel
theorem dX6_areRegisters_15 : decode cX6_areRegisters 15 = .ok (.invokestatic 68, 3) := by decide +kernel
theorem dX6_areRegisters_18 : decode cX6_areRegisters 18 = .ok (.ifCond .eq 7, 3) := by decide +kernel
theorem dX6_areRegisters_21 : decode cX6_areRegisters 21 = .ok (.iconst 1, 1) := by decide +kernel
theorem dX6_areRegisters_22 : decode cX6_areRegisters 22 = .ok (.goto 4, 3) := by decide +kernel
theorem dX6_areRegisters_25 : decode cX6_areRegisters 25 = .ok (.iconst 0, 1) := by decide +kernel
theorem dX6_areRegisters_26 : decode cX6_areRegisters 26 = .ok (.ireturn, 1) := by decide +kernel
theorem dX6_isPool_0 : decode cX6_isPool 0 = .ok (.iload_n 0, 1) := by decide +kernel
theorem dX6_isPool_1 : decode cX6_isPool 1 = .ok (.ifCond .lt 12, 3) := by decide +kernel
theorem dX6_isPool_4 : decode cX6_isPool 4 = .ok (.iload_n 0, 1) := by decide +kernel
theorem dX6_isPool_5 : decode cX6_isPool 5 = .ok (.iconst 4, 1) := by decide +kernel
theorem dX6_isPool_6 : decode cX6_isPool 6 = .ok (.if_icmp .ge 7, 3) := by decide +kernel
theorem dX6_isPool_9 : decode cX6_isPool 9 = .ok (.iconst 1, 1) := by decide +kernel
theorem dX6_isPool_10 : decode cX6_isPool 10 = .ok (.goto 4, 3) := by decide +kernel
theorem dX6_isPool_13 : decode cX6_isPool 13 = .ok (.iconst 0, 1) := by decide +kernel
theorem dX6_isPool_14 : decode cX6_isPool 14 = .ok (.ireturn, 1) := by decide +kernel
theorem dX6_isSide_0 : decode cX6_isSide 0 = .ok (.iload_n 0, 1) := by decide +kernel
theorem dX6_isSide_1 : decode cX6_isSide 1 = .ok (.ifCond .eq 8, 3) := by decide +kernel
theorem dX6_isSide_4 : decode cX6_isSide 4 = .ok (.iload_n 0, 1) := by decide +kernel
theorem dX6_isSide_5 : decode cX6_isSide 5 = .ok (.iconst 1, 1) := by decide +kernel
theorem dX6_isSide_6 : decode cX6_isSide 6 = .ok (.if_icmp .ne 7, 3) := by decide +kernel
theorem dX6_isSide_9 : decode cX6_isSide 9 = .ok (.iconst 1, 1) := by decide +kernel
theorem dX6_isSide_10 : decode cX6_isSide 10 = .ok (.goto 4, 3) := by decide +kernel
theorem dX6_isSide_13 : decode cX6_isSide 13 = .ok (.iconst 0, 1) := by decide +kernel
theorem dX6_isSide_14 : decode cX6_isSide 14 = .ok (.ireturn, 1) := by decide +kernel
theorem dX6_isWay_0 : decode cX6_isWay 0 = .ok (.iload_n 0, 1) := by decide +kernel
theorem dX6_isWay_1 : decode cX6_isWay 1 = .ok (.ifCond .lt 12, 3) := by decide +kernel
theorem dX6_isWay_4 : decode cX6_isWay 4 = .ok (.iload_n 0, 1) := by decide +kernel
theorem dX6_isWay_5 : decode cX6_isWay 5 = .ok (.iconst 5, 1) := by decide +kernel
theorem dX6_isWay_6 : decode cX6_isWay 6 = .ok (.if_icmp .ge 7, 3) := by decide +kernel
theorem dX6_isWay_9 : decode cX6_isWay 9 = .ok (.iconst 1, 1) := by decide +kernel
theorem dX6_isWay_10 : decode cX6_isWay 10 = .ok (.goto 4, 3) := by decide +kernel
theorem dX6_isWay_13 : decode cX6_isWay 13 = .ok (.iconst 0, 1) := by decide +kernel
theorem dX6_isWay_14 : decode cX6_isWay 14 = .ok (.ireturn, 1) := by decide +kernel
theorem dX6_powerOfTen_0 : decode cX6_powerOfTen 0 = .ok (.lconst 1, 1) := by decide +kernel
theorem dX6_powerOfTen_1 : decode cX6_powerOfTen 1 = .ok (.lstore_n 1, 1) := by decide +kernel
theorem dX6_powerOfTen_2 : decode cX6_powerOfTen 2 = .ok (.iconst 0, 1) := by decide +kernel
theorem dX6_powerOfTen_3 : decode cX6_powerOfTen 3 = .ok (.istore_n 3, 1) := by decide +kernel
theorem dX6_powerOfTen_4 : decode cX6_powerOfTen 4 = .ok (.iload_n 3, 1) := by decide +kernel
theorem dX6_powerOfTen_5 : decode cX6_powerOfTen 5 = .ok (.iload_n 0, 1) := by decide +kernel
theorem dX6_powerOfTen_6 : decode cX6_powerOfTen 6 = .ok (.if_icmp .ge 15, 3) := by decide +kernel
theorem dX6_powerOfTen_9 : decode cX6_powerOfTen 9 = .ok (.lload_n 1, 1) := by decide +kernel
theorem dX6_powerOfTen_10 : decode cX6_powerOfTen 10 = .ok (.ldc2_w 273, 3) := by decide +kernel
theorem dX6_powerOfTen_13 : decode cX6_powerOfTen 13 = .ok (.lmul, 1) := by decide +kernel
theorem dX6_powerOfTen_14 : decode cX6_powerOfTen 14 = .ok (.lstore_n 1, 1) := by decide +kernel
theorem dX6_powerOfTen_15 : decode cX6_powerOfTen 15 = .ok (.iinc 3 1, 3) := by decide +kernel
theorem dX6_powerOfTen_18 : decode cX6_powerOfTen 18 = .ok (.goto (-14), 3) := by decide +kernel
theorem dX6_powerOfTen_21 : decode cX6_powerOfTen 21 = .ok (.lload_n 1, 1) := by decide +kernel
theorem dX6_powerOfTen_22 : decode cX6_powerOfTen 22 = .ok (.lreturn, 1) := by decide +kernel
theorem dX6_keepSum_0 : decode cX6_keepSum 0 = .ok (.aload_n 2, 1) := by decide +kernel
theorem dX6_keepSum_1 : decode cX6_keepSum 1 = .ok (.invokevirtual 275, 3) := by decide +kernel
theorem dX6_keepSum_4 : decode cX6_keepSum 4 = .ok (.ifCond .ne 6, 3) := by decide +kernel
theorem dX6_keepSum_7 : decode cX6_keepSum 7 = .ok (.bipush (-2), 2) := by decide +kernel
theorem dX6_keepSum_9 : decode cX6_keepSum 9 = .ok (.ireturn, 1) := by decide +kernel
theorem dX6_keepSum_10 : decode cX6_keepSum 10 = .ok (.aload_n 0, 1) := by decide +kernel
theorem dX6_keepSum_11 : decode cX6_keepSum 11 = .ok (.getfield 10, 3) := by decide +kernel
theorem dX6_keepSum_14 : decode cX6_keepSum 14 = .ok (.getfield 72, 3) := by decide +kernel
theorem dX6_keepSum_17 : decode cX6_keepSum 17 = .ok (.iload_n 1, 1) := by decide +kernel
theorem dX6_keepSum_18 : decode cX6_keepSum 18 = .ok (.aaload, 1) := by decide +kernel
theorem dX6_keepSum_19 : decode cX6_keepSum 19 = .ok (.aload_n 2, 1) := by decide +kernel
theorem dX6_keepSum_20 : decode cX6_keepSum 20 = .ok (.invokevirtual 86, 3) := by decide +kernel
theorem dX6_keepSum_23 : decode cX6_keepSum 23 = .ok (.iconst 1, 1) := by decide +kernel
theorem dX6_keepSum_24 : decode cX6_keepSum 24 = .ok (.ireturn, 1) := by decide +kernel
theorem dX6_timesOrThrew_0 : decode cX6_timesOrThrew 0 = .ok (.iload_n 1, 1) := by decide +kernel
theorem dX6_timesOrThrew_1 : decode cX6_timesOrThrew 1 = .ok (.invokestatic 68, 3) := by decide +kernel
theorem dX6_timesOrThrew_4 : decode cX6_timesOrThrew 4 = .ok (.ifCond .eq 31, 3) := by decide +kernel
theorem dX6_timesOrThrew_7 : decode cX6_timesOrThrew 7 = .ok (.iload_n 2, 1) := by decide +kernel
theorem dX6_timesOrThrew_8 : decode cX6_timesOrThrew 8 = .ok (.invokestatic 68, 3) := by decide +kernel
theorem dX6_timesOrThrew_11 : decode cX6_timesOrThrew 11 = .ok (.ifCond .eq 24, 3) := by decide +kernel
theorem dX6_timesOrThrew_14 : decode cX6_timesOrThrew 14 = .ok (.iload 7, 2) := by decide +kernel
theorem dX6_timesOrThrew_16 : decode cX6_timesOrThrew 16 = .ok (.invokestatic 131, 3) := by decide +kernel
theorem dX6_timesOrThrew_19 : decode cX6_timesOrThrew 19 = .ok (.ifCond .eq 16, 3) := by decide +kernel
theorem dX6_timesOrThrew_22 : decode cX6_timesOrThrew 22 = .ok (.lload_n 3, 1) := by decide +kernel
theorem dX6_timesOrThrew_23 : decode cX6_timesOrThrew 23 = .ok (.lconst 0, 1) := by decide +kernel
theorem dX6_timesOrThrew_24 : decode cX6_timesOrThrew 24 = .ok (.lcmp, 1) := by decide +kernel
theorem dX6_timesOrThrew_25 : decode cX6_timesOrThrew 25 = .ok (.ifCond .lt 10, 3) := by decide +kernel
theorem dX6_timesOrThrew_28 : decode cX6_timesOrThrew 28 = .ok (.lload 5, 2) := by decide +kernel
theorem dX6_timesOrThrew_30 : decode cX6_timesOrThrew 30 = .ok (.lconst 0, 1) := by decide +kernel
theorem dX6_timesOrThrew_31 : decode cX6_timesOrThrew 31 = .ok (.lcmp, 1) := by decide +kernel
theorem dX6_timesOrThrew_32 : decode cX6_timesOrThrew 32 = .ok (.ifCond .ge 5, 3) := by decide +kernel
theorem dX6_timesOrThrew_35 : decode cX6_timesOrThrew 35 = .ok (.iconst (-1), 1) := by decide +kernel
theorem dX6_timesOrThrew_36 : decode cX6_timesOrThrew 36 = .ok (.ireturn, 1) := by decide +kernel
theorem dX6_timesOrThrew_37 : decode cX6_timesOrThrew 37 = .ok (.lload 5, 2) := by decide +kernel
theorem dX6_timesOrThrew_39 : decode cX6_timesOrThrew 39 = .ok (.lconst 0, 1) := by decide +kernel
theorem dX6_timesOrThrew_40 : decode cX6_timesOrThrew 40 = .ok (.lcmp, 1) := by decide +kernel
theorem dX6_timesOrThrew_41 : decode cX6_timesOrThrew 41 = .ok (.ifCond .ne 6, 3) := by decide +kernel
theorem dX6_timesOrThrew_44 : decode cX6_timesOrThrew 44 = .ok (.bipush (-5), 2) := by decide +kernel
theorem dX6_timesOrThrew_46 : decode cX6_timesOrThrew 46 = .ok (.ireturn, 1) := by decide +kernel
theorem dX6_timesOrThrew_47 : decode cX6_timesOrThrew 47 = .ok (.aload_n 0, 1) := by decide +kernel
theorem dX6_timesOrThrew_48 : decode cX6_timesOrThrew 48 = .ok (.getfield 22, 3) := by decide +kernel
theorem dX6_timesOrThrew_51 : decode cX6_timesOrThrew 51 = .ok (.getfield 82, 3) := by decide +kernel
theorem dX6_timesOrThrew_54 : decode cX6_timesOrThrew 54 = .ok (.lload_n 3, 1) := by decide +kernel
theorem dX6_timesOrThrew_55 : decode cX6_timesOrThrew 55 = .ok (.invokevirtual 76, 3) := by decide +kernel
theorem dX6_timesOrThrew_58 : decode cX6_timesOrThrew 58 = .ok (.aload_n 0, 1) := by decide +kernel
theorem dX6_timesOrThrew_59 : decode cX6_timesOrThrew 59 = .ok (.getfield 22, 3) := by decide +kernel
theorem dX6_timesOrThrew_62 : decode cX6_timesOrThrew 62 = .ok (.getfield 134, 3) := by decide +kernel
theorem dX6_timesOrThrew_65 : decode cX6_timesOrThrew 65 = .ok (.aload_n 0, 1) := by decide +kernel
theorem dX6_timesOrThrew_66 : decode cX6_timesOrThrew 66 = .ok (.getfield 10, 3) := by decide +kernel
theorem dX6_timesOrThrew_69 : decode cX6_timesOrThrew 69 = .ok (.getfield 72, 3) := by decide +kernel
theorem dX6_timesOrThrew_72 : decode cX6_timesOrThrew 72 = .ok (.iload_n 2, 1) := by decide +kernel
theorem dX6_timesOrThrew_73 : decode cX6_timesOrThrew 73 = .ok (.aaload, 1) := by decide +kernel
theorem dX6_timesOrThrew_74 : decode cX6_timesOrThrew 74 = .ok (.aload_n 0, 1) := by decide +kernel
theorem dX6_timesOrThrew_75 : decode cX6_timesOrThrew 75 = .ok (.getfield 22, 3) := by decide +kernel
theorem dX6_timesOrThrew_78 : decode cX6_timesOrThrew 78 = .ok (.getfield 82, 3) := by decide +kernel
theorem dX6_timesOrThrew_81 : decode cX6_timesOrThrew 81 = .ok (.invokevirtual 153, 3) := by decide +kernel
theorem dX6_timesOrThrew_84 : decode cX6_timesOrThrew 84 = .ok (.aload_n 0, 1) := by decide +kernel
theorem dX6_timesOrThrew_85 : decode cX6_timesOrThrew 85 = .ok (.getfield 22, 3) := by decide +kernel
theorem dX6_timesOrThrew_88 : decode cX6_timesOrThrew 88 = .ok (.getfield 137, 3) := by decide +kernel
theorem dX6_timesOrThrew_91 : decode cX6_timesOrThrew 91 = .ok (.lload 5, 2) := by decide +kernel
theorem dX6_timesOrThrew_93 : decode cX6_timesOrThrew 93 = .ok (.invokevirtual 76, 3) := by decide +kernel
theorem dX6_timesOrThrew_96 : decode cX6_timesOrThrew 96 = .ok (.aload_n 0, 1) := by decide +kernel
theorem dX6_timesOrThrew_97 : decode cX6_timesOrThrew 97 = .ok (.getfield 22, 3) := by decide +kernel
theorem dX6_timesOrThrew_100 : decode cX6_timesOrThrew 100 = .ok (.invokevirtual 143, 3) := by decide +kernel
theorem dX6_timesOrThrew_103 : decode cX6_timesOrThrew 103 = .ok (.aload_n 0, 1) := by decide +kernel
theorem dX6_timesOrThrew_104 : decode cX6_timesOrThrew 104 = .ok (.getfield 22, 3) := by decide +kernel
theorem dX6_timesOrThrew_107 : decode cX6_timesOrThrew 107 = .ok (.iload 7, 2) := by decide +kernel
theorem dX6_timesOrThrew_109 : decode cX6_timesOrThrew 109 = .ok (.invokevirtual 146, 3) := by decide +kernel
theorem dX6_timesOrThrew_112 : decode cX6_timesOrThrew 112 = .ok (.aload_n 0, 1) := by decide +kernel
theorem dX6_timesOrThrew_113 : decode cX6_timesOrThrew 113 = .ok (.iload_n 1, 1) := by decide +kernel
theorem dX6_timesOrThrew_114 : decode cX6_timesOrThrew 114 = .ok (.aload_n 0, 1) := by decide +kernel
theorem dX6_timesOrThrew_115 : decode cX6_timesOrThrew 115 = .ok (.getfield 22, 3) := by decide +kernel
theorem dX6_timesOrThrew_118 : decode cX6_timesOrThrew 118 = .ok (.getfield 150, 3) := by decide +kernel
theorem dX6_timesOrThrew_121 : decode cX6_timesOrThrew 121 = .ok (.invokevirtual 96, 3) := by decide +kernel
theorem dX6_timesOrThrew_124 : decode cX6_timesOrThrew 124 = .ok (.ireturn, 1) := by decide +kernel
theorem dX6_divideOrThrew_0 : decode cX6_divideOrThrew 0 = .ok (.iload_n 1, 1) := by decide +kernel
theorem dX6_divideOrThrew_1 : decode cX6_divideOrThrew 1 = .ok (.iload_n 2, 1) := by decide +kernel
theorem dX6_divideOrThrew_2 : decode cX6_divideOrThrew 2 = .ok (.iload_n 3, 1) := by decide +kernel
theorem dX6_divideOrThrew_3 : decode cX6_divideOrThrew 3 = .ok (.invokestatic 106, 3) := by decide +kernel
theorem dX6_divideOrThrew_6 : decode cX6_divideOrThrew 6 = .ok (.ifCond .ne 5, 3) := by decide +kernel
theorem dX6_divideOrThrew_9 : decode cX6_divideOrThrew 9 = .ok (.iconst (-1), 1) := by decide +kernel
theorem dX6_divideOrThrew_10 : decode cX6_divideOrThrew 10 = .ok (.ireturn, 1) := by decide +kernel
theorem dX6_divideOrThrew_11 : decode cX6_divideOrThrew 11 = .ok (.aload_n 0, 1) := by decide +kernel
theorem dX6_divideOrThrew_12 : decode cX6_divideOrThrew 12 = .ok (.getfield 10, 3) := by decide +kernel
theorem dX6_divideOrThrew_15 : decode cX6_divideOrThrew 15 = .ok (.getfield 72, 3) := by decide +kernel
theorem dX6_divideOrThrew_18 : decode cX6_divideOrThrew 18 = .ok (.iload_n 3, 1) := by decide +kernel
theorem dX6_divideOrThrew_19 : decode cX6_divideOrThrew 19 = .ok (.aaload, 1) := by decide +kernel
theorem dX6_divideOrThrew_20 : decode cX6_divideOrThrew 20 = .ok (.invokevirtual 278, 3) := by decide +kernel
theorem dX6_divideOrThrew_23 : decode cX6_divideOrThrew 23 = .ok (.ifCond .eq 6, 3) := by decide +kernel
theorem dX6_divideOrThrew_26 : decode cX6_divideOrThrew 26 = .ok (.bipush (-5), 2) := by decide +kernel
theorem dX6_divideOrThrew_28 : decode cX6_divideOrThrew 28 = .ok (.ireturn, 1) := by decide +kernel
theorem dX6_divideOrThrew_29 : decode cX6_divideOrThrew 29 = .ok (.aload_n 0, 1) := by decide +kernel
theorem dX6_divideOrThrew_30 : decode cX6_divideOrThrew 30 = .ok (.getfield 22, 3) := by decide +kernel
theorem dX6_divideOrThrew_33 : decode cX6_divideOrThrew 33 = .ok (.getfield 134, 3) := by decide +kernel
theorem dX6_divideOrThrew_36 : decode cX6_divideOrThrew 36 = .ok (.aload_n 0, 1) := by decide +kernel
theorem dX6_divideOrThrew_37 : decode cX6_divideOrThrew 37 = .ok (.getfield 10, 3) := by decide +kernel
theorem dX6_divideOrThrew_40 : decode cX6_divideOrThrew 40 = .ok (.getfield 72, 3) := by decide +kernel
theorem dX6_divideOrThrew_43 : decode cX6_divideOrThrew 43 = .ok (.iload_n 2, 1) := by decide +kernel
theorem dX6_divideOrThrew_44 : decode cX6_divideOrThrew 44 = .ok (.aaload, 1) := by decide +kernel
theorem dX6_divideOrThrew_45 : decode cX6_divideOrThrew 45 = .ok (.invokevirtual 86, 3) := by decide +kernel
theorem dX6_divideOrThrew_48 : decode cX6_divideOrThrew 48 = .ok (.aload_n 0, 1) := by decide +kernel
theorem dX6_divideOrThrew_49 : decode cX6_divideOrThrew 49 = .ok (.getfield 22, 3) := by decide +kernel
theorem dX6_divideOrThrew_52 : decode cX6_divideOrThrew 52 = .ok (.getfield 137, 3) := by decide +kernel
theorem dX6_divideOrThrew_55 : decode cX6_divideOrThrew 55 = .ok (.aload_n 0, 1) := by decide +kernel
theorem dX6_divideOrThrew_56 : decode cX6_divideOrThrew 56 = .ok (.getfield 10, 3) := by decide +kernel
theorem dX6_divideOrThrew_59 : decode cX6_divideOrThrew 59 = .ok (.getfield 72, 3) := by decide +kernel
theorem dX6_divideOrThrew_62 : decode cX6_divideOrThrew 62 = .ok (.iload_n 3, 1) := by decide +kernel
theorem dX6_divideOrThrew_63 : decode cX6_divideOrThrew 63 = .ok (.aaload, 1) := by decide +kernel
theorem dX6_divideOrThrew_64 : decode cX6_divideOrThrew 64 = .ok (.invokevirtual 86, 3) := by decide +kernel
theorem dX6_divideOrThrew_67 : decode cX6_divideOrThrew 67 = .ok (.aload_n 0, 1) := by decide +kernel
theorem dX6_divideOrThrew_68 : decode cX6_divideOrThrew 68 = .ok (.getfield 22, 3) := by decide +kernel
theorem dX6_divideOrThrew_71 : decode cX6_divideOrThrew 71 = .ok (.invokevirtual 143, 3) := by decide +kernel
theorem dX6_divideOrThrew_74 : decode cX6_divideOrThrew 74 = .ok (.aload_n 0, 1) := by decide +kernel
theorem dX6_divideOrThrew_75 : decode cX6_divideOrThrew 75 = .ok (.iload_n 1, 1) := by decide +kernel
theorem dX6_divideOrThrew_76 : decode cX6_divideOrThrew 76 = .ok (.aload_n 0, 1) := by decide +kernel
theorem dX6_divideOrThrew_77 : decode cX6_divideOrThrew 77 = .ok (.getfield 22, 3) := by decide +kernel
theorem dX6_divideOrThrew_80 : decode cX6_divideOrThrew 80 = .ok (.getfield 150, 3) := by decide +kernel
theorem dX6_divideOrThrew_83 : decode cX6_divideOrThrew 83 = .ok (.invokevirtual 96, 3) := by decide +kernel
theorem dX6_divideOrThrew_86 : decode cX6_divideOrThrew 86 = .ok (.ireturn, 1) := by decide +kernel
theorem dX6_weightOfFirst_0 : decode cX6_weightOfFirst 0 = .ok (.lconst 0, 1) := by decide +kernel
theorem dX6_weightOfFirst_1 : decode cX6_weightOfFirst 1 = .ok (.lstore_n 2, 1) := by decide +kernel
theorem dX6_weightOfFirst_2 : decode cX6_weightOfFirst 2 = .ok (.iconst 0, 1) := by decide +kernel
theorem dX6_weightOfFirst_3 : decode cX6_weightOfFirst 3 = .ok (.istore 4, 2) := by decide +kernel
theorem dX6_weightOfFirst_5 : decode cX6_weightOfFirst 5 = .ok (.iload 4, 2) := by decide +kernel
theorem dX6_weightOfFirst_7 : decode cX6_weightOfFirst 7 = .ok (.iload_n 1, 1) := by decide +kernel
theorem dX6_weightOfFirst_8 : decode cX6_weightOfFirst 8 = .ok (.if_icmp .ge 19, 3) := by decide +kernel
theorem dX6_weightOfFirst_11 : decode cX6_weightOfFirst 11 = .ok (.lload_n 2, 1) := by decide +kernel
theorem dX6_weightOfFirst_12 : decode cX6_weightOfFirst 12 = .ok (.aload_n 0, 1) := by decide +kernel
theorem dX6_weightOfFirst_13 : decode cX6_weightOfFirst 13 = .ok (.getfield 40, 3) := by decide +kernel
theorem dX6_weightOfFirst_16 : decode cX6_weightOfFirst 16 = .ok (.iload 4, 2) := by decide +kernel
theorem dX6_weightOfFirst_18 : decode cX6_weightOfFirst 18 = .ok (.laload, 1) := by decide +kernel
theorem dX6_weightOfFirst_19 : decode cX6_weightOfFirst 19 = .ok (.ladd, 1) := by decide +kernel
theorem dX6_weightOfFirst_20 : decode cX6_weightOfFirst 20 = .ok (.lstore_n 2, 1) := by decide +kernel
theorem dX6_weightOfFirst_21 : decode cX6_weightOfFirst 21 = .ok (.iinc 4 1, 3) := by decide +kernel
theorem dX6_weightOfFirst_24 : decode cX6_weightOfFirst 24 = .ok (.goto (-19), 3) := by decide +kernel
theorem dX6_weightOfFirst_27 : decode cX6_weightOfFirst 27 = .ok (.lload_n 2, 1) := by decide +kernel
theorem dX6_weightOfFirst_28 : decode cX6_weightOfFirst 28 = .ok (.lreturn, 1) := by decide +kernel
theorem dX6_greatestLost_0 : decode cX6_greatestLost 0 = .ok (.iconst 0, 1) := by decide +kernel
theorem dX6_greatestLost_1 : decode cX6_greatestLost 1 = .ok (.istore_n 2, 1) := by decide +kernel
theorem dX6_greatestLost_2 : decode cX6_greatestLost 2 = .ok (.iconst 1, 1) := by decide +kernel
theorem dX6_greatestLost_3 : decode cX6_greatestLost 3 = .ok (.istore_n 3, 1) := by decide +kernel
theorem dX6_greatestLost_4 : decode cX6_greatestLost 4 = .ok (.iload_n 3, 1) := by decide +kernel
theorem dX6_greatestLost_5 : decode cX6_greatestLost 5 = .ok (.iload_n 1, 1) := by decide +kernel
theorem dX6_greatestLost_6 : decode cX6_greatestLost 6 = .ok (.if_icmp .ge 27, 3) := by decide +kernel
theorem dX6_greatestLost_9 : decode cX6_greatestLost 9 = .ok (.aload_n 0, 1) := by decide +kernel
theorem dX6_greatestLost_10 : decode cX6_greatestLost 10 = .ok (.getfield 44, 3) := by decide +kernel
theorem dX6_greatestLost_13 : decode cX6_greatestLost 13 = .ok (.iload_n 3, 1) := by decide +kernel
theorem dX6_greatestLost_14 : decode cX6_greatestLost 14 = .ok (.laload, 1) := by decide +kernel
theorem dX6_greatestLost_15 : decode cX6_greatestLost 15 = .ok (.aload_n 0, 1) := by decide +kernel
theorem dX6_greatestLost_16 : decode cX6_greatestLost 16 = .ok (.getfield 44, 3) := by decide +kernel
theorem dX6_greatestLost_19 : decode cX6_greatestLost 19 = .ok (.iload_n 2, 1) := by decide +kernel
theorem dX6_greatestLost_20 : decode cX6_greatestLost 20 = .ok (.laload, 1) := by decide +kernel
theorem dX6_greatestLost_21 : decode cX6_greatestLost 21 = .ok (.lcmp, 1) := by decide +kernel
theorem dX6_greatestLost_22 : decode cX6_greatestLost 22 = .ok (.ifCond .le 5, 3) := by decide +kernel
theorem dX6_greatestLost_25 : decode cX6_greatestLost 25 = .ok (.iload_n 3, 1) := by decide +kernel
theorem dX6_greatestLost_26 : decode cX6_greatestLost 26 = .ok (.istore_n 2, 1) := by decide +kernel
theorem dX6_greatestLost_27 : decode cX6_greatestLost 27 = .ok (.iinc 3 1, 3) := by decide +kernel
theorem dX6_greatestLost_30 : decode cX6_greatestLost 30 = .ok (.goto (-26), 3) := by decide +kernel
theorem dX6_greatestLost_33 : decode cX6_greatestLost 33 = .ok (.iload_n 2, 1) := by decide +kernel
theorem dX6_greatestLost_34 : decode cX6_greatestLost 34 = .ok (.ireturn, 1) := by decide +kernel
theorem dX6_perform_0 : decode cX6_perform 0 = .ok (.iload_n 1, 1) := by decide +kernel
theorem dX6_perform_1 : decode cX6_perform 1 = .ok (.tableswitch 75 0 3 #[31, 40, 49, 61], 31) := by decide +kernel
theorem dX6_perform_32 : decode cX6_perform 32 = .ok (.aload_n 0, 1) := by decide +kernel
theorem dX6_perform_33 : decode cX6_perform 33 = .ok (.iload_n 2, 1) := by decide +kernel
theorem dX6_perform_34 : decode cX6_perform 34 = .ok (.iload_n 3, 1) := by decide +kernel
theorem dX6_perform_35 : decode cX6_perform 35 = .ok (.iload 4, 2) := by decide +kernel
theorem dX6_perform_37 : decode cX6_perform 37 = .ok (.invokevirtual 281, 3) := by decide +kernel
theorem dX6_perform_40 : decode cX6_perform 40 = .ok (.ireturn, 1) := by decide +kernel
theorem dX6_perform_41 : decode cX6_perform 41 = .ok (.aload_n 0, 1) := by decide +kernel
theorem dX6_perform_42 : decode cX6_perform 42 = .ok (.iload_n 2, 1) := by decide +kernel
theorem dX6_perform_43 : decode cX6_perform 43 = .ok (.iload_n 3, 1) := by decide +kernel
theorem dX6_perform_44 : decode cX6_perform 44 = .ok (.iload 4, 2) := by decide +kernel
theorem dX6_perform_46 : decode cX6_perform 46 = .ok (.invokevirtual 284, 3) := by decide +kernel
theorem dX6_perform_49 : decode cX6_perform 49 = .ok (.ireturn, 1) := by decide +kernel
theorem dX6_perform_50 : decode cX6_perform 50 = .ok (.aload_n 0, 1) := by decide +kernel
theorem dX6_perform_51 : decode cX6_perform 51 = .ok (.iload 4, 2) := by decide +kernel
theorem dX6_perform_53 : decode cX6_perform 53 = .ok (.iload_n 2, 1) := by decide +kernel
theorem dX6_perform_54 : decode cX6_perform 54 = .ok (.iconst 1, 1) := by decide +kernel
theorem dX6_perform_55 : decode cX6_perform 55 = .ok (.iand, 1) := by decide +kernel
theorem dX6_perform_56 : decode cX6_perform 56 = .ok (.iload_n 3, 1) := by decide +kernel
theorem dX6_perform_57 : decode cX6_perform 57 = .ok (.iload_n 2, 1) := by decide +kernel
theorem dX6_perform_58 : decode cX6_perform 58 = .ok (.invokevirtual 287, 3) := by decide +kernel
theorem dX6_perform_61 : decode cX6_perform 61 = .ok (.ireturn, 1) := by decide +kernel
theorem dX6_perform_62 : decode cX6_perform 62 = .ok (.aload_n 0, 1) := by decide +kernel
theorem dX6_perform_63 : decode cX6_perform 63 = .ok (.iload_n 2, 1) := by decide +kernel
theorem dX6_perform_64 : decode cX6_perform 64 = .ok (.iload_n 3, 1) := by decide +kernel
theorem dX6_perform_65 : decode cX6_perform 65 = .ok (.iload 4, 2) := by decide +kernel
theorem dX6_perform_67 : decode cX6_perform 67 = .ok (.i2l, 1) := by decide +kernel
theorem dX6_perform_68 : decode cX6_perform 68 = .ok (.ldc2_w 290, 3) := by decide +kernel
theorem dX6_perform_71 : decode cX6_perform 71 = .ok (.iconst 2, 1) := by decide +kernel
theorem dX6_perform_72 : decode cX6_perform 72 = .ok (.invokevirtual 120, 3) := by decide +kernel
theorem dX6_perform_75 : decode cX6_perform 75 = .ok (.ireturn, 1) := by decide +kernel
theorem dX6_perform_76 : decode cX6_perform 76 = .ok (.aload_n 0, 1) := by decide +kernel
theorem dX6_perform_77 : decode cX6_perform 77 = .ok (.iload_n 2, 1) := by decide +kernel
theorem dX6_perform_78 : decode cX6_perform 78 = .ok (.iload_n 3, 1) := by decide +kernel
theorem dX6_perform_79 : decode cX6_perform 79 = .ok (.iload 4, 2) := by decide +kernel
theorem dX6_perform_81 : decode cX6_perform 81 = .ok (.invokevirtual 157, 3) := by decide +kernel
theorem dX6_perform_84 : decode cX6_perform 84 = .ok (.ireturn, 1) := by decide +kernel
