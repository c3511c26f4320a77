theorem dX10_closedCount_16 : decode cX10_closedCount 16 = .ok (.iaload, 1) := by decide +kernel
theorem dX10_closedCount_17 : decode cX10_closedCount 17 = .ok (.if_icmp .ge 25, 3) := by decide +kernel
theorem dX10_closedCount_20 : decode cX10_closedCount 20 = .ok (.iload_n 1, 1) := by decide +kernel
theorem dX10_closedCount_21 : decode cX10_closedCount 21 = .ok (.aload_n 0, 1) := by decide +kernel
theorem dX10_closedCount_22 : decode cX10_closedCount 22 = .ok (.iload_n 2, 1) := by decide +kernel
theorem dX10_closedCount_23 : decode cX10_closedCount 23 = .ok (.invokevirtual 265, 3) := by decide +kernel
theorem dX10_closedCount_26 : decode cX10_closedCount 26 = .ok (.ifCond .eq 7, 3) := by decide +kernel
theorem dX10_closedCount_29 : decode cX10_closedCount 29 = .ok (.iconst 1, 1) := by decide +kernel
theorem dX10_closedCount_30 : decode cX10_closedCount 30 = .ok (.goto 4, 3) := by decide +kernel
theorem dX10_closedCount_33 : decode cX10_closedCount 33 = .ok (.iconst 0, 1) := by decide +kernel
theorem dX10_closedCount_34 : decode cX10_closedCount 34 = .ok (.iadd, 1) := by decide +kernel
theorem dX10_closedCount_35 : decode cX10_closedCount 35 = .ok (.istore_n 1, 1) := by decide +kernel
theorem dX10_closedCount_36 : decode cX10_closedCount 36 = .ok (.iinc 2 1, 3) := by decide +kernel
theorem dX10_closedCount_39 : decode cX10_closedCount 39 = .ok (.goto (-30), 3) := by decide +kernel
theorem dX10_closedCount_42 : decode cX10_closedCount 42 = .ok (.iload_n 1, 1) := by decide +kernel
theorem dX10_closedCount_43 : decode cX10_closedCount 43 = .ok (.ireturn, 1) := by decide +kernel
theorem dX10_credited_0 : decode cX10_credited 0 = .ok (.aload_n 0, 1) := by decide +kernel
theorem dX10_credited_1 : decode cX10_credited 1 = .ok (.iconst 0, 1) := by decide +kernel
theorem dX10_credited_2 : decode cX10_credited 2 = .ok (.putfield 80, 3) := by decide +kernel
theorem dX10_credited_5 : decode cX10_credited 5 = .ok (.aload_n 0, 1) := by decide +kernel
theorem dX10_credited_6 : decode cX10_credited 6 = .ok (.getfield 7, 3) := by decide +kernel
theorem dX10_credited_9 : decode cX10_credited 9 = .ok (.bipush 8, 2) := by decide +kernel
theorem dX10_credited_11 : decode cX10_credited 11 = .ok (.iaload, 1) := by decide +kernel
theorem dX10_credited_12 : decode cX10_credited 12 = .ok (.ireturn, 1) := by decide +kernel
theorem dX10_day_0 : decode cX10_day 0 = .ok (.aload_n 0, 1) := by decide +kernel
theorem dX10_day_1 : decode cX10_day 1 = .ok (.iconst 0, 1) := by decide +kernel
theorem dX10_day_2 : decode cX10_day 2 = .ok (.putfield 80, 3) := by decide +kernel
theorem dX10_day_5 : decode cX10_day 5 = .ok (.aload_n 0, 1) := by decide +kernel
theorem dX10_day_6 : decode cX10_day 6 = .ok (.getfield 7, 3) := by decide +kernel
theorem dX10_day_9 : decode cX10_day 9 = .ok (.iconst 4, 1) := by decide +kernel
theorem dX10_day_10 : decode cX10_day 10 = .ok (.iaload, 1) := by decide +kernel
theorem dX10_day_11 : decode cX10_day 11 = .ok (.ireturn, 1) := by decide +kernel
theorem dX10_dayByClock_0 : decode cX10_dayByClock 0 = .ok (.aload_n 0, 1) := by decide +kernel
theorem dX10_dayByClock_1 : decode cX10_dayByClock 1 = .ok (.aload_n 0, 1) := by decide +kernel
theorem dX10_dayByClock_2 : decode cX10_dayByClock 2 = .ok (.iload_n 1, 1) := by decide +kernel
theorem dX10_dayByClock_3 : decode cX10_dayByClock 3 = .ok (.invokevirtual 330, 3) := by decide +kernel
theorem dX10_dayByClock_6 : decode cX10_dayByClock 6 = .ok (.invokevirtual 333, 3) := by decide +kernel
theorem dX10_dayByClock_9 : decode cX10_dayByClock 9 = .ok (.ifCond .ne 5, 3) := by decide +kernel
theorem dX10_dayByClock_12 : decode cX10_dayByClock 12 = .ok (.iconst 0, 1) := by decide +kernel
theorem dX10_dayByClock_13 : decode cX10_dayByClock 13 = .ok (.ireturn, 1) := by decide +kernel
theorem dX10_dayByClock_14 : decode cX10_dayByClock 14 = .ok (.aload_n 0, 1) := by decide +kernel
theorem dX10_dayByClock_15 : decode cX10_dayByClock 15 = .ok (.invokevirtual 284, 3) := by decide +kernel
theorem dX10_dayByClock_18 : decode cX10_dayByClock 18 = .ok (.istore_n 2, 1) := by decide +kernel
theorem dX10_dayByClock_19 : decode cX10_dayByClock 19 = .ok (.aload_n 0, 1) := by decide +kernel
theorem dX10_dayByClock_20 : decode cX10_dayByClock 20 = .ok (.getfield 7, 3) := by decide +kernel
theorem dX10_dayByClock_23 : decode cX10_dayByClock 23 = .ok (.iconst 4, 1) := by decide +kernel
theorem dX10_dayByClock_24 : decode cX10_dayByClock 24 = .ok (.iaload, 1) := by decide +kernel
theorem dX10_dayByClock_25 : decode cX10_dayByClock 25 = .ok (.istore_n 3, 1) := by decide +kernel
theorem dX10_dayByClock_26 : decode cX10_dayByClock 26 = .ok (.iload_n 3, 1) := by decide +kernel
theorem dX10_dayByClock_27 : decode cX10_dayByClock 27 = .ok (.aload_n 0, 1) := by decide +kernel
theorem dX10_dayByClock_28 : decode cX10_dayByClock 28 = .ok (.getfield 7, 3) := by decide +kernel
theorem dX10_dayByClock_31 : decode cX10_dayByClock 31 = .ok (.iconst 4, 1) := by decide +kernel
theorem dX10_dayByClock_32 : decode cX10_dayByClock 32 = .ok (.iaload, 1) := by decide +kernel
theorem dX10_dayByClock_33 : decode cX10_dayByClock 33 = .ok (.sipush 400, 3) := by decide +kernel
theorem dX10_dayByClock_36 : decode cX10_dayByClock 36 = .ok (.iadd, 1) := by decide +kernel
theorem dX10_dayByClock_37 : decode cX10_dayByClock 37 = .ok (.if_icmp .gt 28, 3) := by decide +kernel
theorem dX10_dayByClock_40 : decode cX10_dayByClock 40 = .ok (.aload_n 0, 1) := by decide +kernel
theorem dX10_dayByClock_41 : decode cX10_dayByClock 41 = .ok (.iload_n 1, 1) := by decide +kernel
theorem dX10_dayByClock_42 : decode cX10_dayByClock 42 = .ok (.iload_n 3, 1) := by decide +kernel
theorem dX10_dayByClock_43 : decode cX10_dayByClock 43 = .ok (.aload_n 0, 1) := by decide +kernel
theorem dX10_dayByClock_44 : decode cX10_dayByClock 44 = .ok (.getfield 7, 3) := by decide +kernel
theorem dX10_dayByClock_47 : decode cX10_dayByClock 47 = .ok (.bipush 12, 2) := by decide +kernel
theorem dX10_dayByClock_49 : decode cX10_dayByClock 49 = .ok (.iaload, 1) := by decide +kernel
theorem dX10_dayByClock_50 : decode cX10_dayByClock 50 = .ok (.iload_n 2, 1) := by decide +kernel
theorem dX10_dayByClock_51 : decode cX10_dayByClock 51 = .ok (.invokevirtual 288, 3) := by decide +kernel
theorem dX10_dayByClock_54 : decode cX10_dayByClock 54 = .ok (.ifCond .eq 5, 3) := by decide +kernel
theorem dX10_dayByClock_57 : decode cX10_dayByClock 57 = .ok (.iload_n 3, 1) := by decide +kernel
theorem dX10_dayByClock_58 : decode cX10_dayByClock 58 = .ok (.ireturn, 1) := by decide +kernel
theorem dX10_dayByClock_59 : decode cX10_dayByClock 59 = .ok (.iinc 3 1, 3) := by decide +kernel
theorem dX10_dayByClock_62 : decode cX10_dayByClock 62 = .ok (.goto (-36), 3) := by decide +kernel
theorem dX10_dayByClock_65 : decode cX10_dayByClock 65 = .ok (.iconst (-1), 1) := by decide +kernel
theorem dX10_dayByClock_66 : decode cX10_dayByClock 66 = .ok (.ireturn, 1) := by decide +kernel
theorem dX10_daysUntilClosed_0 : decode cX10_daysUntilClosed 0 = .ok (.aload_n 0, 1) := by decide +kernel
theorem dX10_daysUntilClosed_1 : decode cX10_daysUntilClosed 1 = .ok (.aload_n 0, 1) := by decide +kernel
theorem dX10_daysUntilClosed_2 : decode cX10_daysUntilClosed 2 = .ok (.iload_n 1, 1) := by decide +kernel
theorem dX10_daysUntilClosed_3 : decode cX10_daysUntilClosed 3 = .ok (.invokevirtual 330, 3) := by decide +kernel
theorem dX10_daysUntilClosed_6 : decode cX10_daysUntilClosed 6 = .ok (.invokevirtual 333, 3) := by decide +kernel
theorem dX10_daysUntilClosed_9 : decode cX10_daysUntilClosed 9 = .ok (.ifCond .ne 5, 3) := by decide +kernel
theorem dX10_daysUntilClosed_12 : decode cX10_daysUntilClosed 12 = .ok (.iconst 0, 1) := by decide +kernel
theorem dX10_daysUntilClosed_13 : decode cX10_daysUntilClosed 13 = .ok (.ireturn, 1) := by decide +kernel
theorem dX10_daysUntilClosed_14 : decode cX10_daysUntilClosed 14 = .ok (.aload_n 0, 1) := by decide +kernel
theorem dX10_daysUntilClosed_15 : decode cX10_daysUntilClosed 15 = .ok (.invokevirtual 366, 3) := by decide +kernel
theorem dX10_daysUntilClosed_18 : decode cX10_daysUntilClosed 18 = .ok (.iconst 0, 1) := by decide +kernel
theorem dX10_daysUntilClosed_19 : decode cX10_daysUntilClosed 19 = .ok (.istore_n 2, 1) := by decide +kernel
theorem dX10_daysUntilClosed_20 : decode cX10_daysUntilClosed 20 = .ok (.iload_n 2, 1) := by decide +kernel
theorem dX10_daysUntilClosed_21 : decode cX10_daysUntilClosed 21 = .ok (.bipush 120, 2) := by decide +kernel
theorem dX10_daysUntilClosed_23 : decode cX10_daysUntilClosed 23 = .ok (.if_icmp .ge 21, 3) := by decide +kernel
theorem dX10_daysUntilClosed_26 : decode cX10_daysUntilClosed 26 = .ok (.aload_n 0, 1) := by decide +kernel
theorem dX10_daysUntilClosed_27 : decode cX10_daysUntilClosed 27 = .ok (.iload_n 1, 1) := by decide +kernel
theorem dX10_daysUntilClosed_28 : decode cX10_daysUntilClosed 28 = .ok (.invokevirtual 265, 3) := by decide +kernel
theorem dX10_daysUntilClosed_31 : decode cX10_daysUntilClosed 31 = .ok (.ifCond .ne 13, 3) := by decide +kernel
theorem dX10_daysUntilClosed_34 : decode cX10_daysUntilClosed 34 = .ok (.aload_n 0, 1) := by decide +kernel
theorem dX10_daysUntilClosed_35 : decode cX10_daysUntilClosed 35 = .ok (.invokevirtual 324, 3) := by decide +kernel
theorem dX10_daysUntilClosed_38 : decode cX10_daysUntilClosed 38 = .ok (.iinc 2 1, 3) := by decide +kernel
theorem dX10_daysUntilClosed_41 : decode cX10_daysUntilClosed 41 = .ok (.goto (-21), 3) := by decide +kernel
theorem dX10_daysUntilClosed_44 : decode cX10_daysUntilClosed 44 = .ok (.aload_n 0, 1) := by decide +kernel
theorem dX10_daysUntilClosed_45 : decode cX10_daysUntilClosed 45 = .ok (.iload_n 1, 1) := by decide +kernel
theorem dX10_daysUntilClosed_46 : decode cX10_daysUntilClosed 46 = .ok (.invokevirtual 265, 3) := by decide +kernel
theorem dX10_daysUntilClosed_49 : decode cX10_daysUntilClosed 49 = .ok (.istore_n 3, 1) := by decide +kernel
theorem dX10_daysUntilClosed_50 : decode cX10_daysUntilClosed 50 = .ok (.aload_n 0, 1) := by decide +kernel
theorem dX10_daysUntilClosed_51 : decode cX10_daysUntilClosed 51 = .ok (.invokevirtual 372, 3) := by decide +kernel
theorem dX10_daysUntilClosed_54 : decode cX10_daysUntilClosed 54 = .ok (.iload_n 3, 1) := by decide +kernel
theorem dX10_daysUntilClosed_55 : decode cX10_daysUntilClosed 55 = .ok (.ifCond .eq 7, 3) := by decide +kernel
theorem dX10_daysUntilClosed_58 : decode cX10_daysUntilClosed 58 = .ok (.iload_n 2, 1) := by decide +kernel
theorem dX10_daysUntilClosed_59 : decode cX10_daysUntilClosed 59 = .ok (.goto 4, 3) := by decide +kernel
theorem dX10_daysUntilClosed_62 : decode cX10_daysUntilClosed 62 = .ok (.iconst (-1), 1) := by decide +kernel
theorem dX10_daysUntilClosed_63 : decode cX10_daysUntilClosed 63 = .ok (.ireturn, 1) := by decide +kernel
theorem dX10_deposited_0 : decode cX10_deposited 0 = .ok (.aload_n 0, 1) := by decide +kernel
theorem dX10_deposited_1 : decode cX10_deposited 1 = .ok (.iconst 0, 1) := by decide +kernel
theorem dX10_deposited_2 : decode cX10_deposited 2 = .ok (.putfield 80, 3) := by decide +kernel
theorem dX10_deposited_5 : decode cX10_deposited 5 = .ok (.aload_n 0, 1) := by decide +kernel
theorem dX10_deposited_6 : decode cX10_deposited 6 = .ok (.getfield 7, 3) := by decide +kernel
theorem dX10_deposited_9 : decode cX10_deposited 9 = .ok (.iconst 5, 1) := by decide +kernel
theorem dX10_deposited_10 : decode cX10_deposited 10 = .ok (.iaload, 1) := by decide +kernel
theorem dX10_deposited_11 : decode cX10_deposited 11 = .ok (.ireturn, 1) := by decide +kernel
theorem dX10_dispute_0 : decode cX10_dispute 0 = .ok (.aload_n 0, 1) := by decide +kernel
theorem dX10_dispute_1 : decode cX10_dispute 1 = .ok (.iload_n 1, 1) := by decide +kernel
theorem dX10_dispute_2 : decode cX10_dispute 2 = .ok (.invokevirtual 330, 3) := by decide +kernel
theorem dX10_dispute_5 : decode cX10_dispute 5 = .ok (.istore_n 2, 1) := by decide +kernel
theorem dX10_dispute_6 : decode cX10_dispute 6 = .ok (.aload_n 0, 1) := by decide +kernel
theorem dX10_dispute_7 : decode cX10_dispute 7 = .ok (.iload_n 2, 1) := by decide +kernel
theorem dX10_dispute_8 : decode cX10_dispute 8 = .ok (.iload_n 2, 1) := by decide +kernel
theorem dX10_dispute_9 : decode cX10_dispute 9 = .ok (.ifCond .eq 15, 3) := by decide +kernel
theorem dX10_dispute_12 : decode cX10_dispute 12 = .ok (.aload_n 0, 1) := by decide +kernel
theorem dX10_dispute_13 : decode cX10_dispute 13 = .ok (.iload_n 1, 1) := by decide +kernel
theorem dX10_dispute_14 : decode cX10_dispute 14 = .ok (.invokevirtual 398, 3) := by decide +kernel
theorem dX10_dispute_17 : decode cX10_dispute 17 = .ok (.ifCond .eq 7, 3) := by decide +kernel
theorem dX10_dispute_20 : decode cX10_dispute 20 = .ok (.iconst 1, 1) := by decide +kernel
theorem dX10_dispute_21 : decode cX10_dispute 21 = .ok (.goto 4, 3) := by decide +kernel
theorem dX10_dispute_24 : decode cX10_dispute 24 = .ok (.iconst 0, 1) := by decide +kernel
theorem dX10_dispute_25 : decode cX10_dispute 25 = .ok (.invokevirtual 358, 3) := by decide +kernel
theorem dX10_dispute_28 : decode cX10_dispute 28 = .ok (.ifCond .ne 5, 3) := by decide +kernel
theorem dX10_dispute_31 : decode cX10_dispute 31 = .ok (.iconst 0, 1) := by decide +kernel
theorem dX10_dispute_32 : decode cX10_dispute 32 = .ok (.ireturn, 1) := by decide +kernel
theorem dX10_dispute_33 : decode cX10_dispute 33 = .ok (.aload_n 0, 1) := by decide +kernel
theorem dX10_dispute_34 : decode cX10_dispute 34 = .ok (.invokevirtual 395, 3) := by decide +kernel
theorem dX10_dispute_37 : decode cX10_dispute 37 = .ok (.aload_n 0, 1) := by decide +kernel
theorem dX10_dispute_38 : decode cX10_dispute 38 = .ok (.iload_n 1, 1) := by decide +kernel
theorem dX10_dispute_39 : decode cX10_dispute 39 = .ok (.invokevirtual 277, 3) := by decide +kernel
theorem dX10_dispute_42 : decode cX10_dispute 42 = .ok (.aload_n 0, 1) := by decide +kernel
theorem dX10_dispute_43 : decode cX10_dispute 43 = .ok (.invokevirtual 298, 3) := by decide +kernel
theorem dX10_dispute_46 : decode cX10_dispute 46 = .ok (.invokestatic 301, 3) := by decide +kernel
theorem dX10_dispute_49 : decode cX10_dispute 49 = .ok (.istore_n 3, 1) := by decide +kernel
theorem dX10_dispute_50 : decode cX10_dispute 50 = .ok (.aload_n 0, 1) := by decide +kernel
theorem dX10_dispute_51 : decode cX10_dispute 51 = .ok (.iload_n 1, 1) := by decide +kernel
theorem dX10_dispute_52 : decode cX10_dispute 52 = .ok (.iconst 3, 1) := by decide +kernel
theorem dX10_dispute_53 : decode cX10_dispute 53 = .ok (.iload_n 3, 1) := by decide +kernel
theorem dX10_dispute_54 : decode cX10_dispute 54 = .ok (.invokevirtual 273, 3) := by decide +kernel
theorem dX10_dispute_57 : decode cX10_dispute 57 = .ok (.aload_n 0, 1) := by decide +kernel
theorem dX10_dispute_58 : decode cX10_dispute 58 = .ok (.iload_n 1, 1) := by decide +kernel
theorem dX10_dispute_59 : decode cX10_dispute 59 = .ok (.iconst 2, 1) := by decide +kernel
theorem dX10_dispute_60 : decode cX10_dispute 60 = .ok (.iconst 2, 1) := by decide +kernel
theorem dX10_dispute_61 : decode cX10_dispute 61 = .ok (.invokevirtual 273, 3) := by decide +kernel
theorem dX10_dispute_64 : decode cX10_dispute 64 = .ok (.iload_n 3, 1) := by decide +kernel
theorem dX10_dispute_65 : decode cX10_dispute 65 = .ok (.ireturn, 1) := by decide +kernel
theorem dX10_doneSet_0 : decode cX10_doneSet 0 = .ok (.iconst 0, 1) := by decide +kernel
theorem dX10_doneSet_1 : decode cX10_doneSet 1 = .ok (.istore_n 1, 1) := by decide +kernel
theorem dX10_doneSet_2 : decode cX10_doneSet 2 = .ok (.iconst 0, 1) := by decide +kernel
theorem dX10_doneSet_3 : decode cX10_doneSet 3 = .ok (.istore_n 2, 1) := by decide +kernel
theorem dX10_doneSet_4 : decode cX10_doneSet 4 = .ok (.iload_n 2, 1) := by decide +kernel
theorem dX10_doneSet_5 : decode cX10_doneSet 5 = .ok (.aload_n 0, 1) := by decide +kernel
theorem dX10_doneSet_6 : decode cX10_doneSet 6 = .ok (.getfield 7, 3) := by decide +kernel
theorem dX10_doneSet_9 : decode cX10_doneSet 9 = .ok (.bipush 13, 2) := by decide +kernel
theorem dX10_doneSet_11 : decode cX10_doneSet 11 = .ok (.iaload, 1) := by decide +kernel
theorem dX10_doneSet_12 : decode cX10_doneSet 12 = .ok (.if_icmp .ge 39, 3) := by decide +kernel
theorem dX10_doneSet_15 : decode cX10_doneSet 15 = .ok (.iload_n 1, 1) := by decide +kernel
theorem dX10_doneSet_16 : decode cX10_doneSet 16 = .ok (.aload_n 0, 1) := by decide +kernel
theorem dX10_doneSet_17 : decode cX10_doneSet 17 = .ok (.iload_n 2, 1) := by decide +kernel
theorem dX10_doneSet_18 : decode cX10_doneSet 18 = .ok (.iconst 2, 1) := by decide +kernel
theorem dX10_doneSet_19 : decode cX10_doneSet 19 = .ok (.invokevirtual 261, 3) := by decide +kernel
theorem dX10_doneSet_22 : decode cX10_doneSet 22 = .ok (.iconst 3, 1) := by decide +kernel
theorem dX10_doneSet_23 : decode cX10_doneSet 23 = .ok (.if_icmp .eq 13, 3) := by decide +kernel
theorem dX10_doneSet_26 : decode cX10_doneSet 26 = .ok (.aload_n 0, 1) := by decide +kernel
theorem dX10_doneSet_27 : decode cX10_doneSet 27 = .ok (.iload_n 2, 1) := by decide +kernel
theorem dX10_doneSet_28 : decode cX10_doneSet 28 = .ok (.iconst 2, 1) := by decide +kernel
theorem dX10_doneSet_29 : decode cX10_doneSet 29 = .ok (.invokevirtual 261, 3) := by decide +kernel
theorem dX10_doneSet_32 : decode cX10_doneSet 32 = .ok (.iconst 4, 1) := by decide +kernel
theorem dX10_doneSet_33 : decode cX10_doneSet 33 = .ok (.if_icmp .ne 9, 3) := by decide +kernel
theorem dX10_doneSet_36 : decode cX10_doneSet 36 = .ok (.iconst 1, 1) := by decide +kernel
theorem dX10_doneSet_37 : decode cX10_doneSet 37 = .ok (.iload_n 2, 1) := by decide +kernel
theorem dX10_doneSet_38 : decode cX10_doneSet 38 = .ok (.ishl, 1) := by decide +kernel
theorem dX10_doneSet_39 : decode cX10_doneSet 39 = .ok (.goto 4, 3) := by decide +kernel
theorem dX10_doneSet_42 : decode cX10_doneSet 42 = .ok (.iconst 0, 1) := by decide +kernel
theorem dX10_doneSet_43 : decode cX10_doneSet 43 = .ok (.ior, 1) := by decide +kernel
theorem dX10_doneSet_44 : decode cX10_doneSet 44 = .ok (.istore_n 1, 1) := by decide +kernel
theorem dX10_doneSet_45 : decode cX10_doneSet 45 = .ok (.iinc 2 1, 3) := by decide +kernel
theorem dX10_doneSet_48 : decode cX10_doneSet 48 = .ok (.goto (-44), 3) := by decide +kernel
theorem dX10_doneSet_51 : decode cX10_doneSet 51 = .ok (.iload_n 1, 1) := by decide +kernel
theorem dX10_doneSet_52 : decode cX10_doneSet 52 = .ok (.ireturn, 1) := by decide +kernel
theorem dX10_dueAt_0 : decode cX10_dueAt 0 = .ok (.iload_n 1, 1) := by decide +kernel
theorem dX10_dueAt_1 : decode cX10_dueAt 1 = .ok (.ifCond .ge 7, 3) := by decide +kernel
theorem dX10_dueAt_4 : decode cX10_dueAt 4 = .ok (.iconst (-1), 1) := by decide +kernel
theorem dX10_dueAt_5 : decode cX10_dueAt 5 = .ok (.goto 8, 3) := by decide +kernel
theorem dX10_dueAt_8 : decode cX10_dueAt 8 = .ok (.aload_n 0, 1) := by decide +kernel
theorem dX10_dueAt_9 : decode cX10_dueAt 9 = .ok (.iload_n 1, 1) := by decide +kernel
theorem dX10_dueAt_10 : decode cX10_dueAt 10 = .ok (.invokevirtual 295, 3) := by decide +kernel
theorem dX10_dueAt_13 : decode cX10_dueAt 13 = .ok (.istore_n 2, 1) := by decide +kernel
theorem dX10_dueAt_14 : decode cX10_dueAt 14 = .ok (.aload_n 0, 1) := by decide +kernel
theorem dX10_dueAt_15 : decode cX10_dueAt 15 = .ok (.iload_n 2, 1) := by decide +kernel
theorem dX10_dueAt_16 : decode cX10_dueAt 16 = .ok (.iconst (-1), 1) := by decide +kernel
theorem dX10_dueAt_17 : decode cX10_dueAt 17 = .ok (.if_icmp .eq 7, 3) := by decide +kernel
theorem dX10_dueAt_20 : decode cX10_dueAt 20 = .ok (.iconst 1, 1) := by decide +kernel
theorem dX10_dueAt_21 : decode cX10_dueAt 21 = .ok (.goto 4, 3) := by decide +kernel
theorem dX10_dueAt_24 : decode cX10_dueAt 24 = .ok (.iconst 0, 1) := by decide +kernel
theorem dX10_dueAt_25 : decode cX10_dueAt 25 = .ok (.invokevirtual 333, 3) := by decide +kernel
theorem dX10_dueAt_28 : decode cX10_dueAt 28 = .ok (.ifCond .eq 7, 3) := by decide +kernel
theorem dX10_dueAt_31 : decode cX10_dueAt 31 = .ok (.iload_n 2, 1) := by decide +kernel
theorem dX10_dueAt_32 : decode cX10_dueAt 32 = .ok (.goto 4, 3) := by decide +kernel
theorem dX10_dueAt_35 : decode cX10_dueAt 35 = .ok (.iconst 0, 1) := by decide +kernel
theorem dX10_dueAt_36 : decode cX10_dueAt 36 = .ok (.ireturn, 1) := by decide +kernel
theorem dX10_dueDay_0 : decode cX10_dueDay 0 = .ok (.aload_n 0, 1) := by decide +kernel
theorem dX10_dueDay_1 : decode cX10_dueDay 1 = .ok (.aload_n 0, 1) := by decide +kernel
theorem dX10_dueDay_2 : decode cX10_dueDay 2 = .ok (.iload_n 1, 1) := by decide +kernel
theorem dX10_dueDay_3 : decode cX10_dueDay 3 = .ok (.invokevirtual 330, 3) := by decide +kernel
theorem dX10_dueDay_6 : decode cX10_dueDay 6 = .ok (.invokevirtual 333, 3) := by decide +kernel
theorem dX10_dueDay_9 : decode cX10_dueDay 9 = .ok (.ifCond .eq 12, 3) := by decide +kernel
theorem dX10_dueDay_12 : decode cX10_dueDay 12 = .ok (.aload_n 0, 1) := by decide +kernel
theorem dX10_dueDay_13 : decode cX10_dueDay 13 = .ok (.iload_n 1, 1) := by decide +kernel
theorem dX10_dueDay_14 : decode cX10_dueDay 14 = .ok (.iconst 4, 1) := by decide +kernel
theorem dX10_dueDay_15 : decode cX10_dueDay 15 = .ok (.invokevirtual 261, 3) := by decide +kernel
theorem dX10_dueDay_18 : decode cX10_dueDay 18 = .ok (.goto 4, 3) := by decide +kernel
theorem dX10_dueDay_21 : decode cX10_dueDay 21 = .ok (.iconst 0, 1) := by decide +kernel
theorem dX10_dueDay_22 : decode cX10_dueDay 22 = .ok (.ireturn, 1) := by decide +kernel
theorem dX10_dueWith_0 : decode cX10_dueWith 0 = .ok (.iconst 0, 1) := by decide +kernel
theorem dX10_dueWith_1 : decode cX10_dueWith 1 = .ok (.istore_n 2, 1) := by decide +kernel
theorem dX10_dueWith_2 : decode cX10_dueWith 2 = .ok (.iload_n 2, 1) := by decide +kernel
theorem dX10_dueWith_3 : decode cX10_dueWith 3 = .ok (.aload_n 0, 1) := by decide +kernel
theorem dX10_dueWith_4 : decode cX10_dueWith 4 = .ok (.getfield 7, 3) := by decide +kernel
theorem dX10_dueWith_7 : decode cX10_dueWith 7 = .ok (.bipush 13, 2) := by decide +kernel
theorem dX10_dueWith_9 : decode cX10_dueWith 9 = .ok (.iaload, 1) := by decide +kernel
theorem dX10_dueWith_10 : decode cX10_dueWith 10 = .ok (.if_icmp .ge 30, 3) := by decide +kernel
theorem dX10_dueWith_13 : decode cX10_dueWith 13 = .ok (.aload_n 0, 1) := by decide +kernel
theorem dX10_dueWith_14 : decode cX10_dueWith 14 = .ok (.iload_n 2, 1) := by decide +kernel
theorem dX10_dueWith_15 : decode cX10_dueWith 15 = .ok (.iconst 2, 1) := by decide +kernel
theorem dX10_dueWith_16 : decode cX10_dueWith 16 = .ok (.invokevirtual 261, 3) := by decide +kernel
theorem dX10_dueWith_19 : decode cX10_dueWith 19 = .ok (.iconst 1, 1) := by decide +kernel
theorem dX10_dueWith_20 : decode cX10_dueWith 20 = .ok (.if_icmp .ne 14, 3) := by decide +kernel
theorem dX10_dueWith_23 : decode cX10_dueWith 23 = .ok (.aload_n 0, 1) := by decide +kernel
theorem dX10_dueWith_24 : decode cX10_dueWith 24 = .ok (.iload_n 2, 1) := by decide +kernel
theorem dX10_dueWith_25 : decode cX10_dueWith 25 = .ok (.invokevirtual 292, 3) := by decide +kernel
theorem dX10_dueWith_28 : decode cX10_dueWith 28 = .ok (.iload_n 1, 1) := by decide +kernel
theorem dX10_dueWith_29 : decode cX10_dueWith 29 = .ok (.if_icmp .ne 5, 3) := by decide +kernel
theorem dX10_dueWith_32 : decode cX10_dueWith 32 = .ok (.iload_n 2, 1) := by decide +kernel
theorem dX10_dueWith_33 : decode cX10_dueWith 33 = .ok (.ireturn, 1) := by decide +kernel
theorem dX10_dueWith_34 : decode cX10_dueWith 34 = .ok (.iinc 2 1, 3) := by decide +kernel
theorem dX10_dueWith_37 : decode cX10_dueWith 37 = .ok (.goto (-35), 3) := by decide +kernel
theorem dX10_dueWith_40 : decode cX10_dueWith 40 = .ok (.iconst (-1), 1) := by decide +kernel
theorem dX10_dueWith_41 : decode cX10_dueWith 41 = .ok (.ireturn, 1) := by decide +kernel
theorem dX10_entries_0 : decode cX10_entries 0 = .ok (.aload_n 0, 1) := by decide +kernel
theorem dX10_entries_1 : decode cX10_entries 1 = .ok (.iconst 0, 1) := by decide +kernel
theorem dX10_entries_2 : decode cX10_entries 2 = .ok (.putfield 80, 3) := by decide +kernel
theorem dX10_entries_5 : decode cX10_entries 5 = .ok (.aload_n 0, 1) := by decide +kernel
theorem dX10_entries_6 : decode cX10_entries 6 = .ok (.getfield 7, 3) := by decide +kernel
theorem dX10_entries_9 : decode cX10_entries 9 = .ok (.bipush 15, 2) := by decide +kernel
theorem dX10_entries_11 : decode cX10_entries 11 = .ok (.iaload, 1) := by decide +kernel
theorem dX10_entries_12 : decode cX10_entries 12 = .ok (.ireturn, 1) := by decide +kernel
theorem dX10_entry_0 : decode cX10_entry 0 = .ok (.aload_n 0, 1) := by decide +kernel
theorem dX10_entry_1 : decode cX10_entry 1 = .ok (.iload_n 1, 1) := by decide +kernel
theorem dX10_entry_2 : decode cX10_entry 2 = .ok (.i2l, 1) := by decide +kernel
theorem dX10_entry_3 : decode cX10_entry 3 = .ok (.lconst 0, 1) := by decide +kernel
theorem dX10_entry_4 : decode cX10_entry 4 = .ok (.aload_n 0, 1) := by decide +kernel
theorem dX10_entry_5 : decode cX10_entry 5 = .ok (.getfield 7, 3) := by decide +kernel
theorem dX10_entry_8 : decode cX10_entry 8 = .ok (.bipush 15, 2) := by decide +kernel
theorem dX10_entry_10 : decode cX10_entry 10 = .ok (.iaload, 1) := by decide +kernel
theorem dX10_entry_11 : decode cX10_entry 11 = .ok (.iconst 1, 1) := by decide +kernel
theorem dX10_entry_12 : decode cX10_entry 12 = .ok (.isub, 1) := by decide +kernel
theorem dX10_entry_13 : decode cX10_entry 13 = .ok (.i2l, 1) := by decide +kernel
theorem dX10_entry_14 : decode cX10_entry 14 = .ok (.invokestatic 152, 3) := by decide +kernel
theorem dX10_entry_17 : decode cX10_entry 17 = .ok (.iload_n 2, 1) := by decide +kernel
theorem dX10_entry_18 : decode cX10_entry 18 = .ok (.i2l, 1) := by decide +kernel
theorem dX10_entry_19 : decode cX10_entry 19 = .ok (.lconst 0, 1) := by decide +kernel
theorem dX10_entry_20 : decode cX10_entry 20 = .ok (.ldc2_w 446, 3) := by decide +kernel
theorem dX10_entry_23 : decode cX10_entry 23 = .ok (.invokestatic 152, 3) := by decide +kernel
theorem dX10_entry_26 : decode cX10_entry 26 = .ok (.invokevirtual 358, 3) := by decide +kernel
theorem dX10_entry_29 : decode cX10_entry 29 = .ok (.ifCond .eq 12, 3) := by decide +kernel
theorem dX10_entry_32 : decode cX10_entry 32 = .ok (.aload_n 0, 1) := by decide +kernel
theorem dX10_entry_33 : decode cX10_entry 33 = .ok (.iload_n 1, 1) := by decide +kernel
theorem dX10_entry_34 : decode cX10_entry 34 = .ok (.iload_n 2, 1) := by decide +kernel
theorem dX10_entry_35 : decode cX10_entry 35 = .ok (.invokevirtual 448, 3) := by decide +kernel
theorem dX10_entry_38 : decode cX10_entry 38 = .ok (.goto 4, 3) := by decide +kernel
theorem dX10_entry_41 : decode cX10_entry 41 = .ok (.iconst 0, 1) := by decide +kernel
theorem dX10_entry_42 : decode cX10_entry 42 = .ok (.ireturn, 1) := by decide +kernel
theorem dX10_errorKind_0 : decode cX10_errorKind 0 = .ok (.aload_n 0, 1) := by decide +kernel
theorem dX10_errorKind_1 : decode cX10_errorKind 1 = .ok (.iconst 0, 1) := by decide +kernel
theorem dX10_errorKind_2 : decode cX10_errorKind 2 = .ok (.putfield 80, 3) := by decide +kernel
theorem dX10_errorKind_5 : decode cX10_errorKind 5 = .ok (.aload_n 0, 1) := by decide +kernel
theorem dX10_errorKind_6 : decode cX10_errorKind 6 = .ok (.getfield 255, 3) := by decide +kernel
theorem dX10_errorKind_9 : decode cX10_errorKind 9 = .ok (.ireturn, 1) := by decide +kernel
theorem dX10_errorPosition_0 : decode cX10_errorPosition 0 = .ok (.aload_n 0, 1) := by decide +kernel
theorem dX10_errorPosition_1 : decode cX10_errorPosition 1 = .ok (.iconst 0, 1) := by decide +kernel
theorem dX10_errorPosition_2 : decode cX10_errorPosition 2 = .ok (.putfield 80, 3) := by decide +kernel
theorem dX10_errorPosition_5 : decode cX10_errorPosition 5 = .ok (.aload_n 0, 1) := by decide +kernel
theorem dX10_errorPosition_6 : decode cX10_errorPosition 6 = .ok (.getfield 29, 3) := by decide +kernel
theorem dX10_errorPosition_9 : decode cX10_errorPosition 9 = .ok (.ireturn, 1) := by decide +kernel
theorem dX10_fees_0 : decode cX10_fees 0 = .ok (.aload_n 0, 1) := by decide +kernel
theorem dX10_fees_1 : decode cX10_fees 1 = .ok (.iconst 0, 1) := by decide +kernel
theorem dX10_fees_2 : decode cX10_fees 2 = .ok (.putfield 80, 3) := by decide +kernel
theorem dX10_fees_5 : decode cX10_fees 5 = .ok (.aload_n 0, 1) := by decide +kernel
theorem dX10_fees_6 : decode cX10_fees 6 = .ok (.getfield 7, 3) := by decide +kernel
theorem dX10_fees_9 : decode cX10_fees 9 = .ok (.bipush 9, 2) := by decide +kernel
theorem dX10_fees_11 : decode cX10_fees 11 = .ok (.iaload, 1) := by decide +kernel
theorem dX10_fees_12 : decode cX10_fees 12 = .ok (.ireturn, 1) := by decide +kernel
theorem dX10_frozen_0 : decode cX10_frozen 0 = .ok (.aload_n 0, 1) := by decide +kernel
theorem dX10_frozen_1 : decode cX10_frozen 1 = .ok (.aload_n 0, 1) := by decide +kernel
theorem dX10_frozen_2 : decode cX10_frozen 2 = .ok (.iload_n 1, 1) := by decide +kernel
theorem dX10_frozen_3 : decode cX10_frozen 3 = .ok (.invokevirtual 330, 3) := by decide +kernel
theorem dX10_frozen_6 : decode cX10_frozen 6 = .ok (.invokevirtual 333, 3) := by decide +kernel
theorem dX10_frozen_9 : decode cX10_frozen 9 = .ok (.ifCond .eq 12, 3) := by decide +kernel
theorem dX10_frozen_12 : decode cX10_frozen 12 = .ok (.aload_n 0, 1) := by decide +kernel
theorem dX10_frozen_13 : decode cX10_frozen 13 = .ok (.iload_n 1, 1) := by decide +kernel
theorem dX10_frozen_14 : decode cX10_frozen 14 = .ok (.iconst 3, 1) := by decide +kernel
theorem dX10_frozen_15 : decode cX10_frozen 15 = .ok (.invokevirtual 261, 3) := by decide +kernel
theorem dX10_frozen_18 : decode cX10_frozen 18 = .ok (.goto 4, 3) := by decide +kernel
theorem dX10_frozen_21 : decode cX10_frozen 21 = .ok (.iconst 0, 1) := by decide +kernel
theorem dX10_frozen_22 : decode cX10_frozen 22 = .ok (.ireturn, 1) := by decide +kernel
theorem dX10_good_0 : decode cX10_good 0 = .ok (.aload_n 0, 1) := by decide +kernel
theorem dX10_good_1 : decode cX10_good 1 = .ok (.iload_n 1, 1) := by decide +kernel
theorem dX10_good_2 : decode cX10_good 2 = .ok (.ifCond .eq 7, 3) := by decide +kernel
theorem dX10_good_5 : decode cX10_good 5 = .ok (.iconst 0, 1) := by decide +kernel
theorem dX10_good_6 : decode cX10_good 6 = .ok (.goto 4, 3) := by decide +kernel
theorem dX10_good_9 : decode cX10_good 9 = .ok (.iconst 1, 1) := by decide +kernel
theorem dX10_good_10 : decode cX10_good 10 = .ok (.putfield 80, 3) := by decide +kernel
theorem dX10_good_13 : decode cX10_good 13 = .ok (.iload_n 1, 1) := by decide +kernel
theorem dX10_good_14 : decode cX10_good 14 = .ok (.ireturn, 1) := by decide +kernel
theorem dX10_good__0 : decode cX10_good_ 0 = .ok (.aload_n 0, 1) := by decide +kernel
theorem dX10_good__1 : decode cX10_good_ 1 = .ok (.iload_n 1, 1) := by decide +kernel
theorem dX10_good__2 : decode cX10_good_ 2 = .ok (.ifCond .ne 7, 3) := by decide +kernel
theorem dX10_good__5 : decode cX10_good_ 5 = .ok (.iconst 1, 1) := by decide +kernel
theorem dX10_good__6 : decode cX10_good_ 6 = .ok (.goto 12, 3) := by decide +kernel
theorem dX10_good__9 : decode cX10_good_ 9 = .ok (.iload_n 2, 1) := by decide +kernel
theorem dX10_good__10 : decode cX10_good_ 10 = .ok (.ifCond .ne 7, 3) := by decide +kernel
theorem dX10_good__13 : decode cX10_good_ 13 = .ok (.iconst 2, 1) := by decide +kernel
theorem dX10_good__14 : decode cX10_good_ 14 = .ok (.goto 4, 3) := by decide +kernel
theorem dX10_good__17 : decode cX10_good_ 17 = .ok (.iconst 0, 1) := by decide +kernel
theorem dX10_good__18 : decode cX10_good_ 18 = .ok (.putfield 80, 3) := by decide +kernel
theorem dX10_good__21 : decode cX10_good_ 21 = .ok (.aload_n 0, 1) := by decide +kernel
theorem dX10_good__22 : decode cX10_good_ 22 = .ok (.getfield 80, 3) := by decide +kernel
theorem dX10_good__25 : decode cX10_good_ 25 = .ok (.ifCond .ne 7, 3) := by decide +kernel
theorem dX10_good__28 : decode cX10_good_ 28 = .ok (.iconst 1, 1) := by decide +kernel
theorem dX10_good__29 : decode cX10_good_ 29 = .ok (.goto 4, 3) := by decide +kernel
theorem dX10_good__32 : decode cX10_good_ 32 = .ok (.iconst 0, 1) := by decide +kernel
theorem dX10_good__33 : decode cX10_good_ 33 = .ok (.ireturn, 1) := by decide +kernel
theorem dX10_graceLeft_0 : decode cX10_graceLeft 0 = .ok (.aload_n 0, 1) := by decide +kernel
theorem dX10_graceLeft_1 : decode cX10_graceLeft 1 = .ok (.aload_n 0, 1) := by decide +kernel
theorem dX10_graceLeft_2 : decode cX10_graceLeft 2 = .ok (.iload_n 1, 1) := by decide +kernel
theorem dX10_graceLeft_3 : decode cX10_graceLeft 3 = .ok (.invokevirtual 330, 3) := by decide +kernel
theorem dX10_graceLeft_6 : decode cX10_graceLeft 6 = .ok (.invokevirtual 333, 3) := by decide +kernel
theorem dX10_graceLeft_9 : decode cX10_graceLeft 9 = .ok (.ifCond .ne 5, 3) := by decide +kernel
theorem dX10_graceLeft_12 : decode cX10_graceLeft 12 = .ok (.iconst 0, 1) := by decide +kernel
theorem dX10_graceLeft_13 : decode cX10_graceLeft 13 = .ok (.ireturn, 1) := by decide +kernel
theorem dX10_graceLeft_14 : decode cX10_graceLeft 14 = .ok (.aload_n 0, 1) := by decide +kernel
theorem dX10_graceLeft_15 : decode cX10_graceLeft 15 = .ok (.iload_n 1, 1) := by decide +kernel
theorem dX10_graceLeft_16 : decode cX10_graceLeft 16 = .ok (.iconst 2, 1) := by decide +kernel
theorem dX10_graceLeft_17 : decode cX10_graceLeft 17 = .ok (.invokevirtual 261, 3) := by decide +kernel
theorem dX10_graceLeft_20 : decode cX10_graceLeft 20 = .ok (.iconst 1, 1) := by decide +kernel
theorem dX10_graceLeft_21 : decode cX10_graceLeft 21 = .ok (.if_icmp .ne 30, 3) := by decide +kernel
theorem dX10_graceLeft_24 : decode cX10_graceLeft 24 = .ok (.iconst 0, 1) := by decide +kernel
theorem dX10_graceLeft_25 : decode cX10_graceLeft 25 = .ok (.aload_n 0, 1) := by decide +kernel
theorem dX10_graceLeft_26 : decode cX10_graceLeft 26 = .ok (.iload_n 1, 1) := by decide +kernel
theorem dX10_graceLeft_27 : decode cX10_graceLeft 27 = .ok (.iconst 4, 1) := by decide +kernel
theorem dX10_graceLeft_28 : decode cX10_graceLeft 28 = .ok (.invokevirtual 261, 3) := by decide +kernel
theorem dX10_graceLeft_31 : decode cX10_graceLeft 31 = .ok (.aload_n 0, 1) := by decide +kernel
theorem dX10_graceLeft_32 : decode cX10_graceLeft 32 = .ok (.getfield 7, 3) := by decide +kernel
theorem dX10_graceLeft_35 : decode cX10_graceLeft 35 = .ok (.iconst 3, 1) := by decide +kernel
theorem dX10_graceLeft_36 : decode cX10_graceLeft 36 = .ok (.iaload, 1) := by decide +kernel
theorem dX10_graceLeft_37 : decode cX10_graceLeft 37 = .ok (.iadd, 1) := by decide +kernel
theorem dX10_graceLeft_38 : decode cX10_graceLeft 38 = .ok (.aload_n 0, 1) := by decide +kernel
theorem dX10_graceLeft_39 : decode cX10_graceLeft 39 = .ok (.getfield 7, 3) := by decide +kernel
theorem dX10_graceLeft_42 : decode cX10_graceLeft 42 = .ok (.iconst 4, 1) := by decide +kernel
theorem dX10_graceLeft_43 : decode cX10_graceLeft 43 = .ok (.iaload, 1) := by decide +kernel
theorem dX10_graceLeft_44 : decode cX10_graceLeft 44 = .ok (.isub, 1) := by decide +kernel
theorem dX10_graceLeft_45 : decode cX10_graceLeft 45 = .ok (.invokestatic 345, 3) := by decide +kernel
theorem dX10_graceLeft_48 : decode cX10_graceLeft 48 = .ok (.goto 4, 3) := by decide +kernel
theorem dX10_graceLeft_51 : decode cX10_graceLeft 51 = .ok (.iconst (-1), 1) := by decide +kernel
theorem dX10_graceLeft_52 : decode cX10_graceLeft 52 = .ok (.ireturn, 1) := by decide +kernel
theorem dX10_holds_0 : decode cX10_holds 0 = .ok (.aload_n 0, 1) := by decide +kernel
theorem dX10_holds_1 : decode cX10_holds 1 = .ok (.aload_n 0, 1) := by decide +kernel
theorem dX10_holds_2 : decode cX10_holds 2 = .ok (.iload_n 1, 1) := by decide +kernel
theorem dX10_holds_3 : decode cX10_holds 3 = .ok (.invokevirtual 330, 3) := by decide +kernel
theorem dX10_holds_6 : decode cX10_holds 6 = .ok (.invokevirtual 333, 3) := by decide +kernel
theorem dX10_holds_9 : decode cX10_holds 9 = .ok (.ifCond .eq 15, 3) := by decide +kernel
theorem dX10_holds_12 : decode cX10_holds 12 = .ok (.aload_n 0, 1) := by decide +kernel
theorem dX10_holds_13 : decode cX10_holds 13 = .ok (.iload_n 1, 1) := by decide +kernel
theorem dX10_holds_14 : decode cX10_holds 14 = .ok (.invokevirtual 337, 3) := by decide +kernel
theorem dX10_holds_17 : decode cX10_holds 17 = .ok (.ifCond .eq 7, 3) := by decide +kernel
theorem dX10_holds_20 : decode cX10_holds 20 = .ok (.iconst 1, 1) := by decide +kernel
theorem dX10_holds_21 : decode cX10_holds 21 = .ok (.goto 4, 3) := by decide +kernel
theorem dX10_holds_24 : decode cX10_holds 24 = .ok (.iconst 0, 1) := by decide +kernel
theorem dX10_holds_25 : decode cX10_holds 25 = .ok (.ireturn, 1) := by decide +kernel
theorem dX10_interestPot_0 : decode cX10_interestPot 0 = .ok (.aload_n 0, 1) := by decide +kernel
theorem dX10_interestPot_1 : decode cX10_interestPot 1 = .ok (.iconst 0, 1) := by decide +kernel
theorem dX10_interestPot_2 : decode cX10_interestPot 2 = .ok (.putfield 80, 3) := by decide +kernel
theorem dX10_interestPot_5 : decode cX10_interestPot 5 = .ok (.aload_n 0, 1) := by decide +kernel
theorem dX10_interestPot_6 : decode cX10_interestPot 6 = .ok (.getfield 7, 3) := by decide +kernel
theorem dX10_interestPot_9 : decode cX10_interestPot 9 = .ok (.bipush 7, 2) := by decide +kernel
theorem dX10_interestPot_11 : decode cX10_interestPot 11 = .ok (.iaload, 1) := by decide +kernel
theorem dX10_interestPot_12 : decode cX10_interestPot 12 = .ok (.ireturn, 1) := by decide +kernel
theorem dX10_isMilestone_0 : decode cX10_isMilestone 0 = .ok (.iload_n 1, 1) := by decide +kernel
theorem dX10_isMilestone_1 : decode cX10_isMilestone 1 = .ok (.i2l, 1) := by decide +kernel
theorem dX10_isMilestone_2 : decode cX10_isMilestone 2 = .ok (.lconst 0, 1) := by decide +kernel
theorem dX10_isMilestone_3 : decode cX10_isMilestone 3 = .ok (.aload_n 0, 1) := by decide +kernel
theorem dX10_isMilestone_4 : decode cX10_isMilestone 4 = .ok (.getfield 7, 3) := by decide +kernel
theorem dX10_isMilestone_7 : decode cX10_isMilestone 7 = .ok (.bipush 13, 2) := by decide +kernel
theorem dX10_isMilestone_9 : decode cX10_isMilestone 9 = .ok (.iaload, 1) := by decide +kernel
theorem dX10_isMilestone_10 : decode cX10_isMilestone 10 = .ok (.iconst 1, 1) := by decide +kernel
theorem dX10_isMilestone_11 : decode cX10_isMilestone 11 = .ok (.isub, 1) := by decide +kernel
theorem dX10_isMilestone_12 : decode cX10_isMilestone 12 = .ok (.i2l, 1) := by decide +kernel
theorem dX10_isMilestone_13 : decode cX10_isMilestone 13 = .ok (.invokestatic 152, 3) := by decide +kernel
theorem dX10_isMilestone_16 : decode cX10_isMilestone 16 = .ok (.ireturn, 1) := by decide +kernel
theorem dX10_isProof_0 : decode cX10_isProof 0 = .ok (.iload_n 1, 1) := by decide +kernel
theorem dX10_isProof_1 : decode cX10_isProof 1 = .ok (.i2l, 1) := by decide +kernel
theorem dX10_isProof_2 : decode cX10_isProof 2 = .ok (.lconst 0, 1) := by decide +kernel
theorem dX10_isProof_3 : decode cX10_isProof 3 = .ok (.aload_n 0, 1) := by decide +kernel
theorem dX10_isProof_4 : decode cX10_isProof 4 = .ok (.getfield 7, 3) := by decide +kernel
theorem dX10_isProof_7 : decode cX10_isProof 7 = .ok (.bipush 14, 2) := by decide +kernel
theorem dX10_isProof_9 : decode cX10_isProof 9 = .ok (.iaload, 1) := by decide +kernel
theorem dX10_isProof_10 : decode cX10_isProof 10 = .ok (.iconst 1, 1) := by decide +kernel
theorem dX10_isProof_11 : decode cX10_isProof 11 = .ok (.isub, 1) := by decide +kernel
theorem dX10_isProof_12 : decode cX10_isProof 12 = .ok (.i2l, 1) := by decide +kernel
theorem dX10_isProof_13 : decode cX10_isProof 13 = .ok (.invokestatic 152, 3) := by decide +kernel
theorem dX10_isProof_16 : decode cX10_isProof 16 = .ok (.ireturn, 1) := by decide +kernel
theorem dX10_isShare_0 : decode cX10_isShare 0 = .ok (.iload_n 0, 1) := by decide +kernel
theorem dX10_isShare_1 : decode cX10_isShare 1 = .ok (.i2l, 1) := by decide +kernel
theorem dX10_isShare_2 : decode cX10_isShare 2 = .ok (.lconst 0, 1) := by decide +kernel
theorem dX10_isShare_3 : decode cX10_isShare 3 = .ok (.ldc2_w 343, 3) := by decide +kernel
theorem dX10_isShare_6 : decode cX10_isShare 6 = .ok (.invokestatic 152, 3) := by decide +kernel
theorem dX10_isShare_9 : decode cX10_isShare 9 = .ok (.ireturn, 1) := by decide +kernel
theorem dX10_isShort_0 : decode cX10_isShort 0 = .ok (.iconst 0, 1) := by decide +kernel
theorem dX10_isShort_1 : decode cX10_isShort 1 = .ok (.istore_n 1, 1) := by decide +kernel
theorem dX10_isShort_2 : decode cX10_isShort 2 = .ok (.iconst 0, 1) := by decide +kernel
theorem dX10_isShort_3 : decode cX10_isShort 3 = .ok (.istore_n 2, 1) := by decide +kernel
theorem dX10_isShort_4 : decode cX10_isShort 4 = .ok (.iload_n 2, 1) := by decide +kernel
theorem dX10_isShort_5 : decode cX10_isShort 5 = .ok (.aload_n 0, 1) := by decide +kernel
theorem dX10_isShort_6 : decode cX10_isShort 6 = .ok (.getfield 7, 3) := by decide +kernel
theorem dX10_isShort_9 : decode cX10_isShort 9 = .ok (.bipush 13, 2) := by decide +kernel
theorem dX10_isShort_11 : decode cX10_isShort 11 = .ok (.iaload, 1) := by decide +kernel
theorem dX10_isShort_12 : decode cX10_isShort 12 = .ok (.if_icmp .ge 35, 3) := by decide +kernel
theorem dX10_isShort_15 : decode cX10_isShort 15 = .ok (.iload_n 1, 1) := by decide +kernel
theorem dX10_isShort_16 : decode cX10_isShort 16 = .ok (.ifCond .ne 19, 3) := by decide +kernel
theorem dX10_isShort_19 : decode cX10_isShort 19 = .ok (.aload_n 0, 1) := by decide +kernel
theorem dX10_isShort_20 : decode cX10_isShort 20 = .ok (.iload_n 2, 1) := by decide +kernel
theorem dX10_isShort_21 : decode cX10_isShort 21 = .ok (.invokevirtual 306, 3) := by decide +kernel
theorem dX10_isShort_24 : decode cX10_isShort 24 = .ok (.ifCond .eq 15, 3) := by decide +kernel
theorem dX10_isShort_27 : decode cX10_isShort 27 = .ok (.aload_n 0, 1) := by decide +kernel
theorem dX10_isShort_28 : decode cX10_isShort 28 = .ok (.iload_n 2, 1) := by decide +kernel
theorem dX10_isShort_29 : decode cX10_isShort 29 = .ok (.invokevirtual 277, 3) := by decide +kernel
theorem dX10_isShort_32 : decode cX10_isShort 32 = .ok (.ifCond .le 7, 3) := by decide +kernel
theorem dX10_isShort_35 : decode cX10_isShort 35 = .ok (.iconst 1, 1) := by decide +kernel
theorem dX10_isShort_36 : decode cX10_isShort 36 = .ok (.goto 4, 3) := by decide +kernel
theorem dX10_isShort_39 : decode cX10_isShort 39 = .ok (.iconst 0, 1) := by decide +kernel
theorem dX10_isShort_40 : decode cX10_isShort 40 = .ok (.istore_n 1, 1) := by decide +kernel
theorem dX10_isShort_41 : decode cX10_isShort 41 = .ok (.iinc 2 1, 3) := by decide +kernel
theorem dX10_isShort_44 : decode cX10_isShort 44 = .ok (.goto (-40), 3) := by decide +kernel
theorem dX10_isShort_47 : decode cX10_isShort 47 = .ok (.iload_n 1, 1) := by decide +kernel
theorem dX10_isShort_48 : decode cX10_isShort 48 = .ok (.ireturn, 1) := by decide +kernel
theorem dX10_isSubmitted_0 : decode cX10_isSubmitted 0 = .ok (.aload_n 0, 1) := by decide +kernel
theorem dX10_isSubmitted_1 : decode cX10_isSubmitted 1 = .ok (.aload_n 0, 1) := by decide +kernel
theorem dX10_isSubmitted_2 : decode cX10_isSubmitted 2 = .ok (.iload_n 1, 1) := by decide +kernel
theorem dX10_isSubmitted_3 : decode cX10_isSubmitted 3 = .ok (.invokevirtual 348, 3) := by decide +kernel
theorem dX10_isSubmitted_6 : decode cX10_isSubmitted 6 = .ok (.invokevirtual 333, 3) := by decide +kernel
theorem dX10_isSubmitted_9 : decode cX10_isSubmitted 9 = .ok (.ifCond .eq 22, 3) := by decide +kernel
theorem dX10_isSubmitted_12 : decode cX10_isSubmitted 12 = .ok (.aload_n 0, 1) := by decide +kernel
theorem dX10_isSubmitted_13 : decode cX10_isSubmitted 13 = .ok (.getfield 7, 3) := by decide +kernel
theorem dX10_isSubmitted_16 : decode cX10_isSubmitted 16 = .ok (.bipush 12, 2) := by decide +kernel
theorem dX10_isSubmitted_18 : decode cX10_isSubmitted 18 = .ok (.iaload, 1) := by decide +kernel
theorem dX10_isSubmitted_19 : decode cX10_isSubmitted 19 = .ok (.iload_n 1, 1) := by decide +kernel
theorem dX10_isSubmitted_20 : decode cX10_isSubmitted 20 = .ok (.ishr, 1) := by decide +kernel
theorem dX10_isSubmitted_21 : decode cX10_isSubmitted 21 = .ok (.iconst 1, 1) := by decide +kernel
theorem dX10_isSubmitted_22 : decode cX10_isSubmitted 22 = .ok (.iand, 1) := by decide +kernel
theorem dX10_isSubmitted_23 : decode cX10_isSubmitted 23 = .ok (.iconst 1, 1) := by decide +kernel
theorem dX10_isSubmitted_24 : decode cX10_isSubmitted 24 = .ok (.if_icmp .ne 7, 3) := by decide +kernel
theorem dX10_isSubmitted_27 : decode cX10_isSubmitted 27 = .ok (.iconst 1, 1) := by decide +kernel
theorem dX10_isSubmitted_28 : decode cX10_isSubmitted 28 = .ok (.goto 4, 3) := by decide +kernel
theorem dX10_isSubmitted_31 : decode cX10_isSubmitted 31 = .ok (.iconst 0, 1) := by decide +kernel
theorem dX10_isSubmitted_32 : decode cX10_isSubmitted 32 = .ok (.ireturn, 1) := by decide +kernel
theorem dX10_isTrial_0 : decode cX10_isTrial 0 = .ok (.iload_n 0, 1) := by decide +kernel
theorem dX10_isTrial_1 : decode cX10_isTrial 1 = .ok (.i2l, 1) := by decide +kernel
theorem dX10_isTrial_2 : decode cX10_isTrial 2 = .ok (.lconst 1, 1) := by decide +kernel
theorem dX10_isTrial_3 : decode cX10_isTrial 3 = .ok (.ldc2_w 361, 3) := by decide +kernel
theorem dX10_isTrial_6 : decode cX10_isTrial 6 = .ok (.invokestatic 152, 3) := by decide +kernel
theorem dX10_isTrial_9 : decode cX10_isTrial 9 = .ok (.ireturn, 1) := by decide +kernel
theorem dX10_milestones_0 : decode cX10_milestones 0 = .ok (.aload_n 0, 1) := by decide +kernel
theorem dX10_milestones_1 : decode cX10_milestones 1 = .ok (.iconst 0, 1) := by decide +kernel
theorem dX10_milestones_2 : decode cX10_milestones 2 = .ok (.putfield 80, 3) := by decide +kernel
theorem dX10_milestones_5 : decode cX10_milestones 5 = .ok (.aload_n 0, 1) := by decide +kernel
theorem dX10_milestones_6 : decode cX10_milestones 6 = .ok (.getfield 7, 3) := by decide +kernel
theorem dX10_milestones_9 : decode cX10_milestones 9 = .ok (.bipush 13, 2) := by decide +kernel
theorem dX10_milestones_11 : decode cX10_milestones 11 = .ok (.iaload, 1) := by decide +kernel
theorem dX10_milestones_12 : decode cX10_milestones 12 = .ok (.ireturn, 1) := by decide +kernel
theorem dX10_missingProofs_0 : decode cX10_missingProofs 0 = .ok (.aload_n 0, 1) := by decide +kernel
theorem dX10_missingProofs_1 : decode cX10_missingProofs 1 = .ok (.aload_n 0, 1) := by decide +kernel
theorem dX10_missingProofs_2 : decode cX10_missingProofs 2 = .ok (.iload_n 1, 1) := by decide +kernel
theorem dX10_missingProofs_3 : decode cX10_missingProofs 3 = .ok (.invokevirtual 330, 3) := by decide +kernel
theorem dX10_missingProofs_6 : decode cX10_missingProofs 6 = .ok (.invokevirtual 333, 3) := by decide +kernel
theorem dX10_missingProofs_9 : decode cX10_missingProofs 9 = .ok (.ifCond .ne 5, 3) := by decide +kernel
theorem dX10_missingProofs_12 : decode cX10_missingProofs 12 = .ok (.iconst 0, 1) := by decide +kernel
theorem dX10_missingProofs_13 : decode cX10_missingProofs 13 = .ok (.ireturn, 1) := by decide +kernel
theorem dX10_missingProofs_14 : decode cX10_missingProofs 14 = .ok (.aload_n 0, 1) := by decide +kernel
theorem dX10_missingProofs_15 : decode cX10_missingProofs 15 = .ok (.invokevirtual 284, 3) := by decide +kernel
theorem dX10_missingProofs_18 : decode cX10_missingProofs 18 = .ok (.istore_n 2, 1) := by decide +kernel
theorem dX10_missingProofs_19 : decode cX10_missingProofs 19 = .ok (.iconst (-1), 1) := by decide +kernel
theorem dX10_missingProofs_20 : decode cX10_missingProofs 20 = .ok (.istore_n 3, 1) := by decide +kernel
theorem dX10_missingProofs_21 : decode cX10_missingProofs 21 = .ok (.iconst 0, 1) := by decide +kernel
theorem dX10_missingProofs_22 : decode cX10_missingProofs 22 = .ok (.istore 4, 2) := by decide +kernel
theorem dX10_missingProofs_24 : decode cX10_missingProofs 24 = .ok (.iload 4, 2) := by decide +kernel
theorem dX10_missingProofs_26 : decode cX10_missingProofs 26 = .ok (.iconst 1, 1) := by decide +kernel
theorem dX10_missingProofs_27 : decode cX10_missingProofs 27 = .ok (.aload_n 0, 1) := by decide +kernel
theorem dX10_missingProofs_28 : decode cX10_missingProofs 28 = .ok (.getfield 7, 3) := by decide +kernel
theorem dX10_missingProofs_31 : decode cX10_missingProofs 31 = .ok (.bipush 14, 2) := by decide +kernel
theorem dX10_missingProofs_33 : decode cX10_missingProofs 33 = .ok (.iaload, 1) := by decide +kernel
theorem dX10_missingProofs_34 : decode cX10_missingProofs 34 = .ok (.ishl, 1) := by decide +kernel
theorem dX10_missingProofs_35 : decode cX10_missingProofs 35 = .ok (.if_icmp .ge 91, 3) := by decide +kernel
theorem dX10_missingProofs_38 : decode cX10_missingProofs 38 = .ok (.iload 4, 2) := by decide +kernel
theorem dX10_missingProofs_40 : decode cX10_missingProofs 40 = .ok (.aload_n 0, 1) := by decide +kernel
theorem dX10_missingProofs_41 : decode cX10_missingProofs 41 = .ok (.getfield 7, 3) := by decide +kernel
theorem dX10_missingProofs_44 : decode cX10_missingProofs 44 = .ok (.bipush 12, 2) := by decide +kernel
theorem dX10_missingProofs_46 : decode cX10_missingProofs 46 = .ok (.iaload, 1) := by decide +kernel
theorem dX10_missingProofs_47 : decode cX10_missingProofs 47 = .ok (.iand, 1) := by decide +kernel
theorem dX10_missingProofs_48 : decode cX10_missingProofs 48 = .ok (.ifCond .ne 7, 3) := by decide +kernel
theorem dX10_missingProofs_51 : decode cX10_missingProofs 51 = .ok (.iconst 1, 1) := by decide +kernel
theorem dX10_missingProofs_52 : decode cX10_missingProofs 52 = .ok (.goto 4, 3) := by decide +kernel
theorem dX10_missingProofs_55 : decode cX10_missingProofs 55 = .ok (.iconst 0, 1) := by decide +kernel
theorem dX10_missingProofs_56 : decode cX10_missingProofs 56 = .ok (.istore 5, 2) := by decide +kernel
theorem dX10_missingProofs_58 : decode cX10_missingProofs 58 = .ok (.iload_n 3, 1) := by decide +kernel
theorem dX10_missingProofs_59 : decode cX10_missingProofs 59 = .ok (.iconst (-1), 1) := by decide +kernel
theorem dX10_missingProofs_60 : decode cX10_missingProofs 60 = .ok (.if_icmp .eq 15, 3) := by decide +kernel
theorem dX10_missingProofs_63 : decode cX10_missingProofs 63 = .ok (.iload 4, 2) := by decide +kernel
theorem dX10_missingProofs_65 : decode cX10_missingProofs 65 = .ok (.invokestatic 340, 3) := by decide +kernel
theorem dX10_missingProofs_68 : decode cX10_missingProofs 68 = .ok (.iload_n 3, 1) := by decide +kernel
theorem dX10_missingProofs_69 : decode cX10_missingProofs 69 = .ok (.invokestatic 340, 3) := by decide +kernel
theorem dX10_missingProofs_72 : decode cX10_missingProofs 72 = .ok (.if_icmp .ge 7, 3) := by decide +kernel
theorem dX10_missingProofs_75 : decode cX10_missingProofs 75 = .ok (.iconst 1, 1) := by decide +kernel
theorem dX10_missingProofs_76 : decode cX10_missingProofs 76 = .ok (.goto 4, 3) := by decide +kernel
theorem dX10_missingProofs_79 : decode cX10_missingProofs 79 = .ok (.iconst 0, 1) := by decide +kernel
theorem dX10_missingProofs_80 : decode cX10_missingProofs 80 = .ok (.istore 6, 2) := by decide +kernel
theorem dX10_missingProofs_82 : decode cX10_missingProofs 82 = .ok (.iload 5, 2) := by decide +kernel
theorem dX10_missingProofs_84 : decode cX10_missingProofs 84 = .ok (.ifCond .eq 36, 3) := by decide +kernel
theorem dX10_missingProofs_87 : decode cX10_missingProofs 87 = .ok (.iload 6, 2) := by decide +kernel
theorem dX10_missingProofs_89 : decode cX10_missingProofs 89 = .ok (.ifCond .eq 31, 3) := by decide +kernel
theorem dX10_missingProofs_92 : decode cX10_missingProofs 92 = .ok (.aload_n 0, 1) := by decide +kernel
theorem dX10_missingProofs_93 : decode cX10_missingProofs 93 = .ok (.iload_n 1, 1) := by decide +kernel
theorem dX10_missingProofs_94 : decode cX10_missingProofs 94 = .ok (.aload_n 0, 1) := by decide +kernel
theorem dX10_missingProofs_95 : decode cX10_missingProofs 95 = .ok (.getfield 7, 3) := by decide +kernel
theorem dX10_missingProofs_98 : decode cX10_missingProofs 98 = .ok (.iconst 4, 1) := by decide +kernel
theorem dX10_missingProofs_99 : decode cX10_missingProofs 99 = .ok (.iaload, 1) := by decide +kernel
theorem dX10_missingProofs_100 : decode cX10_missingProofs 100 = .ok (.aload_n 0, 1) := by decide +kernel
theorem dX10_missingProofs_101 : decode cX10_missingProofs 101 = .ok (.getfield 7, 3) := by decide +kernel
theorem dX10_missingProofs_104 : decode cX10_missingProofs 104 = .ok (.bipush 12, 2) := by decide +kernel
theorem dX10_missingProofs_106 : decode cX10_missingProofs 106 = .ok (.iaload, 1) := by decide +kernel
theorem dX10_missingProofs_107 : decode cX10_missingProofs 107 = .ok (.iload 4, 2) := by decide +kernel
theorem dX10_missingProofs_109 : decode cX10_missingProofs 109 = .ok (.ior, 1) := by decide +kernel
theorem dX10_missingProofs_110 : decode cX10_missingProofs 110 = .ok (.iload_n 2, 1) := by decide +kernel
theorem dX10_missingProofs_111 : decode cX10_missingProofs 111 = .ok (.invokevirtual 288, 3) := by decide +kernel
theorem dX10_missingProofs_114 : decode cX10_missingProofs 114 = .ok (.ifCond .eq 6, 3) := by decide +kernel
theorem dX10_missingProofs_117 : decode cX10_missingProofs 117 = .ok (.iload 4, 2) := by decide +kernel
theorem dX10_missingProofs_119 : decode cX10_missingProofs 119 = .ok (.istore_n 3, 1) := by decide +kernel
theorem dX10_missingProofs_120 : decode cX10_missingProofs 120 = .ok (.iinc 4 1, 3) := by decide +kernel
theorem dX10_missingProofs_123 : decode cX10_missingProofs 123 = .ok (.goto (-99), 3) := by decide +kernel
theorem dX10_missingProofs_126 : decode cX10_missingProofs 126 = .ok (.iload_n 3, 1) := by decide +kernel
theorem dX10_missingProofs_127 : decode cX10_missingProofs 127 = .ok (.ireturn, 1) := by decide +kernel
theorem dX10_nextDue_0 : decode cX10_nextDue 0 = .ok (.aload_n 0, 1) := by decide +kernel
theorem dX10_nextDue_1 : decode cX10_nextDue 1 = .ok (.iconst 0, 1) := by decide +kernel
theorem dX10_nextDue_2 : decode cX10_nextDue 2 = .ok (.putfield 80, 3) := by decide +kernel
theorem dX10_nextDue_5 : decode cX10_nextDue 5 = .ok (.aload_n 0, 1) := by decide +kernel
theorem dX10_nextDue_6 : decode cX10_nextDue 6 = .ok (.iconst 0, 1) := by decide +kernel
theorem dX10_nextDue_7 : decode cX10_nextDue 7 = .ok (.invokevirtual 295, 3) := by decide +kernel
theorem dX10_nextDue_10 : decode cX10_nextDue 10 = .ok (.ireturn, 1) := by decide +kernel
theorem dX10_paid_0 : decode cX10_paid 0 = .ok (.aload_n 0, 1) := by decide +kernel
theorem dX10_paid_1 : decode cX10_paid 1 = .ok (.aload_n 0, 1) := by decide +kernel
theorem dX10_paid_2 : decode cX10_paid 2 = .ok (.iload_n 1, 1) := by decide +kernel
theorem dX10_paid_3 : decode cX10_paid 3 = .ok (.invokevirtual 330, 3) := by decide +kernel
theorem dX10_paid_6 : decode cX10_paid 6 = .ok (.invokevirtual 333, 3) := by decide +kernel
theorem dX10_paid_9 : decode cX10_paid 9 = .ok (.ifCond .eq 12, 3) := by decide +kernel
theorem dX10_paid_12 : decode cX10_paid 12 = .ok (.aload_n 0, 1) := by decide +kernel
theorem dX10_paid_13 : decode cX10_paid 13 = .ok (.iload_n 1, 1) := by decide +kernel
theorem dX10_paid_14 : decode cX10_paid 14 = .ok (.iconst 1, 1) := by decide +kernel
theorem dX10_paid_15 : decode cX10_paid 15 = .ok (.invokevirtual 261, 3) := by decide +kernel
theorem dX10_paid_18 : decode cX10_paid 18 = .ok (.goto 4, 3) := by decide +kernel
theorem dX10_paid_21 : decode cX10_paid 21 = .ok (.iconst 0, 1) := by decide +kernel
theorem dX10_paid_22 : decode cX10_paid 22 = .ok (.ireturn, 1) := by decide +kernel
theorem dX10_paidAfter_0 : decode cX10_paidAfter 0 = .ok (.aload_n 0, 1) := by decide +kernel
theorem dX10_paidAfter_1 : decode cX10_paidAfter 1 = .ok (.aload_n 0, 1) := by decide +kernel
theorem dX10_paidAfter_2 : decode cX10_paidAfter 2 = .ok (.iload_n 1, 1) := by decide +kernel
theorem dX10_paidAfter_3 : decode cX10_paidAfter 3 = .ok (.invokevirtual 330, 3) := by decide +kernel
theorem dX10_paidAfter_6 : decode cX10_paidAfter 6 = .ok (.iload_n 2, 1) := by decide +kernel
theorem dX10_paidAfter_7 : decode cX10_paidAfter 7 = .ok (.invokestatic 363, 3) := by decide +kernel
theorem dX10_paidAfter_10 : decode cX10_paidAfter 10 = .ok (.invokevirtual 358, 3) := by decide +kernel
theorem dX10_paidAfter_13 : decode cX10_paidAfter 13 = .ok (.ifCond .ne 5, 3) := by decide +kernel
theorem dX10_paidAfter_16 : decode cX10_paidAfter 16 = .ok (.iconst 0, 1) := by decide +kernel
theorem dX10_paidAfter_17 : decode cX10_paidAfter 17 = .ok (.ireturn, 1) := by decide +kernel
theorem dX10_paidAfter_18 : decode cX10_paidAfter 18 = .ok (.aload_n 0, 1) := by decide +kernel
theorem dX10_paidAfter_19 : decode cX10_paidAfter 19 = .ok (.invokevirtual 366, 3) := by decide +kernel
theorem dX10_paidAfter_22 : decode cX10_paidAfter 22 = .ok (.aload_n 0, 1) := by decide +kernel
theorem dX10_paidAfter_23 : decode cX10_paidAfter 23 = .ok (.iload_n 2, 1) := by decide +kernel
theorem dX10_paidAfter_24 : decode cX10_paidAfter 24 = .ok (.invokevirtual 369, 3) := by decide +kernel
theorem dX10_paidAfter_27 : decode cX10_paidAfter 27 = .ok (.aload_n 0, 1) := by decide +kernel
theorem dX10_paidAfter_28 : decode cX10_paidAfter 28 = .ok (.iload_n 1, 1) := by decide +kernel
theorem dX10_paidAfter_29 : decode cX10_paidAfter 29 = .ok (.iconst 1, 1) := by decide +kernel
theorem dX10_paidAfter_30 : decode cX10_paidAfter 30 = .ok (.invokevirtual 261, 3) := by decide +kernel
theorem dX10_paidAfter_33 : decode cX10_paidAfter 33 = .ok (.istore_n 3, 1) := by decide +kernel
theorem dX10_paidAfter_34 : decode cX10_paidAfter 34 = .ok (.aload_n 0, 1) := by decide +kernel
theorem dX10_paidAfter_35 : decode cX10_paidAfter 35 = .ok (.invokevirtual 372, 3) := by decide +kernel
theorem dX10_paidAfter_38 : decode cX10_paidAfter 38 = .ok (.iload_n 3, 1) := by decide +kernel
theorem dX10_paidAfter_39 : decode cX10_paidAfter 39 = .ok (.ireturn, 1) := by decide +kernel
theorem dX10_pay_0 : decode cX10_pay 0 = .ok (.aload_n 0, 1) := by decide +kernel
theorem dX10_pay_1 : decode cX10_pay 1 = .ok (.iload_n 1, 1) := by decide +kernel
theorem dX10_pay_2 : decode cX10_pay 2 = .ok (.invokevirtual 330, 3) := by decide +kernel
theorem dX10_pay_5 : decode cX10_pay 5 = .ok (.istore_n 3, 1) := by decide +kernel
theorem dX10_pay_6 : decode cX10_pay 6 = .ok (.aload_n 0, 1) := by decide +kernel
theorem dX10_pay_7 : decode cX10_pay 7 = .ok (.iload_n 3, 1) := by decide +kernel
theorem dX10_pay_8 : decode cX10_pay 8 = .ok (.iload_n 3, 1) := by decide +kernel
theorem dX10_pay_9 : decode cX10_pay 9 = .ok (.ifCond .eq 22, 3) := by decide +kernel
theorem dX10_pay_12 : decode cX10_pay 12 = .ok (.iload_n 2, 1) := by decide +kernel
theorem dX10_pay_13 : decode cX10_pay 13 = .ok (.i2l, 1) := by decide +kernel
theorem dX10_pay_14 : decode cX10_pay 14 = .ok (.lconst 1, 1) := by decide +kernel
theorem dX10_pay_15 : decode cX10_pay 15 = .ok (.aload_n 0, 1) := by decide +kernel
theorem dX10_pay_16 : decode cX10_pay 16 = .ok (.iload_n 1, 1) := by decide +kernel
theorem dX10_pay_17 : decode cX10_pay 17 = .ok (.invokevirtual 277, 3) := by decide +kernel
theorem dX10_pay_20 : decode cX10_pay 20 = .ok (.i2l, 1) := by decide +kernel
theorem dX10_pay_21 : decode cX10_pay 21 = .ok (.invokestatic 152, 3) := by decide +kernel
theorem dX10_pay_24 : decode cX10_pay 24 = .ok (.ifCond .eq 7, 3) := by decide +kernel
theorem dX10_pay_27 : decode cX10_pay 27 = .ok (.iconst 1, 1) := by decide +kernel
theorem dX10_pay_28 : decode cX10_pay 28 = .ok (.goto 4, 3) := by decide +kernel
theorem dX10_pay_31 : decode cX10_pay 31 = .ok (.iconst 0, 1) := by decide +kernel
theorem dX10_pay_32 : decode cX10_pay 32 = .ok (.invokevirtual 358, 3) := by decide +kernel
theorem dX10_pay_35 : decode cX10_pay 35 = .ok (.ifCond .ne 5, 3) := by decide +kernel
theorem dX10_pay_38 : decode cX10_pay 38 = .ok (.iconst 0, 1) := by decide +kernel
theorem dX10_pay_39 : decode cX10_pay 39 = .ok (.ireturn, 1) := by decide +kernel
theorem dX10_pay_40 : decode cX10_pay 40 = .ok (.aload_n 0, 1) := by decide +kernel
theorem dX10_pay_41 : decode cX10_pay 41 = .ok (.iload_n 1, 1) := by decide +kernel
theorem dX10_pay_42 : decode cX10_pay 42 = .ok (.invokevirtual 398, 3) := by decide +kernel
theorem dX10_pay_45 : decode cX10_pay 45 = .ok (.ifCond .eq 11, 3) := by decide +kernel
theorem dX10_pay_48 : decode cX10_pay 48 = .ok (.iload_n 2, 1) := by decide +kernel
theorem dX10_pay_49 : decode cX10_pay 49 = .ok (.aload_n 0, 1) := by decide +kernel
theorem dX10_pay_50 : decode cX10_pay 50 = .ok (.invokevirtual 298, 3) := by decide +kernel
theorem dX10_pay_53 : decode cX10_pay 53 = .ok (.if_icmp .le 10, 3) := by decide +kernel
theorem dX10_pay_56 : decode cX10_pay 56 = .ok (.aload_n 0, 1) := by decide +kernel
theorem dX10_pay_57 : decode cX10_pay 57 = .ok (.iconst 3, 1) := by decide +kernel
theorem dX10_pay_58 : decode cX10_pay 58 = .ok (.putfield 80, 3) := by decide +kernel
theorem dX10_pay_61 : decode cX10_pay 61 = .ok (.iconst 0, 1) := by decide +kernel
theorem dX10_pay_62 : decode cX10_pay 62 = .ok (.ireturn, 1) := by decide +kernel
theorem dX10_pay_63 : decode cX10_pay 63 = .ok (.aload_n 0, 1) := by decide +kernel
theorem dX10_pay_64 : decode cX10_pay 64 = .ok (.invokevirtual 395, 3) := by decide +kernel
theorem dX10_pay_67 : decode cX10_pay 67 = .ok (.aload_n 0, 1) := by decide +kernel
theorem dX10_pay_68 : decode cX10_pay 68 = .ok (.iload_n 1, 1) := by decide +kernel
theorem dX10_pay_69 : decode cX10_pay 69 = .ok (.iload_n 2, 1) := by decide +kernel
theorem dX10_pay_70 : decode cX10_pay 70 = .ok (.invokevirtual 309, 3) := by decide +kernel
theorem dX10_pay_73 : decode cX10_pay 73 = .ok (.istore 4, 2) := by decide +kernel
theorem dX10_pay_75 : decode cX10_pay 75 = .ok (.aload_n 0, 1) := by decide +kernel
theorem dX10_pay_76 : decode cX10_pay 76 = .ok (.iload_n 1, 1) := by decide +kernel
theorem dX10_pay_77 : decode cX10_pay 77 = .ok (.invokevirtual 312, 3) := by decide +kernel
theorem dX10_pay_80 : decode cX10_pay 80 = .ok (.iload 4, 2) := by decide +kernel
theorem dX10_pay_82 : decode cX10_pay 82 = .ok (.ireturn, 1) := by decide +kernel
theorem dX10_payDue_0 : decode cX10_payDue 0 = .ok (.iconst 0, 1) := by decide +kernel
theorem dX10_payDue_1 : decode cX10_payDue 1 = .ok (.istore_n 1, 1) := by decide +kernel
theorem dX10_payDue_2 : decode cX10_payDue 2 = .ok (.aload_n 0, 1) := by decide +kernel
theorem dX10_payDue_3 : decode cX10_payDue 3 = .ok (.iconst 0, 1) := by decide +kernel
theorem dX10_payDue_4 : decode cX10_payDue 4 = .ok (.invokevirtual 295, 3) := by decide +kernel
theorem dX10_payDue_7 : decode cX10_payDue 7 = .ok (.istore_n 2, 1) := by decide +kernel
theorem dX10_payDue_8 : decode cX10_payDue 8 = .ok (.iload_n 2, 1) := by decide +kernel
theorem dX10_payDue_9 : decode cX10_payDue 9 = .ok (.iconst (-1), 1) := by decide +kernel
theorem dX10_payDue_10 : decode cX10_payDue 10 = .ok (.if_icmp .eq 22, 3) := by decide +kernel
theorem dX10_payDue_13 : decode cX10_payDue 13 = .ok (.aload_n 0, 1) := by decide +kernel
theorem dX10_payDue_14 : decode cX10_payDue 14 = .ok (.getfield 64, 3) := by decide +kernel
theorem dX10_payDue_17 : decode cX10_payDue 17 = .ok (.iload_n 1, 1) := by decide +kernel
theorem dX10_payDue_18 : decode cX10_payDue 18 = .ok (.iload_n 2, 1) := by decide +kernel
theorem dX10_payDue_19 : decode cX10_payDue 19 = .ok (.iastore, 1) := by decide +kernel
theorem dX10_payDue_20 : decode cX10_payDue 20 = .ok (.iinc 1 1, 3) := by decide +kernel
theorem dX10_payDue_23 : decode cX10_payDue 23 = .ok (.aload_n 0, 1) := by decide +kernel
theorem dX10_payDue_24 : decode cX10_payDue 24 = .ok (.iload_n 1, 1) := by decide +kernel
theorem dX10_payDue_25 : decode cX10_payDue 25 = .ok (.invokevirtual 295, 3) := by decide +kernel
theorem dX10_payDue_28 : decode cX10_payDue 28 = .ok (.istore_n 2, 1) := by decide +kernel
theorem dX10_payDue_29 : decode cX10_payDue 29 = .ok (.goto (-21), 3) := by decide +kernel
theorem dX10_payDue_32 : decode cX10_payDue 32 = .ok (.iconst 0, 1) := by decide +kernel
theorem dX10_payDue_33 : decode cX10_payDue 33 = .ok (.istore_n 2, 1) := by decide +kernel
theorem dX10_payDue_34 : decode cX10_payDue 34 = .ok (.iload_n 2, 1) := by decide +kernel
theorem dX10_payDue_35 : decode cX10_payDue 35 = .ok (.iload_n 1, 1) := by decide +kernel
theorem dX10_payDue_36 : decode cX10_payDue 36 = .ok (.if_icmp .ge 56, 3) := by decide +kernel
theorem dX10_payDue_39 : decode cX10_payDue 39 = .ok (.aload_n 0, 1) := by decide +kernel
theorem dX10_payDue_40 : decode cX10_payDue 40 = .ok (.getfield 64, 3) := by decide +kernel
theorem dX10_payDue_43 : decode cX10_payDue 43 = .ok (.iload_n 2, 1) := by decide +kernel
theorem dX10_payDue_44 : decode cX10_payDue 44 = .ok (.iaload, 1) := by decide +kernel
theorem dX10_payDue_45 : decode cX10_payDue 45 = .ok (.istore_n 3, 1) := by decide +kernel
theorem dX10_payDue_46 : decode cX10_payDue 46 = .ok (.aload_n 0, 1) := by decide +kernel
theorem dX10_payDue_47 : decode cX10_payDue 47 = .ok (.iload_n 3, 1) := by decide +kernel
theorem dX10_payDue_48 : decode cX10_payDue 48 = .ok (.invokevirtual 277, 3) := by decide +kernel
theorem dX10_payDue_51 : decode cX10_payDue 51 = .ok (.aload_n 0, 1) := by decide +kernel
theorem dX10_payDue_52 : decode cX10_payDue 52 = .ok (.invokevirtual 298, 3) := by decide +kernel
theorem dX10_payDue_55 : decode cX10_payDue 55 = .ok (.invokestatic 301, 3) := by decide +kernel
theorem dX10_payDue_58 : decode cX10_payDue 58 = .ok (.istore 4, 2) := by decide +kernel
theorem dX10_payDue_60 : decode cX10_payDue 60 = .ok (.aload_n 0, 1) := by decide +kernel
theorem dX10_payDue_61 : decode cX10_payDue 61 = .ok (.iload_n 3, 1) := by decide +kernel
theorem dX10_payDue_62 : decode cX10_payDue 62 = .ok (.invokevirtual 306, 3) := by decide +kernel
theorem dX10_payDue_65 : decode cX10_payDue 65 = .ok (.ifCond .eq 21, 3) := by decide +kernel
theorem dX10_payDue_68 : decode cX10_payDue 68 = .ok (.iload 4, 2) := by decide +kernel
theorem dX10_payDue_70 : decode cX10_payDue 70 = .ok (.ifCond .le 16, 3) := by decide +kernel
theorem dX10_payDue_73 : decode cX10_payDue 73 = .ok (.aload_n 0, 1) := by decide +kernel
theorem dX10_payDue_74 : decode cX10_payDue 74 = .ok (.iload_n 3, 1) := by decide +kernel
theorem dX10_payDue_75 : decode cX10_payDue 75 = .ok (.iload 4, 2) := by decide +kernel
theorem dX10_payDue_77 : decode cX10_payDue 77 = .ok (.invokevirtual 309, 3) := by decide +kernel
theorem dX10_payDue_80 : decode cX10_payDue 80 = .ok (.pop, 1) := by decide +kernel
theorem dX10_payDue_81 : decode cX10_payDue 81 = .ok (.aload_n 0, 1) := by decide +kernel
theorem dX10_payDue_82 : decode cX10_payDue 82 = .ok (.iload_n 3, 1) := by decide +kernel
theorem dX10_payDue_83 : decode cX10_payDue 83 = .ok (.invokevirtual 312, 3) := by decide +kernel
theorem dX10_payDue_86 : decode cX10_payDue 86 = .ok (.iinc 2 1, 3) := by decide +kernel
theorem dX10_payDue_89 : decode cX10_payDue 89 = .ok (.goto (-55), 3) := by decide +kernel
theorem dX10_payDue_92 : decode cX10_payDue 92 = .ok (.return_, 1) := by decide +kernel
theorem dX10_payInterest_0 : decode cX10_payInterest 0 = .ok (.aload_n 0, 1) := by decide +kernel
theorem dX10_payInterest_1 : decode cX10_payInterest 1 = .ok (.iload_n 1, 1) := by decide +kernel
theorem dX10_payInterest_2 : decode cX10_payInterest 2 = .ok (.i2l, 1) := by decide +kernel
theorem dX10_payInterest_3 : decode cX10_payInterest 3 = .ok (.lconst 1, 1) := by decide +kernel
theorem dX10_payInterest_4 : decode cX10_payInterest 4 = .ok (.aload_n 0, 1) := by decide +kernel
theorem dX10_payInterest_5 : decode cX10_payInterest 5 = .ok (.getfield 7, 3) := by decide +kernel
theorem dX10_payInterest_8 : decode cX10_payInterest 8 = .ok (.bipush 7, 2) := by decide +kernel
theorem dX10_payInterest_10 : decode cX10_payInterest 10 = .ok (.iaload, 1) := by decide +kernel
theorem dX10_payInterest_11 : decode cX10_payInterest 11 = .ok (.i2l, 1) := by decide +kernel
theorem dX10_payInterest_12 : decode cX10_payInterest 12 = .ok (.invokestatic 152, 3) := by decide +kernel
theorem dX10_payInterest_15 : decode cX10_payInterest 15 = .ok (.invokevirtual 333, 3) := by decide +kernel
theorem dX10_payInterest_18 : decode cX10_payInterest 18 = .ok (.ifCond .ne 5, 3) := by decide +kernel
theorem dX10_payInterest_21 : decode cX10_payInterest 21 = .ok (.iconst 0, 1) := by decide +kernel
theorem dX10_payInterest_22 : decode cX10_payInterest 22 = .ok (.ireturn, 1) := by decide +kernel
theorem dX10_payInterest_23 : decode cX10_payInterest 23 = .ok (.aload_n 0, 1) := by decide +kernel
theorem dX10_payInterest_24 : decode cX10_payInterest 24 = .ok (.invokevirtual 395, 3) := by decide +kernel
theorem dX10_payInterest_27 : decode cX10_payInterest 27 = .ok (.aload_n 0, 1) := by decide +kernel
theorem dX10_payInterest_28 : decode cX10_payInterest 28 = .ok (.getfield 7, 3) := by decide +kernel
theorem dX10_payInterest_31 : decode cX10_payInterest 31 = .ok (.bipush 7, 2) := by decide +kernel
theorem dX10_payInterest_33 : decode cX10_payInterest 33 = .ok (.dup2, 1) := by decide +kernel
theorem dX10_payInterest_34 : decode cX10_payInterest 34 = .ok (.iaload, 1) := by decide +kernel
theorem dX10_payInterest_35 : decode cX10_payInterest 35 = .ok (.iload_n 1, 1) := by decide +kernel
theorem dX10_payInterest_36 : decode cX10_payInterest 36 = .ok (.isub, 1) := by decide +kernel
theorem dX10_payInterest_37 : decode cX10_payInterest 37 = .ok (.iastore, 1) := by decide +kernel
theorem dX10_payInterest_38 : decode cX10_payInterest 38 = .ok (.aload_n 0, 1) := by decide +kernel
theorem dX10_payInterest_39 : decode cX10_payInterest 39 = .ok (.getfield 7, 3) := by decide +kernel
theorem dX10_payInterest_42 : decode cX10_payInterest 42 = .ok (.iconst 4, 1) := by decide +kernel
theorem dX10_payInterest_43 : decode cX10_payInterest 43 = .ok (.iload_n 1, 1) := by decide +kernel
theorem dX10_payInterest_44 : decode cX10_payInterest 44 = .ok (.iconst (-1), 1) := by decide +kernel
theorem dX10_payInterest_45 : decode cX10_payInterest 45 = .ok (.invokestatic 229, 3) := by decide +kernel
theorem dX10_payInterest_48 : decode cX10_payInterest 48 = .ok (.aload_n 0, 1) := by decide +kernel
theorem dX10_payInterest_49 : decode cX10_payInterest 49 = .ok (.getfield 7, 3) := by decide +kernel
theorem dX10_payInterest_52 : decode cX10_payInterest 52 = .ok (.bipush 7, 2) := by decide +kernel
theorem dX10_payInterest_54 : decode cX10_payInterest 54 = .ok (.iaload, 1) := by decide +kernel
theorem dX10_payInterest_55 : decode cX10_payInterest 55 = .ok (.ireturn, 1) := by decide +kernel
theorem dX10_principal_0 : decode cX10_principal 0 = .ok (.aload_n 0, 1) := by decide +kernel
theorem dX10_principal_1 : decode cX10_principal 1 = .ok (.iconst 0, 1) := by decide +kernel
theorem dX10_principal_2 : decode cX10_principal 2 = .ok (.putfield 80, 3) := by decide +kernel
theorem dX10_principal_5 : decode cX10_principal 5 = .ok (.aload_n 0, 1) := by decide +kernel
theorem dX10_principal_6 : decode cX10_principal 6 = .ok (.getfield 7, 3) := by decide +kernel
theorem dX10_principal_9 : decode cX10_principal 9 = .ok (.bipush 6, 2) := by decide +kernel
theorem dX10_principal_11 : decode cX10_principal 11 = .ok (.iaload, 1) := by decide +kernel
theorem dX10_principal_12 : decode cX10_principal 12 = .ok (.ireturn, 1) := by decide +kernel
theorem dX10_progress_0 : decode cX10_progress 0 = .ok (.aload_n 0, 1) := by decide +kernel
theorem dX10_progress_1 : decode cX10_progress 1 = .ok (.iconst 0, 1) := by decide +kernel
theorem dX10_progress_2 : decode cX10_progress 2 = .ok (.putfield 80, 3) := by decide +kernel
theorem dX10_progress_5 : decode cX10_progress 5 = .ok (.lconst 0, 1) := by decide +kernel
theorem dX10_progress_6 : decode cX10_progress 6 = .ok (.lstore_n 1, 1) := by decide +kernel
theorem dX10_progress_7 : decode cX10_progress 7 = .ok (.lconst 0, 1) := by decide +kernel
theorem dX10_progress_8 : decode cX10_progress 8 = .ok (.lstore_n 3, 1) := by decide +kernel
theorem dX10_progress_9 : decode cX10_progress 9 = .ok (.iconst 0, 1) := by decide +kernel
theorem dX10_progress_10 : decode cX10_progress 10 = .ok (.istore 5, 2) := by decide +kernel
theorem dX10_progress_12 : decode cX10_progress 12 = .ok (.iload 5, 2) := by decide +kernel
theorem dX10_progress_14 : decode cX10_progress 14 = .ok (.aload_n 0, 1) := by decide +kernel
theorem dX10_progress_15 : decode cX10_progress 15 = .ok (.getfield 7, 3) := by decide +kernel
theorem dX10_progress_18 : decode cX10_progress 18 = .ok (.bipush 13, 2) := by decide +kernel
theorem dX10_progress_20 : decode cX10_progress 20 = .ok (.iaload, 1) := by decide +kernel
theorem dX10_progress_21 : decode cX10_progress 21 = .ok (.if_icmp .ge 31, 3) := by decide +kernel
theorem dX10_progress_24 : decode cX10_progress 24 = .ok (.lload_n 1, 1) := by decide +kernel
theorem dX10_progress_25 : decode cX10_progress 25 = .ok (.aload_n 0, 1) := by decide +kernel
theorem dX10_progress_26 : decode cX10_progress 26 = .ok (.iload 5, 2) := by decide +kernel
theorem dX10_progress_28 : decode cX10_progress 28 = .ok (.iconst 1, 1) := by decide +kernel
theorem dX10_progress_29 : decode cX10_progress 29 = .ok (.invokevirtual 261, 3) := by decide +kernel
theorem dX10_progress_32 : decode cX10_progress 32 = .ok (.i2l, 1) := by decide +kernel
theorem dX10_progress_33 : decode cX10_progress 33 = .ok (.ladd, 1) := by decide +kernel
theorem dX10_progress_34 : decode cX10_progress 34 = .ok (.lstore_n 1, 1) := by decide +kernel
theorem dX10_progress_35 : decode cX10_progress 35 = .ok (.lload_n 3, 1) := by decide +kernel
theorem dX10_progress_36 : decode cX10_progress 36 = .ok (.aload_n 0, 1) := by decide +kernel
theorem dX10_progress_37 : decode cX10_progress 37 = .ok (.iload 5, 2) := by decide +kernel
theorem dX10_progress_39 : decode cX10_progress 39 = .ok (.iconst 0, 1) := by decide +kernel
theorem dX10_progress_40 : decode cX10_progress 40 = .ok (.invokevirtual 261, 3) := by decide +kernel
theorem dX10_progress_43 : decode cX10_progress 43 = .ok (.i2l, 1) := by decide +kernel
theorem dX10_progress_44 : decode cX10_progress 44 = .ok (.ladd, 1) := by decide +kernel
theorem dX10_progress_45 : decode cX10_progress 45 = .ok (.lstore_n 3, 1) := by decide +kernel
theorem dX10_progress_46 : decode cX10_progress 46 = .ok (.iinc 5 1, 3) := by decide +kernel
theorem dX10_progress_49 : decode cX10_progress 49 = .ok (.goto (-37), 3) := by decide +kernel
theorem dX10_progress_52 : decode cX10_progress 52 = .ok (.lload_n 3, 1) := by decide +kernel
theorem dX10_progress_53 : decode cX10_progress 53 = .ok (.lconst 0, 1) := by decide +kernel
theorem dX10_progress_54 : decode cX10_progress 54 = .ok (.lcmp, 1) := by decide +kernel
theorem dX10_progress_55 : decode cX10_progress 55 = .ok (.ifCond .ne 7, 3) := by decide +kernel
theorem dX10_progress_58 : decode cX10_progress 58 = .ok (.iconst 0, 1) := by decide +kernel
theorem dX10_progress_59 : decode cX10_progress 59 = .ok (.goto 11, 3) := by decide +kernel
theorem dX10_progress_62 : decode cX10_progress 62 = .ok (.lload_n 1, 1) := by decide +kernel
theorem dX10_progress_63 : decode cX10_progress 63 = .ok (.ldc2_w 343, 3) := by decide +kernel
theorem dX10_progress_66 : decode cX10_progress 66 = .ok (.lmul, 1) := by decide +kernel
theorem dX10_progress_67 : decode cX10_progress 67 = .ok (.lload_n 3, 1) := by decide +kernel
theorem dX10_progress_68 : decode cX10_progress 68 = .ok (.ldiv, 1) := by decide +kernel
theorem dX10_progress_69 : decode cX10_progress 69 = .ok (.l2i, 1) := by decide +kernel
theorem dX10_progress_70 : decode cX10_progress 70 = .ok (.ireturn, 1) := by decide +kernel
theorem dX10_proofCharacter_0 : decode cX10_proofCharacter 0 = .ok (.aload_n 0, 1) := by decide +kernel
theorem dX10_proofCharacter_1 : decode cX10_proofCharacter 1 = .ok (.aload_n 0, 1) := by decide +kernel
theorem dX10_proofCharacter_2 : decode cX10_proofCharacter 2 = .ok (.iload_n 1, 1) := by decide +kernel
theorem dX10_proofCharacter_3 : decode cX10_proofCharacter 3 = .ok (.invokevirtual 348, 3) := by decide +kernel
theorem dX10_proofCharacter_6 : decode cX10_proofCharacter 6 = .ok (.ifCond .eq 28, 3) := by decide +kernel
theorem dX10_proofCharacter_9 : decode cX10_proofCharacter 9 = .ok (.iload_n 2, 1) := by decide +kernel
theorem dX10_proofCharacter_10 : decode cX10_proofCharacter 10 = .ok (.i2l, 1) := by decide +kernel
theorem dX10_proofCharacter_11 : decode cX10_proofCharacter 11 = .ok (.lconst 0, 1) := by decide +kernel
theorem dX10_proofCharacter_12 : decode cX10_proofCharacter 12 = .ok (.aload_n 0, 1) := by decide +kernel
theorem dX10_proofCharacter_13 : decode cX10_proofCharacter 13 = .ok (.getfield 42, 3) := by decide +kernel
theorem dX10_proofCharacter_16 : decode cX10_proofCharacter 16 = .ok (.iload_n 1, 1) := by decide +kernel
theorem dX10_proofCharacter_17 : decode cX10_proofCharacter 17 = .ok (.laload, 1) := by decide +kernel
theorem dX10_proofCharacter_18 : decode cX10_proofCharacter 18 = .ok (.invokestatic 351, 3) := by decide +kernel
theorem dX10_proofCharacter_21 : decode cX10_proofCharacter 21 = .ok (.iconst 1, 1) := by decide +kernel
theorem dX10_proofCharacter_22 : decode cX10_proofCharacter 22 = .ok (.isub, 1) := by decide +kernel
theorem dX10_proofCharacter_23 : decode cX10_proofCharacter 23 = .ok (.i2l, 1) := by decide +kernel
theorem dX10_proofCharacter_24 : decode cX10_proofCharacter 24 = .ok (.invokestatic 152, 3) := by decide +kernel
theorem dX10_proofCharacter_27 : decode cX10_proofCharacter 27 = .ok (.ifCond .eq 7, 3) := by decide +kernel
theorem dX10_proofCharacter_30 : decode cX10_proofCharacter 30 = .ok (.iconst 0, 1) := by decide +kernel
theorem dX10_proofCharacter_31 : decode cX10_proofCharacter 31 = .ok (.goto 4, 3) := by decide +kernel
theorem dX10_proofCharacter_34 : decode cX10_proofCharacter 34 = .ok (.iconst 1, 1) := by decide +kernel
theorem dX10_proofCharacter_35 : decode cX10_proofCharacter 35 = .ok (.putfield 80, 3) := by decide +kernel
theorem dX10_proofCharacter_38 : decode cX10_proofCharacter 38 = .ok (.aload_n 0, 1) := by decide +kernel
theorem dX10_proofCharacter_39 : decode cX10_proofCharacter 39 = .ok (.getfield 80, 3) := by decide +kernel
theorem dX10_proofCharacter_42 : decode cX10_proofCharacter 42 = .ok (.ifCond .ne 17, 3) := by decide +kernel
theorem dX10_proofCharacter_45 : decode cX10_proofCharacter 45 = .ok (.aload_n 0, 1) := by decide +kernel
theorem dX10_proofCharacter_46 : decode cX10_proofCharacter 46 = .ok (.getfield 42, 3) := by decide +kernel
theorem dX10_proofCharacter_49 : decode cX10_proofCharacter 49 = .ok (.iload_n 1, 1) := by decide +kernel
theorem dX10_proofCharacter_50 : decode cX10_proofCharacter 50 = .ok (.laload, 1) := by decide +kernel
theorem dX10_proofCharacter_51 : decode cX10_proofCharacter 51 = .ok (.iload_n 2, 1) := by decide +kernel
theorem dX10_proofCharacter_52 : decode cX10_proofCharacter 52 = .ok (.invokestatic 354, 3) := by decide +kernel
theorem dX10_proofCharacter_55 : decode cX10_proofCharacter 55 = .ok (.i2c, 1) := by decide +kernel
theorem dX10_proofCharacter_56 : decode cX10_proofCharacter 56 = .ok (.goto 4, 3) := by decide +kernel
theorem dX10_proofCharacter_59 : decode cX10_proofCharacter 59 = .ok (.iconst 0, 1) := by decide +kernel
theorem dX10_proofCharacter_60 : decode cX10_proofCharacter 60 = .ok (.ireturn, 1) := by decide +kernel
theorem dX10_proofs_0 : decode cX10_proofs 0 = .ok (.aload_n 0, 1) := by decide +kernel
theorem dX10_proofs_1 : decode cX10_proofs 1 = .ok (.iconst 0, 1) := by decide +kernel
theorem dX10_proofs_2 : decode cX10_proofs 2 = .ok (.putfield 80, 3) := by decide +kernel
theorem dX10_proofs_5 : decode cX10_proofs 5 = .ok (.aload_n 0, 1) := by decide +kernel
theorem dX10_proofs_6 : decode cX10_proofs 6 = .ok (.getfield 7, 3) := by decide +kernel
theorem dX10_proofs_9 : decode cX10_proofs 9 = .ok (.bipush 14, 2) := by decide +kernel
theorem dX10_proofs_11 : decode cX10_proofs 11 = .ok (.iaload, 1) := by decide +kernel
theorem dX10_proofs_12 : decode cX10_proofs 12 = .ok (.ireturn, 1) := by decide +kernel
theorem dX10_received_0 : decode cX10_received 0 = .ok (.aload_n 0, 1) := by decide +kernel
theorem dX10_received_1 : decode cX10_received 1 = .ok (.iconst 0, 1) := by decide +kernel
theorem dX10_received_2 : decode cX10_received 2 = .ok (.putfield 80, 3) := by decide +kernel
theorem dX10_received_5 : decode cX10_received 5 = .ok (.aload_n 0, 1) := by decide +kernel
theorem dX10_received_6 : decode cX10_received 6 = .ok (.getfield 7, 3) := by decide +kernel
theorem dX10_received_9 : decode cX10_received 9 = .ok (.bipush 10, 2) := by decide +kernel
theorem dX10_received_11 : decode cX10_received 11 = .ok (.iaload, 1) := by decide +kernel
theorem dX10_received_12 : decode cX10_received 12 = .ok (.aload_n 0, 1) := by decide +kernel
theorem dX10_received_13 : decode cX10_received 13 = .ok (.getfield 7, 3) := by decide +kernel
theorem dX10_received_16 : decode cX10_received 16 = .ok (.bipush 9, 2) := by decide +kernel
theorem dX10_received_18 : decode cX10_received 18 = .ok (.iaload, 1) := by decide +kernel
theorem dX10_received_19 : decode cX10_received 19 = .ok (.isub, 1) := by decide +kernel
theorem dX10_received_20 : decode cX10_received 20 = .ok (.ireturn, 1) := by decide +kernel
theorem dX10_refunded_0 : decode cX10_refunded 0 = .ok (.aload_n 0, 1) := by decide +kernel
theorem dX10_refunded_1 : decode cX10_refunded 1 = .ok (.iconst 0, 1) := by decide +kernel
theorem dX10_refunded_2 : decode cX10_refunded 2 = .ok (.putfield 80, 3) := by decide +kernel
theorem dX10_refunded_5 : decode cX10_refunded 5 = .ok (.aload_n 0, 1) := by decide +kernel
theorem dX10_refunded_6 : decode cX10_refunded 6 = .ok (.getfield 7, 3) := by decide +kernel
theorem dX10_refunded_9 : decode cX10_refunded 9 = .ok (.bipush 11, 2) := by decide +kernel
theorem dX10_refunded_11 : decode cX10_refunded 11 = .ok (.iaload, 1) := by decide +kernel
theorem dX10_refunded_12 : decode cX10_refunded 12 = .ok (.ireturn, 1) := by decide +kernel
theorem dX10_remaining_0 : decode cX10_remaining 0 = .ok (.aload_n 0, 1) := by decide +kernel
theorem dX10_remaining_1 : decode cX10_remaining 1 = .ok (.aload_n 0, 1) := by decide +kernel
theorem dX10_remaining_2 : decode cX10_remaining 2 = .ok (.iload_n 1, 1) := by decide +kernel
theorem dX10_remaining_3 : decode cX10_remaining 3 = .ok (.invokevirtual 330, 3) := by decide +kernel
theorem dX10_remaining_6 : decode cX10_remaining 6 = .ok (.invokevirtual 333, 3) := by decide +kernel
theorem dX10_remaining_9 : decode cX10_remaining 9 = .ok (.ifCond .eq 11, 3) := by decide +kernel
theorem dX10_remaining_12 : decode cX10_remaining 12 = .ok (.aload_n 0, 1) := by decide +kernel
theorem dX10_remaining_13 : decode cX10_remaining 13 = .ok (.iload_n 1, 1) := by decide +kernel
theorem dX10_remaining_14 : decode cX10_remaining 14 = .ok (.invokevirtual 277, 3) := by decide +kernel
theorem dX10_remaining_17 : decode cX10_remaining 17 = .ok (.goto 4, 3) := by decide +kernel
theorem dX10_remaining_20 : decode cX10_remaining 20 = .ok (.iconst 0, 1) := by decide +kernel
theorem dX10_remaining_21 : decode cX10_remaining 21 = .ok (.ireturn, 1) := by decide +kernel
theorem dX10_resolve_0 : decode cX10_resolve 0 = .ok (.aload_n 0, 1) := by decide +kernel
theorem dX10_resolve_1 : decode cX10_resolve 1 = .ok (.iload_n 1, 1) := by decide +kernel
theorem dX10_resolve_2 : decode cX10_resolve 2 = .ok (.iload_n 2, 1) := by decide +kernel
theorem dX10_resolve_3 : decode cX10_resolve 3 = .ok (.invokestatic 378, 3) := by decide +kernel
theorem dX10_resolve_6 : decode cX10_resolve 6 = .ok (.invokevirtual 381, 3) := by decide +kernel
theorem dX10_resolve_9 : decode cX10_resolve 9 = .ok (.ifCond .ne 5, 3) := by decide +kernel
theorem dX10_resolve_12 : decode cX10_resolve 12 = .ok (.iconst 0, 1) := by decide +kernel
theorem dX10_resolve_13 : decode cX10_resolve 13 = .ok (.ireturn, 1) := by decide +kernel
theorem dX10_resolve_14 : decode cX10_resolve 14 = .ok (.aload_n 0, 1) := by decide +kernel
theorem dX10_resolve_15 : decode cX10_resolve 15 = .ok (.invokevirtual 395, 3) := by decide +kernel
theorem dX10_resolve_18 : decode cX10_resolve 18 = .ok (.aload_n 0, 1) := by decide +kernel
theorem dX10_resolve_19 : decode cX10_resolve 19 = .ok (.iload_n 1, 1) := by decide +kernel
theorem dX10_resolve_20 : decode cX10_resolve 20 = .ok (.invokevirtual 375, 3) := by decide +kernel
theorem dX10_resolve_23 : decode cX10_resolve 23 = .ok (.istore_n 3, 1) := by decide +kernel
theorem dX10_resolve_24 : decode cX10_resolve 24 = .ok (.aload_n 0, 1) := by decide +kernel
theorem dX10_resolve_25 : decode cX10_resolve 25 = .ok (.iload_n 1, 1) := by decide +kernel
theorem dX10_resolve_26 : decode cX10_resolve 26 = .ok (.iload_n 2, 1) := by decide +kernel
theorem dX10_resolve_27 : decode cX10_resolve 27 = .ok (.invokevirtual 385, 3) := by decide +kernel
theorem dX10_resolve_30 : decode cX10_resolve 30 = .ok (.istore 4, 2) := by decide +kernel
theorem dX10_resolve_32 : decode cX10_resolve 32 = .ok (.aload_n 0, 1) := by decide +kernel
theorem dX10_resolve_33 : decode cX10_resolve 33 = .ok (.iload_n 1, 1) := by decide +kernel
theorem dX10_resolve_34 : decode cX10_resolve 34 = .ok (.iconst 3, 1) := by decide +kernel
theorem dX10_resolve_35 : decode cX10_resolve 35 = .ok (.iconst 0, 1) := by decide +kernel
theorem dX10_resolve_36 : decode cX10_resolve 36 = .ok (.invokevirtual 273, 3) := by decide +kernel
theorem dX10_resolve_39 : decode cX10_resolve 39 = .ok (.aload_n 0, 1) := by decide +kernel
theorem dX10_resolve_40 : decode cX10_resolve 40 = .ok (.iload_n 1, 1) := by decide +kernel
theorem dX10_resolve_41 : decode cX10_resolve 41 = .ok (.iload 4, 2) := by decide +kernel
theorem dX10_resolve_43 : decode cX10_resolve 43 = .ok (.invokevirtual 309, 3) := by decide +kernel
theorem dX10_resolve_46 : decode cX10_resolve 46 = .ok (.pop, 1) := by decide +kernel
theorem dX10_resolve_47 : decode cX10_resolve 47 = .ok (.aload_n 0, 1) := by decide +kernel
theorem dX10_resolve_48 : decode cX10_resolve 48 = .ok (.iload_n 3, 1) := by decide +kernel
theorem dX10_resolve_49 : decode cX10_resolve 49 = .ok (.iload 4, 2) := by decide +kernel
theorem dX10_resolve_51 : decode cX10_resolve 51 = .ok (.isub, 1) := by decide +kernel
theorem dX10_resolve_52 : decode cX10_resolve 52 = .ok (.iload_n 1, 1) := by decide +kernel
theorem dX10_resolve_53 : decode cX10_resolve 53 = .ok (.invokevirtual 401, 3) := by decide +kernel
theorem dX10_resolve_56 : decode cX10_resolve 56 = .ok (.aload_n 0, 1) := by decide +kernel
theorem dX10_resolve_57 : decode cX10_resolve 57 = .ok (.iload_n 1, 1) := by decide +kernel
theorem dX10_resolve_58 : decode cX10_resolve 58 = .ok (.iconst 2, 1) := by decide +kernel
theorem dX10_resolve_59 : decode cX10_resolve 59 = .ok (.iconst 4, 1) := by decide +kernel
theorem dX10_resolve_60 : decode cX10_resolve 60 = .ok (.invokevirtual 273, 3) := by decide +kernel
theorem dX10_resolve_63 : decode cX10_resolve 63 = .ok (.iload 4, 2) := by decide +kernel
theorem dX10_resolve_65 : decode cX10_resolve 65 = .ok (.ireturn, 1) := by decide +kernel
theorem dX10_shareFor_0 : decode cX10_shareFor 0 = .ok (.aload_n 0, 1) := by decide +kernel
theorem dX10_shareFor_1 : decode cX10_shareFor 1 = .ok (.iload_n 1, 1) := by decide +kernel
theorem dX10_shareFor_2 : decode cX10_shareFor 2 = .ok (.iload_n 2, 1) := by decide +kernel
theorem dX10_shareFor_3 : decode cX10_shareFor 3 = .ok (.i2l, 1) := by decide +kernel
theorem dX10_shareFor_4 : decode cX10_shareFor 4 = .ok (.lconst 0, 1) := by decide +kernel
theorem dX10_shareFor_5 : decode cX10_shareFor 5 = .ok (.ldc2_w 388, 3) := by decide +kernel
theorem dX10_shareFor_8 : decode cX10_shareFor 8 = .ok (.invokestatic 152, 3) := by decide +kernel
theorem dX10_shareFor_11 : decode cX10_shareFor 11 = .ok (.invokevirtual 381, 3) := by decide +kernel
theorem dX10_shareFor_14 : decode cX10_shareFor 14 = .ok (.ifCond .ne 5, 3) := by decide +kernel
theorem dX10_shareFor_17 : decode cX10_shareFor 17 = .ok (.iconst 0, 1) := by decide +kernel
theorem dX10_shareFor_18 : decode cX10_shareFor 18 = .ok (.ireturn, 1) := by decide +kernel
theorem dX10_shareFor_19 : decode cX10_shareFor 19 = .ok (.iconst 0, 1) := by decide +kernel
theorem dX10_shareFor_20 : decode cX10_shareFor 20 = .ok (.istore_n 3, 1) := by decide +kernel
theorem dX10_shareFor_21 : decode cX10_shareFor 21 = .ok (.iload_n 3, 1) := by decide +kernel
theorem dX10_shareFor_22 : decode cX10_shareFor 22 = .ok (.sipush 1000, 3) := by decide +kernel
theorem dX10_shareFor_25 : decode cX10_shareFor 25 = .ok (.if_icmp .gt 32, 3) := by decide +kernel
theorem dX10_shareFor_28 : decode cX10_shareFor 28 = .ok (.aload_n 0, 1) := by decide +kernel
theorem dX10_shareFor_29 : decode cX10_shareFor 29 = .ok (.iload_n 1, 1) := by decide +kernel
theorem dX10_shareFor_30 : decode cX10_shareFor 30 = .ok (.iload_n 3, 1) := by decide +kernel
theorem dX10_shareFor_31 : decode cX10_shareFor 31 = .ok (.invokevirtual 385, 3) := by decide +kernel
theorem dX10_shareFor_34 : decode cX10_shareFor 34 = .ok (.istore 4, 2) := by decide +kernel
theorem dX10_shareFor_36 : decode cX10_shareFor 36 = .ok (.iload 4, 2) := by decide +kernel
theorem dX10_shareFor_38 : decode cX10_shareFor 38 = .ok (.aload_n 0, 1) := by decide +kernel
theorem dX10_shareFor_39 : decode cX10_shareFor 39 = .ok (.iload 4, 2) := by decide +kernel
theorem dX10_shareFor_41 : decode cX10_shareFor 41 = .ok (.invokevirtual 270, 3) := by decide +kernel
theorem dX10_shareFor_44 : decode cX10_shareFor 44 = .ok (.isub, 1) := by decide +kernel
theorem dX10_shareFor_45 : decode cX10_shareFor 45 = .ok (.iload_n 2, 1) := by decide +kernel
theorem dX10_shareFor_46 : decode cX10_shareFor 46 = .ok (.if_icmp .lt 5, 3) := by decide +kernel
theorem dX10_shareFor_49 : decode cX10_shareFor 49 = .ok (.iload_n 3, 1) := by decide +kernel
theorem dX10_shareFor_50 : decode cX10_shareFor 50 = .ok (.ireturn, 1) := by decide +kernel
theorem dX10_shareFor_51 : decode cX10_shareFor 51 = .ok (.iinc 3 1, 3) := by decide +kernel
theorem dX10_shareFor_54 : decode cX10_shareFor 54 = .ok (.goto (-33), 3) := by decide +kernel
theorem dX10_shareFor_57 : decode cX10_shareFor 57 = .ok (.iconst (-1), 1) := by decide +kernel
theorem dX10_shareFor_58 : decode cX10_shareFor 58 = .ok (.ireturn, 1) := by decide +kernel
theorem dX10_shortage_0 : decode cX10_shortage 0 = .ok (.aload_n 0, 1) := by decide +kernel
theorem dX10_shortage_1 : decode cX10_shortage 1 = .ok (.iconst 0, 1) := by decide +kernel
theorem dX10_shortage_2 : decode cX10_shortage 2 = .ok (.putfield 80, 3) := by decide +kernel
theorem dX10_shortage_5 : decode cX10_shortage 5 = .ok (.aload_n 0, 1) := by decide +kernel
theorem dX10_shortage_6 : decode cX10_shortage 6 = .ok (.getfield 7, 3) := by decide +kernel
theorem dX10_shortage_9 : decode cX10_shortage 9 = .ok (.bipush 6, 2) := by decide +kernel
theorem dX10_shortage_11 : decode cX10_shortage 11 = .ok (.iaload, 1) := by decide +kernel
theorem dX10_shortage_12 : decode cX10_shortage 12 = .ok (.ineg, 1) := by decide +kernel
theorem dX10_shortage_13 : decode cX10_shortage 13 = .ok (.istore_n 1, 1) := by decide +kernel
theorem dX10_shortage_14 : decode cX10_shortage 14 = .ok (.iconst 0, 1) := by decide +kernel
theorem dX10_shortage_15 : decode cX10_shortage 15 = .ok (.istore_n 2, 1) := by decide +kernel
theorem dX10_shortage_16 : decode cX10_shortage 16 = .ok (.iload_n 2, 1) := by decide +kernel
theorem dX10_shortage_17 : decode cX10_shortage 17 = .ok (.aload_n 0, 1) := by decide +kernel
theorem dX10_shortage_18 : decode cX10_shortage 18 = .ok (.getfield 7, 3) := by decide +kernel
theorem dX10_shortage_21 : decode cX10_shortage 21 = .ok (.bipush 13, 2) := by decide +kernel
theorem dX10_shortage_23 : decode cX10_shortage 23 = .ok (.iaload, 1) := by decide +kernel
theorem dX10_shortage_24 : decode cX10_shortage 24 = .ok (.if_icmp .ge 17, 3) := by decide +kernel
theorem dX10_shortage_27 : decode cX10_shortage 27 = .ok (.iload_n 1, 1) := by decide +kernel
theorem dX10_shortage_28 : decode cX10_shortage 28 = .ok (.aload_n 0, 1) := by decide +kernel
theorem dX10_shortage_29 : decode cX10_shortage 29 = .ok (.iload_n 2, 1) := by decide +kernel
theorem dX10_shortage_30 : decode cX10_shortage 30 = .ok (.invokevirtual 277, 3) := by decide +kernel
theorem dX10_shortage_33 : decode cX10_shortage 33 = .ok (.iadd, 1) := by decide +kernel
theorem dX10_shortage_34 : decode cX10_shortage 34 = .ok (.istore_n 1, 1) := by decide +kernel
theorem dX10_shortage_35 : decode cX10_shortage 35 = .ok (.iinc 2 1, 3) := by decide +kernel
theorem dX10_shortage_38 : decode cX10_shortage 38 = .ok (.goto (-22), 3) := by decide +kernel
theorem dX10_shortage_41 : decode cX10_shortage 41 = .ok (.iconst 0, 1) := by decide +kernel
theorem dX10_shortage_42 : decode cX10_shortage 42 = .ok (.iload_n 1, 1) := by decide +kernel
theorem dX10_shortage_43 : decode cX10_shortage 43 = .ok (.invokestatic 345, 3) := by decide +kernel
theorem dX10_shortage_46 : decode cX10_shortage 46 = .ok (.ireturn, 1) := by decide +kernel
theorem dX10_splitPayment_0 : decode cX10_splitPayment 0 = .ok (.aload_n 0, 1) := by decide +kernel
theorem dX10_splitPayment_1 : decode cX10_splitPayment 1 = .ok (.iload_n 1, 1) := by decide +kernel
theorem dX10_splitPayment_2 : decode cX10_splitPayment 2 = .ok (.iload_n 2, 1) := by decide +kernel
theorem dX10_splitPayment_3 : decode cX10_splitPayment 3 = .ok (.invokestatic 378, 3) := by decide +kernel
theorem dX10_splitPayment_6 : decode cX10_splitPayment 6 = .ok (.invokevirtual 381, 3) := by decide +kernel
theorem dX10_splitPayment_9 : decode cX10_splitPayment 9 = .ok (.ifCond .eq 12, 3) := by decide +kernel
theorem dX10_splitPayment_12 : decode cX10_splitPayment 12 = .ok (.aload_n 0, 1) := by decide +kernel
theorem dX10_splitPayment_13 : decode cX10_splitPayment 13 = .ok (.iload_n 1, 1) := by decide +kernel
theorem dX10_splitPayment_14 : decode cX10_splitPayment 14 = .ok (.iload_n 2, 1) := by decide +kernel
theorem dX10_splitPayment_15 : decode cX10_splitPayment 15 = .ok (.invokevirtual 385, 3) := by decide +kernel
theorem dX10_splitPayment_18 : decode cX10_splitPayment 18 = .ok (.goto 4, 3) := by decide +kernel
theorem dX10_splitPayment_21 : decode cX10_splitPayment 21 = .ok (.iconst 0, 1) := by decide +kernel
theorem dX10_splitPayment_22 : decode cX10_splitPayment 22 = .ok (.ireturn, 1) := by decide +kernel
theorem dX10_state_0 : decode cX10_state 0 = .ok (.aload_n 0, 1) := by decide +kernel
theorem dX10_state_1 : decode cX10_state 1 = .ok (.aload_n 0, 1) := by decide +kernel
theorem dX10_state_2 : decode cX10_state 2 = .ok (.iload_n 1, 1) := by decide +kernel
theorem dX10_state_3 : decode cX10_state 3 = .ok (.invokevirtual 330, 3) := by decide +kernel
theorem dX10_state_6 : decode cX10_state 6 = .ok (.invokevirtual 333, 3) := by decide +kernel
theorem dX10_state_9 : decode cX10_state 9 = .ok (.ifCond .eq 12, 3) := by decide +kernel
theorem dX10_state_12 : decode cX10_state 12 = .ok (.aload_n 0, 1) := by decide +kernel
theorem dX10_state_13 : decode cX10_state 13 = .ok (.iload_n 1, 1) := by decide +kernel
theorem dX10_state_14 : decode cX10_state 14 = .ok (.iconst 2, 1) := by decide +kernel
theorem dX10_state_15 : decode cX10_state 15 = .ok (.invokevirtual 261, 3) := by decide +kernel
theorem dX10_state_18 : decode cX10_state 18 = .ok (.goto 4, 3) := by decide +kernel
theorem dX10_state_21 : decode cX10_state 21 = .ok (.iconst 0, 1) := by decide +kernel
theorem dX10_state_22 : decode cX10_state 22 = .ok (.ireturn, 1) := by decide +kernel
theorem dX10_submit_0 : decode cX10_submit 0 = .ok (.aload_n 0, 1) := by decide +kernel
theorem dX10_submit_1 : decode cX10_submit 1 = .ok (.aload_n 0, 1) := by decide +kernel
theorem dX10_submit_2 : decode cX10_submit 2 = .ok (.iload_n 1, 1) := by decide +kernel
theorem dX10_submit_3 : decode cX10_submit 3 = .ok (.invokevirtual 348, 3) := by decide +kernel
theorem dX10_submit_6 : decode cX10_submit 6 = .ok (.invokevirtual 333, 3) := by decide +kernel
theorem dX10_submit_9 : decode cX10_submit 9 = .ok (.ifCond .ne 5, 3) := by decide +kernel
theorem dX10_submit_12 : decode cX10_submit 12 = .ok (.iconst 0, 1) := by decide +kernel
theorem dX10_submit_13 : decode cX10_submit 13 = .ok (.ireturn, 1) := by decide +kernel
theorem dX10_submit_14 : decode cX10_submit 14 = .ok (.aload_n 0, 1) := by decide +kernel
theorem dX10_submit_15 : decode cX10_submit 15 = .ok (.invokevirtual 395, 3) := by decide +kernel
theorem dX10_submit_18 : decode cX10_submit 18 = .ok (.aload_n 0, 1) := by decide +kernel
theorem dX10_submit_19 : decode cX10_submit 19 = .ok (.getfield 7, 3) := by decide +kernel
theorem dX10_submit_22 : decode cX10_submit 22 = .ok (.bipush 12, 2) := by decide +kernel
theorem dX10_submit_24 : decode cX10_submit 24 = .ok (.iaload, 1) := by decide +kernel
theorem dX10_submit_25 : decode cX10_submit 25 = .ok (.iload_n 1, 1) := by decide +kernel
theorem dX10_submit_26 : decode cX10_submit 26 = .ok (.ishr, 1) := by decide +kernel
theorem dX10_submit_27 : decode cX10_submit 27 = .ok (.iconst 1, 1) := by decide +kernel
theorem dX10_submit_28 : decode cX10_submit 28 = .ok (.iand, 1) := by decide +kernel
theorem dX10_submit_29 : decode cX10_submit 29 = .ok (.ifCond .ne 7, 3) := by decide +kernel
theorem dX10_submit_32 : decode cX10_submit 32 = .ok (.iconst 1, 1) := by decide +kernel
theorem dX10_submit_33 : decode cX10_submit 33 = .ok (.goto 4, 3) := by decide +kernel
theorem dX10_submit_36 : decode cX10_submit 36 = .ok (.iconst 0, 1) := by decide +kernel
theorem dX10_submit_37 : decode cX10_submit 37 = .ok (.istore_n 2, 1) := by decide +kernel
theorem dX10_submit_38 : decode cX10_submit 38 = .ok (.aload_n 0, 1) := by decide +kernel
theorem dX10_submit_39 : decode cX10_submit 39 = .ok (.getfield 7, 3) := by decide +kernel
theorem dX10_submit_42 : decode cX10_submit 42 = .ok (.bipush 12, 2) := by decide +kernel
theorem dX10_submit_44 : decode cX10_submit 44 = .ok (.dup2, 1) := by decide +kernel
theorem dX10_submit_45 : decode cX10_submit 45 = .ok (.iaload, 1) := by decide +kernel
theorem dX10_submit_46 : decode cX10_submit 46 = .ok (.iconst 1, 1) := by decide +kernel
theorem dX10_submit_47 : decode cX10_submit 47 = .ok (.iload_n 1, 1) := by decide +kernel
theorem dX10_submit_48 : decode cX10_submit 48 = .ok (.ishl, 1) := by decide +kernel
theorem dX10_submit_49 : decode cX10_submit 49 = .ok (.ior, 1) := by decide +kernel
theorem dX10_submit_50 : decode cX10_submit 50 = .ok (.iastore, 1) := by decide +kernel
theorem dX10_submit_51 : decode cX10_submit 51 = .ok (.iload_n 2, 1) := by decide +kernel
theorem dX10_submit_52 : decode cX10_submit 52 = .ok (.ireturn, 1) := by decide +kernel
theorem dX10_sumOn_0 : decode cX10_sumOn 0 = .ok (.lconst 0, 1) := by decide +kernel
theorem dX10_sumOn_1 : decode cX10_sumOn 1 = .ok (.lstore_n 3, 1) := by decide +kernel
theorem dX10_sumOn_2 : decode cX10_sumOn 2 = .ok (.iconst 0, 1) := by decide +kernel
theorem dX10_sumOn_3 : decode cX10_sumOn 3 = .ok (.istore 5, 2) := by decide +kernel
theorem dX10_sumOn_5 : decode cX10_sumOn 5 = .ok (.iload 5, 2) := by decide +kernel
theorem dX10_sumOn_7 : decode cX10_sumOn 7 = .ok (.aload_n 0, 1) := by decide +kernel
theorem dX10_sumOn_8 : decode cX10_sumOn 8 = .ok (.getfield 7, 3) := by decide +kernel
theorem dX10_sumOn_11 : decode cX10_sumOn 11 = .ok (.bipush 15, 2) := by decide +kernel
theorem dX10_sumOn_13 : decode cX10_sumOn 13 = .ok (.iaload, 1) := by decide +kernel
theorem dX10_sumOn_14 : decode cX10_sumOn 14 = .ok (.if_icmp .ge 46, 3) := by decide +kernel
theorem dX10_sumOn_17 : decode cX10_sumOn 17 = .ok (.lload_n 3, 1) := by decide +kernel
theorem dX10_sumOn_18 : decode cX10_sumOn 18 = .ok (.aload_n 0, 1) := by decide +kernel
theorem dX10_sumOn_19 : decode cX10_sumOn 19 = .ok (.iload 5, 2) := by decide +kernel
theorem dX10_sumOn_21 : decode cX10_sumOn 21 = .ok (.iconst 0, 1) := by decide +kernel
theorem dX10_sumOn_22 : decode cX10_sumOn 22 = .ok (.invokevirtual 448, 3) := by decide +kernel
theorem dX10_sumOn_25 : decode cX10_sumOn 25 = .ok (.iload_n 2, 1) := by decide +kernel
theorem dX10_sumOn_26 : decode cX10_sumOn 26 = .ok (.if_icmp .ne 25, 3) := by decide +kernel
theorem dX10_sumOn_29 : decode cX10_sumOn 29 = .ok (.aload_n 0, 1) := by decide +kernel
theorem dX10_sumOn_30 : decode cX10_sumOn 30 = .ok (.iload 5, 2) := by decide +kernel
theorem dX10_sumOn_32 : decode cX10_sumOn 32 = .ok (.iconst 1, 1) := by decide +kernel
theorem dX10_sumOn_33 : decode cX10_sumOn 33 = .ok (.invokevirtual 448, 3) := by decide +kernel
theorem dX10_sumOn_36 : decode cX10_sumOn 36 = .ok (.iload_n 1, 1) := by decide +kernel
theorem dX10_sumOn_37 : decode cX10_sumOn 37 = .ok (.if_icmp .ne 14, 3) := by decide +kernel
theorem dX10_sumOn_40 : decode cX10_sumOn 40 = .ok (.aload_n 0, 1) := by decide +kernel
theorem dX10_sumOn_41 : decode cX10_sumOn 41 = .ok (.iload 5, 2) := by decide +kernel
theorem dX10_sumOn_43 : decode cX10_sumOn 43 = .ok (.iconst 2, 1) := by decide +kernel
theorem dX10_sumOn_44 : decode cX10_sumOn 44 = .ok (.invokevirtual 448, 3) := by decide +kernel
theorem dX10_sumOn_47 : decode cX10_sumOn 47 = .ok (.i2l, 1) := by decide +kernel
theorem dX10_sumOn_48 : decode cX10_sumOn 48 = .ok (.goto 4, 3) := by decide +kernel
theorem dX10_sumOn_51 : decode cX10_sumOn 51 = .ok (.lconst 0, 1) := by decide +kernel
theorem dX10_sumOn_52 : decode cX10_sumOn 52 = .ok (.ladd, 1) := by decide +kernel
theorem dX10_sumOn_53 : decode cX10_sumOn 53 = .ok (.lstore_n 3, 1) := by decide +kernel
theorem dX10_sumOn_54 : decode cX10_sumOn 54 = .ok (.iinc 5 1, 3) := by decide +kernel
theorem dX10_sumOn_57 : decode cX10_sumOn 57 = .ok (.goto (-52), 3) := by decide +kernel
theorem dX10_sumOn_60 : decode cX10_sumOn 60 = .ok (.lload_n 3, 1) := by decide +kernel
theorem dX10_sumOn_61 : decode cX10_sumOn 61 = .ok (.lreturn, 1) := by decide +kernel
theorem dX10_totalOn_0 : decode cX10_totalOn 0 = .ok (.aload_n 0, 1) := by decide +kernel
theorem dX10_totalOn_1 : decode cX10_totalOn 1 = .ok (.iload_n 2, 1) := by decide +kernel
theorem dX10_totalOn_2 : decode cX10_totalOn 2 = .ok (.i2l, 1) := by decide +kernel
theorem dX10_totalOn_3 : decode cX10_totalOn 3 = .ok (.lconst 0, 1) := by decide +kernel
theorem dX10_totalOn_4 : decode cX10_totalOn 4 = .ok (.ldc2_w 451, 3) := by decide +kernel
theorem dX10_totalOn_7 : decode cX10_totalOn 7 = .ok (.invokestatic 152, 3) := by decide +kernel
theorem dX10_totalOn_10 : decode cX10_totalOn 10 = .ok (.invokevirtual 333, 3) := by decide +kernel
theorem dX10_totalOn_13 : decode cX10_totalOn 13 = .ok (.ifCond .eq 13, 3) := by decide +kernel
theorem dX10_totalOn_16 : decode cX10_totalOn 16 = .ok (.aload_n 0, 1) := by decide +kernel
theorem dX10_totalOn_17 : decode cX10_totalOn 17 = .ok (.iload_n 1, 1) := by decide +kernel
theorem dX10_totalOn_18 : decode cX10_totalOn 18 = .ok (.iload_n 2, 1) := by decide +kernel
theorem dX10_totalOn_19 : decode cX10_totalOn 19 = .ok (.invokevirtual 453, 3) := by decide +kernel
theorem dX10_totalOn_22 : decode cX10_totalOn 22 = .ok (.l2i, 1) := by decide +kernel
theorem dX10_totalOn_23 : decode cX10_totalOn 23 = .ok (.goto 4, 3) := by decide +kernel
theorem dX10_totalOn_26 : decode cX10_totalOn 26 = .ok (.iconst 0, 1) := by decide +kernel
theorem dX10_totalOn_27 : decode cX10_totalOn 27 = .ok (.ireturn, 1) := by decide +kernel
theorem dX10_undo_0 : decode cX10_undo 0 = .ok (.aload_n 0, 1) := by decide +kernel
theorem dX10_undo_1 : decode cX10_undo 1 = .ok (.iconst 0, 1) := by decide +kernel
theorem dX10_undo_2 : decode cX10_undo 2 = .ok (.putfield 80, 3) := by decide +kernel
theorem dX10_undo_5 : decode cX10_undo 5 = .ok (.aload_n 0, 1) := by decide +kernel
theorem dX10_undo_6 : decode cX10_undo 6 = .ok (.getfield 83, 3) := by decide +kernel
theorem dX10_undo_9 : decode cX10_undo 9 = .ok (.ifCond .ne 5, 3) := by decide +kernel
theorem dX10_undo_12 : decode cX10_undo 12 = .ok (.iconst (-1), 1) := by decide +kernel
theorem dX10_undo_13 : decode cX10_undo 13 = .ok (.ireturn, 1) := by decide +kernel
theorem dX10_undo_14 : decode cX10_undo 14 = .ok (.aload_n 0, 1) := by decide +kernel
theorem dX10_undo_15 : decode cX10_undo 15 = .ok (.dup, 1) := by decide +kernel
theorem dX10_undo_16 : decode cX10_undo 16 = .ok (.getfield 83, 3) := by decide +kernel
theorem dX10_undo_19 : decode cX10_undo 19 = .ok (.iconst 1, 1) := by decide +kernel
theorem dX10_undo_20 : decode cX10_undo 20 = .ok (.isub, 1) := by decide +kernel
theorem dX10_undo_21 : decode cX10_undo 21 = .ok (.putfield 83, 3) := by decide +kernel
theorem dX10_undo_24 : decode cX10_undo 24 = .ok (.iconst 0, 1) := by decide +kernel
theorem dX10_undo_25 : decode cX10_undo 25 = .ok (.istore_n 1, 1) := by decide +kernel
theorem dX10_undo_26 : decode cX10_undo 26 = .ok (.iload_n 1, 1) := by decide +kernel
theorem dX10_undo_27 : decode cX10_undo 27 = .ok (.sipush 326, 3) := by decide +kernel
theorem dX10_undo_30 : decode cX10_undo 30 = .ok (.if_icmp .ge 30, 3) := by decide +kernel
theorem dX10_undo_33 : decode cX10_undo 33 = .ok (.aload_n 0, 1) := by decide +kernel
theorem dX10_undo_34 : decode cX10_undo 34 = .ok (.getfield 7, 3) := by decide +kernel
theorem dX10_undo_37 : decode cX10_undo 37 = .ok (.iload_n 1, 1) := by decide +kernel
theorem dX10_undo_38 : decode cX10_undo 38 = .ok (.aload_n 0, 1) := by decide +kernel
theorem dX10_undo_39 : decode cX10_undo 39 = .ok (.getfield 19, 3) := by decide +kernel
theorem dX10_undo_42 : decode cX10_undo 42 = .ok (.sipush 326, 3) := by decide +kernel
theorem dX10_undo_45 : decode cX10_undo 45 = .ok (.aload_n 0, 1) := by decide +kernel
theorem dX10_undo_46 : decode cX10_undo 46 = .ok (.getfield 83, 3) := by decide +kernel
theorem dX10_undo_49 : decode cX10_undo 49 = .ok (.imul, 1) := by decide +kernel
theorem dX10_undo_50 : decode cX10_undo 50 = .ok (.iload_n 1, 1) := by decide +kernel
theorem dX10_undo_51 : decode cX10_undo 51 = .ok (.iadd, 1) := by decide +kernel
theorem dX10_undo_52 : decode cX10_undo 52 = .ok (.iaload, 1) := by decide +kernel
theorem dX10_undo_53 : decode cX10_undo 53 = .ok (.iastore, 1) := by decide +kernel
theorem dX10_undo_54 : decode cX10_undo 54 = .ok (.iinc 1 1, 3) := by decide +kernel
theorem dX10_undo_57 : decode cX10_undo 57 = .ok (.goto (-31), 3) := by decide +kernel
theorem dX10_undo_60 : decode cX10_undo 60 = .ok (.aload_n 0, 1) := by decide +kernel
theorem dX10_undo_61 : decode cX10_undo 61 = .ok (.aload_n 0, 1) := by decide +kernel
theorem dX10_undo_62 : decode cX10_undo 62 = .ok (.getfield 22, 3) := by decide +kernel
theorem dX10_undo_65 : decode cX10_undo 65 = .ok (.aload_n 0, 1) := by decide +kernel
theorem dX10_undo_66 : decode cX10_undo 66 = .ok (.getfield 83, 3) := by decide +kernel
theorem dX10_undo_69 : decode cX10_undo 69 = .ok (.laload, 1) := by decide +kernel
theorem dX10_undo_70 : decode cX10_undo 70 = .ok (.putfield 86, 3) := by decide +kernel
theorem dX10_undo_73 : decode cX10_undo 73 = .ok (.aload_n 0, 1) := by decide +kernel
theorem dX10_undo_74 : decode cX10_undo 74 = .ok (.getfield 83, 3) := by decide +kernel
theorem dX10_undo_77 : decode cX10_undo 77 = .ok (.ireturn, 1) := by decide +kernel
theorem dX10_withdraw_0 : decode cX10_withdraw 0 = .ok (.aload_n 0, 1) := by decide +kernel
theorem dX10_withdraw_1 : decode cX10_withdraw 1 = .ok (.iload_n 1, 1) := by decide +kernel
theorem dX10_withdraw_2 : decode cX10_withdraw 2 = .ok (.invokevirtual 330, 3) := by decide +kernel
theorem dX10_withdraw_5 : decode cX10_withdraw 5 = .ok (.istore_n 2, 1) := by decide +kernel
theorem dX10_withdraw_6 : decode cX10_withdraw 6 = .ok (.aload_n 0, 1) := by decide +kernel
theorem dX10_withdraw_7 : decode cX10_withdraw 7 = .ok (.iload_n 2, 1) := by decide +kernel
theorem dX10_withdraw_8 : decode cX10_withdraw 8 = .ok (.iload_n 2, 1) := by decide +kernel
theorem dX10_withdraw_9 : decode cX10_withdraw 9 = .ok (.ifCond .eq 17, 3) := by decide +kernel
theorem dX10_withdraw_12 : decode cX10_withdraw 12 = .ok (.aload_n 0, 1) := by decide +kernel
theorem dX10_withdraw_13 : decode cX10_withdraw 13 = .ok (.iload_n 1, 1) := by decide +kernel
theorem dX10_withdraw_14 : decode cX10_withdraw 14 = .ok (.iconst 2, 1) := by decide +kernel
theorem dX10_withdraw_15 : decode cX10_withdraw 15 = .ok (.invokevirtual 261, 3) := by decide +kernel
theorem dX10_withdraw_18 : decode cX10_withdraw 18 = .ok (.iconst 2, 1) := by decide +kernel
theorem dX10_withdraw_19 : decode cX10_withdraw 19 = .ok (.if_icmp .ne 7, 3) := by decide +kernel
theorem dX10_withdraw_22 : decode cX10_withdraw 22 = .ok (.iconst 1, 1) := by decide +kernel
theorem dX10_withdraw_23 : decode cX10_withdraw 23 = .ok (.goto 4, 3) := by decide +kernel
theorem dX10_withdraw_26 : decode cX10_withdraw 26 = .ok (.iconst 0, 1) := by decide +kernel
theorem dX10_withdraw_27 : decode cX10_withdraw 27 = .ok (.invokevirtual 358, 3) := by decide +kernel
theorem dX10_withdraw_30 : decode cX10_withdraw 30 = .ok (.ifCond .ne 5, 3) := by decide +kernel
theorem dX10_withdraw_33 : decode cX10_withdraw 33 = .ok (.iconst 0, 1) := by decide +kernel
theorem dX10_withdraw_34 : decode cX10_withdraw 34 = .ok (.ireturn, 1) := by decide +kernel
theorem dX10_withdraw_35 : decode cX10_withdraw 35 = .ok (.aload_n 0, 1) := by decide +kernel
theorem dX10_withdraw_36 : decode cX10_withdraw 36 = .ok (.invokevirtual 395, 3) := by decide +kernel
theorem dX10_withdraw_39 : decode cX10_withdraw 39 = .ok (.aload_n 0, 1) := by decide +kernel
theorem dX10_withdraw_40 : decode cX10_withdraw 40 = .ok (.iload_n 1, 1) := by decide +kernel
theorem dX10_withdraw_41 : decode cX10_withdraw 41 = .ok (.iconst 3, 1) := by decide +kernel
theorem dX10_withdraw_42 : decode cX10_withdraw 42 = .ok (.iconst 0, 1) := by decide +kernel
theorem dX10_withdraw_43 : decode cX10_withdraw 43 = .ok (.invokevirtual 273, 3) := by decide +kernel
theorem dX10_withdraw_46 : decode cX10_withdraw 46 = .ok (.aload_n 0, 1) := by decide +kernel
theorem dX10_withdraw_47 : decode cX10_withdraw 47 = .ok (.iload_n 1, 1) := by decide +kernel
theorem dX10_withdraw_48 : decode cX10_withdraw 48 = .ok (.iconst 2, 1) := by decide +kernel
theorem dX10_withdraw_49 : decode cX10_withdraw 49 = .ok (.iconst 0, 1) := by decide +kernel
theorem dX10_withdraw_50 : decode cX10_withdraw 50 = .ok (.invokevirtual 273, 3) := by decide +kernel
theorem dX10_withdraw_53 : decode cX10_withdraw 53 = .ok (.aload_n 0, 1) := by decide +kernel
theorem dX10_withdraw_54 : decode cX10_withdraw 54 = .ok (.invokevirtual 298, 3) := by decide +kernel
theorem dX10_withdraw_57 : decode cX10_withdraw 57 = .ok (.ireturn, 1) := by decide +kernel
theorem dX10_wouldHold_0 : decode cX10_wouldHold 0 = .ok (.iload_n 2, 1) := by decide +kernel
theorem dX10_wouldHold_1 : decode cX10_wouldHold 1 = .ok (.i2l, 1) := by decide +kernel
theorem dX10_wouldHold_2 : decode cX10_wouldHold 2 = .ok (.lconst 0, 1) := by decide +kernel
theorem dX10_wouldHold_3 : decode cX10_wouldHold 3 = .ok (.iconst 1, 1) := by decide +kernel
theorem dX10_wouldHold_4 : decode cX10_wouldHold 4 = .ok (.aload_n 0, 1) := by decide +kernel
theorem dX10_wouldHold_5 : decode cX10_wouldHold 5 = .ok (.getfield 7, 3) := by decide +kernel
theorem dX10_wouldHold_8 : decode cX10_wouldHold 8 = .ok (.bipush 13, 2) := by decide +kernel
theorem dX10_wouldHold_10 : decode cX10_wouldHold 10 = .ok (.iaload, 1) := by decide +kernel
theorem dX10_wouldHold_11 : decode cX10_wouldHold 11 = .ok (.ishl, 1) := by decide +kernel
theorem dX10_wouldHold_12 : decode cX10_wouldHold 12 = .ok (.iconst 1, 1) := by decide +kernel
theorem dX10_wouldHold_13 : decode cX10_wouldHold 13 = .ok (.isub, 1) := by decide +kernel
theorem dX10_wouldHold_14 : decode cX10_wouldHold 14 = .ok (.i2l, 1) := by decide +kernel
theorem dX10_wouldHold_15 : decode cX10_wouldHold 15 = .ok (.invokestatic 152, 3) := by decide +kernel
theorem dX10_wouldHold_18 : decode cX10_wouldHold 18 = .ok (.istore_n 3, 1) := by decide +kernel
theorem dX10_wouldHold_19 : decode cX10_wouldHold 19 = .ok (.aload_n 0, 1) := by decide +kernel
theorem dX10_wouldHold_20 : decode cX10_wouldHold 20 = .ok (.aload_n 0, 1) := by decide +kernel
theorem dX10_wouldHold_21 : decode cX10_wouldHold 21 = .ok (.iload_n 1, 1) := by decide +kernel
theorem dX10_wouldHold_22 : decode cX10_wouldHold 22 = .ok (.invokevirtual 330, 3) := by decide +kernel
theorem dX10_wouldHold_25 : decode cX10_wouldHold 25 = .ok (.iload_n 3, 1) := by decide +kernel
theorem dX10_wouldHold_26 : decode cX10_wouldHold 26 = .ok (.invokevirtual 358, 3) := by decide +kernel
theorem dX10_wouldHold_29 : decode cX10_wouldHold 29 = .ok (.ifCond .eq 34, 3) := by decide +kernel
theorem dX10_wouldHold_32 : decode cX10_wouldHold 32 = .ok (.aload_n 0, 1) := by decide +kernel
theorem dX10_wouldHold_33 : decode cX10_wouldHold 33 = .ok (.iload_n 1, 1) := by decide +kernel
theorem dX10_wouldHold_34 : decode cX10_wouldHold 34 = .ok (.aload_n 0, 1) := by decide +kernel
theorem dX10_wouldHold_35 : decode cX10_wouldHold 35 = .ok (.getfield 7, 3) := by decide +kernel
theorem dX10_wouldHold_38 : decode cX10_wouldHold 38 = .ok (.iconst 4, 1) := by decide +kernel
theorem dX10_wouldHold_39 : decode cX10_wouldHold 39 = .ok (.iaload, 1) := by decide +kernel
theorem dX10_wouldHold_40 : decode cX10_wouldHold 40 = .ok (.aload_n 0, 1) := by decide +kernel
theorem dX10_wouldHold_41 : decode cX10_wouldHold 41 = .ok (.getfield 7, 3) := by decide +kernel
theorem dX10_wouldHold_44 : decode cX10_wouldHold 44 = .ok (.bipush 12, 2) := by decide +kernel
theorem dX10_wouldHold_46 : decode cX10_wouldHold 46 = .ok (.iaload, 1) := by decide +kernel
theorem dX10_wouldHold_47 : decode cX10_wouldHold 47 = .ok (.aload_n 0, 1) := by decide +kernel
theorem dX10_wouldHold_48 : decode cX10_wouldHold 48 = .ok (.invokevirtual 284, 3) := by decide +kernel
theorem dX10_wouldHold_51 : decode cX10_wouldHold 51 = .ok (.iload_n 2, 1) := by decide +kernel
theorem dX10_wouldHold_52 : decode cX10_wouldHold 52 = .ok (.ior, 1) := by decide +kernel
theorem dX10_wouldHold_53 : decode cX10_wouldHold 53 = .ok (.invokevirtual 288, 3) := by decide +kernel
theorem dX10_wouldHold_56 : decode cX10_wouldHold 56 = .ok (.ifCond .eq 7, 3) := by decide +kernel
theorem dX10_wouldHold_59 : decode cX10_wouldHold 59 = .ok (.iconst 1, 1) := by decide +kernel
theorem dX10_wouldHold_60 : decode cX10_wouldHold 60 = .ok (.goto 4, 3) := by decide +kernel
theorem dX10_wouldHold_63 : decode cX10_wouldHold 63 = .ok (.iconst 0, 1) := by decide +kernel
theorem dX10_wouldHold_64 : decode cX10_wouldHold 64 = .ok (.ireturn, 1) := by decide +kernel
theorem dX10_write_0 : decode cX10_write 0 = .ok (.aload_n 0, 1) := by decide +kernel
theorem dX10_write_1 : decode cX10_write 1 = .ok (.aload_n 0, 1) := by decide +kernel
theorem dX10_write_2 : decode cX10_write 2 = .ok (.iload_n 1, 1) := by decide +kernel
theorem dX10_write_3 : decode cX10_write 3 = .ok (.invokevirtual 330, 3) := by decide +kernel
theorem dX10_write_6 : decode cX10_write 6 = .ok (.invokevirtual 333, 3) := by decide +kernel
theorem dX10_write_9 : decode cX10_write 9 = .ok (.ifCond .ne 5, 3) := by decide +kernel
theorem dX10_write_12 : decode cX10_write 12 = .ok (.iconst 0, 1) := by decide +kernel
theorem dX10_write_13 : decode cX10_write 13 = .ok (.ireturn, 1) := by decide +kernel
theorem dX10_write_14 : decode cX10_write 14 = .ok (.aload_n 0, 1) := by decide +kernel
theorem dX10_write_15 : decode cX10_write 15 = .ok (.iconst 0, 1) := by decide +kernel
theorem dX10_write_16 : decode cX10_write 16 = .ok (.putfield 412, 3) := by decide +kernel
theorem dX10_write_19 : decode cX10_write 19 = .ok (.iconst 0, 1) := by decide +kernel
theorem dX10_write_20 : decode cX10_write 20 = .ok (.istore_n 2, 1) := by decide +kernel
theorem dX10_write_21 : decode cX10_write 21 = .ok (.iload_n 2, 1) := by decide +kernel
theorem dX10_write_22 : decode cX10_write 22 = .ok (.aload_n 0, 1) := by decide +kernel
theorem dX10_write_23 : decode cX10_write 23 = .ok (.getfield 36, 3) := by decide +kernel
theorem dX10_write_26 : decode cX10_write 26 = .ok (.iload_n 1, 1) := by decide +kernel
theorem dX10_write_27 : decode cX10_write 27 = .ok (.laload, 1) := by decide +kernel
theorem dX10_write_28 : decode cX10_write 28 = .ok (.invokestatic 351, 3) := by decide +kernel
theorem dX10_write_31 : decode cX10_write 31 = .ok (.if_icmp .ge 23, 3) := by decide +kernel
theorem dX10_write_34 : decode cX10_write 34 = .ok (.aload_n 0, 1) := by decide +kernel
theorem dX10_write_35 : decode cX10_write 35 = .ok (.aload_n 0, 1) := by decide +kernel
theorem dX10_write_36 : decode cX10_write 36 = .ok (.getfield 36, 3) := by decide +kernel
theorem dX10_write_39 : decode cX10_write 39 = .ok (.iload_n 1, 1) := by decide +kernel
theorem dX10_write_40 : decode cX10_write 40 = .ok (.laload, 1) := by decide +kernel
theorem dX10_write_41 : decode cX10_write 41 = .ok (.iload_n 2, 1) := by decide +kernel
theorem dX10_write_42 : decode cX10_write 42 = .ok (.invokestatic 354, 3) := by decide +kernel
theorem dX10_write_45 : decode cX10_write 45 = .ok (.invokevirtual 417, 3) := by decide +kernel
theorem dX10_write_48 : decode cX10_write 48 = .ok (.iinc 2 1, 3) := by decide +kernel
theorem dX10_write_51 : decode cX10_write 51 = .ok (.goto (-30), 3) := by decide +kernel
theorem dX10_write_54 : decode cX10_write 54 = .ok (.aload_n 0, 1) := by decide +kernel
theorem dX10_write_55 : decode cX10_write 55 = .ok (.bipush 32, 2) := by decide +kernel
theorem dX10_write_57 : decode cX10_write 57 = .ok (.invokevirtual 417, 3) := by decide +kernel
theorem dX10_write_60 : decode cX10_write 60 = .ok (.aload_n 0, 1) := by decide +kernel
theorem dX10_write_61 : decode cX10_write 61 = .ok (.aload_n 0, 1) := by decide +kernel
theorem dX10_write_62 : decode cX10_write 62 = .ok (.iload_n 1, 1) := by decide +kernel
theorem dX10_write_63 : decode cX10_write 63 = .ok (.iconst 2, 1) := by decide +kernel
theorem dX10_write_64 : decode cX10_write 64 = .ok (.invokevirtual 261, 3) := by decide +kernel
theorem dX10_write_67 : decode cX10_write 67 = .ok (.invokestatic 431, 3) := by decide +kernel
theorem dX10_write_70 : decode cX10_write 70 = .ok (.invokevirtual 435, 3) := by decide +kernel
theorem dX10_write_73 : decode cX10_write 73 = .ok (.aload_n 0, 1) := by decide +kernel
theorem dX10_write_74 : decode cX10_write 74 = .ok (.bipush 32, 2) := by decide +kernel
theorem dX10_write_76 : decode cX10_write 76 = .ok (.invokevirtual 417, 3) := by decide +kernel
theorem dX10_write_79 : decode cX10_write 79 = .ok (.aload_n 0, 1) := by decide +kernel
theorem dX10_write_80 : decode cX10_write 80 = .ok (.aload_n 0, 1) := by decide +kernel
theorem dX10_write_81 : decode cX10_write 81 = .ok (.iload_n 1, 1) := by decide +kernel
theorem dX10_write_82 : decode cX10_write 82 = .ok (.iconst 1, 1) := by decide +kernel
theorem dX10_write_83 : decode cX10_write 83 = .ok (.invokevirtual 261, 3) := by decide +kernel
theorem dX10_write_86 : decode cX10_write 86 = .ok (.invokevirtual 439, 3) := by decide +kernel
theorem dX10_write_89 : decode cX10_write 89 = .ok (.aload_n 0, 1) := by decide +kernel
theorem dX10_write_90 : decode cX10_write 90 = .ok (.bipush 47, 2) := by decide +kernel
theorem dX10_write_92 : decode cX10_write 92 = .ok (.invokevirtual 417, 3) := by decide +kernel
theorem dX10_write_95 : decode cX10_write 95 = .ok (.aload_n 0, 1) := by decide +kernel
theorem dX10_write_96 : decode cX10_write 96 = .ok (.aload_n 0, 1) := by decide +kernel
theorem dX10_write_97 : decode cX10_write 97 = .ok (.iload_n 1, 1) := by decide +kernel
theorem dX10_write_98 : decode cX10_write 98 = .ok (.iconst 0, 1) := by decide +kernel
theorem dX10_write_99 : decode cX10_write 99 = .ok (.invokevirtual 261, 3) := by decide +kernel
theorem dX10_write_102 : decode cX10_write 102 = .ok (.invokevirtual 439, 3) := by decide +kernel
theorem dX10_write_105 : decode cX10_write 105 = .ok (.aload_n 0, 1) := by decide +kernel
theorem dX10_write_106 : decode cX10_write 106 = .ok (.iload_n 1, 1) := by decide +kernel
theorem dX10_write_107 : decode cX10_write 107 = .ok (.iconst 2, 1) := by decide +kernel
theorem dX10_write_108 : decode cX10_write 108 = .ok (.invokevirtual 261, 3) := by decide +kernel
theorem dX10_write_111 : decode cX10_write 111 = .ok (.iconst 1, 1) := by decide +kernel
theorem dX10_write_112 : decode cX10_write 112 = .ok (.if_icmp .ne 20, 3) := by decide +kernel
theorem dX10_write_115 : decode cX10_write 115 = .ok (.aload_n 0, 1) := by decide +kernel
theorem dX10_write_116 : decode cX10_write 116 = .ok (.ldc_w 442, 3) := by decide +kernel
theorem dX10_write_119 : decode cX10_write 119 = .ok (.invokevirtual 435, 3) := by decide +kernel
theorem dX10_write_122 : decode cX10_write 122 = .ok (.aload_n 0, 1) := by decide +kernel
theorem dX10_write_123 : decode cX10_write 123 = .ok (.aload_n 0, 1) := by decide +kernel
theorem dX10_write_124 : decode cX10_write 124 = .ok (.iload_n 1, 1) := by decide +kernel
theorem dX10_write_125 : decode cX10_write 125 = .ok (.iconst 4, 1) := by decide +kernel
theorem dX10_write_126 : decode cX10_write 126 = .ok (.invokevirtual 261, 3) := by decide +kernel
theorem dX10_write_129 : decode cX10_write 129 = .ok (.invokevirtual 439, 3) := by decide +kernel
theorem dX10_write_132 : decode cX10_write 132 = .ok (.aload_n 0, 1) := by decide +kernel
theorem dX10_write_133 : decode cX10_write 133 = .ok (.iload_n 1, 1) := by decide +kernel
theorem dX10_write_134 : decode cX10_write 134 = .ok (.iconst 2, 1) := by decide +kernel
theorem dX10_write_135 : decode cX10_write 135 = .ok (.invokevirtual 261, 3) := by decide +kernel
theorem dX10_write_138 : decode cX10_write 138 = .ok (.iconst 2, 1) := by decide +kernel
theorem dX10_write_139 : decode cX10_write 139 = .ok (.if_icmp .ne 20, 3) := by decide +kernel
theorem dX10_write_142 : decode cX10_write 142 = .ok (.aload_n 0, 1) := by decide +kernel
theorem dX10_write_143 : decode cX10_write 143 = .ok (.ldc_w 444, 3) := by decide +kernel
theorem dX10_write_146 : decode cX10_write 146 = .ok (.invokevirtual 435, 3) := by decide +kernel
theorem dX10_write_149 : decode cX10_write 149 = .ok (.aload_n 0, 1) := by decide +kernel
theorem dX10_write_150 : decode cX10_write 150 = .ok (.aload_n 0, 1) := by decide +kernel
theorem dX10_write_151 : decode cX10_write 151 = .ok (.iload_n 1, 1) := by decide +kernel
theorem dX10_write_152 : decode cX10_write 152 = .ok (.iconst 3, 1) := by decide +kernel
theorem dX10_write_153 : decode cX10_write 153 = .ok (.invokevirtual 261, 3) := by decide +kernel
theorem dX10_write_156 : decode cX10_write 156 = .ok (.invokevirtual 439, 3) := by decide +kernel
theorem dX10_write_159 : decode cX10_write 159 = .ok (.aload_n 0, 1) := by decide +kernel
theorem dX10_write_160 : decode cX10_write 160 = .ok (.getfield 412, 3) := by decide +kernel
theorem dX10_write_163 : decode cX10_write 163 = .ok (.ireturn, 1) := by decide +kernel
theorem dX10_written_0 : decode cX10_written 0 = .ok (.aload_n 0, 1) := by decide +kernel
theorem dX10_written_1 : decode cX10_written 1 = .ok (.iload_n 1, 1) := by decide +kernel
theorem dX10_written_2 : decode cX10_written 2 = .ok (.i2l, 1) := by decide +kernel
theorem dX10_written_3 : decode cX10_written 3 = .ok (.lconst 0, 1) := by decide +kernel
theorem dX10_written_4 : decode cX10_written 4 = .ok (.aload_n 0, 1) := by decide +kernel
theorem dX10_written_5 : decode cX10_written 5 = .ok (.getfield 412, 3) := by decide +kernel
theorem dX10_written_8 : decode cX10_written 8 = .ok (.iconst 1, 1) := by decide +kernel
theorem dX10_written_9 : decode cX10_written 9 = .ok (.isub, 1) := by decide +kernel
theorem dX10_written_10 : decode cX10_written 10 = .ok (.i2l, 1) := by decide +kernel
theorem dX10_written_11 : decode cX10_written 11 = .ok (.invokestatic 152, 3) := by decide +kernel
theorem dX10_written_14 : decode cX10_written 14 = .ok (.invokevirtual 333, 3) := by decide +kernel
theorem dX10_written_17 : decode cX10_written 17 = .ok (.ifCond .eq 13, 3) := by decide +kernel
theorem dX10_written_20 : decode cX10_written 20 = .ok (.aload_n 0, 1) := by decide +kernel
theorem dX10_written_21 : decode cX10_written 21 = .ok (.getfield 67, 3) := by decide +kernel
theorem dX10_written_24 : decode cX10_written 24 = .ok (.iload_n 1, 1) := by decide +kernel
theorem dX10_written_25 : decode cX10_written 25 = .ok (.iaload, 1) := by decide +kernel
theorem dX10_written_26 : decode cX10_written 26 = .ok (.i2c, 1) := by decide +kernel
theorem dX10_written_27 : decode cX10_written 27 = .ok (.goto 4, 3) := by decide +kernel
theorem dX10_written_30 : decode cX10_written 30 = .ok (.iconst 0, 1) := by decide +kernel
theorem dX10_written_31 : decode cX10_written 31 = .ok (.ireturn, 1) := by decide +kernel

set_option maxRecDepth 20000 in
theorem ggX10_feed_X10_append : GoodIn wsX10_feed wsX10_append := goodIn_r _ [7, 8, 2, 9, 10, 11, 12, 13, 14, 15, 16, 17, 18, 19, 20, 21, 22, 23, 24, 25, 26, 27, 28, 29, 30, 31, 32, 33, 34, 35, 36, 37, 38, 39, 40, 41, 42, 43, 44, 45, 46, 47] rfl (by decide +kernel)
set_option maxRecDepth 20000 in
theorem gX10_feed_X10_append : GoodIn wsX10_feed (wsV RX10 93 RX10 yX10_append wsX10_append) := goodIn_app (goodIn_r _ [3, 4, 5, 6] rfl (by decide +kernel)) ggX10_feed_X10_append
set_option maxRecDepth 20000 in
theorem ggX10_refund_X10_enter : GoodIn wsX10_refund wsX10_enter := goodIn_r _ [5] rfl (by decide +kernel)
set_option maxRecDepth 20000 in
theorem gX10_refund_X10_enter : GoodIn wsX10_refund (va_wsS RX10 229 yX10_enter wsX10_enter) := goodIn_app (goodIn_r _ [2, 3, 4] rfl (by decide +kernel)) ggX10_refund_X10_enter
set_option maxRecDepth 20000 in
theorem ggX10_credit_X10_enter : GoodIn wsX10_credit wsX10_enter := goodIn_r _ [7] rfl (by decide +kernel)
set_option maxRecDepth 20000 in
theorem gX10_credit_X10_enter : GoodIn wsX10_credit (va_wsS RX10 229 yX10_enter wsX10_enter) := goodIn_app (goodIn_r _ [4, 5, 6] rfl (by decide +kernel)) ggX10_credit_X10_enter
set_option maxRecDepth 20000 in
theorem ggX10_passDay_X10_credit : GoodIn wsX10_passDay wsX10_credit := goodIn_r _ [7, 8, 2, 1, 9, 10, 6, 11, 85, 86, 87, 88, 89, 90, 91, 92, 93, 94, 95, 96, 97, 98, 99, 100, 101, 102, 103, 104, 105, 106, 107, 108, 109, 110, 111, 112, 113, 114, 115, 116, 117, 118, 119, 120, 121, 122, 123] rfl (by decide +kernel)
set_option maxRecDepth 20000 in
theorem gX10_passDay_X10_credit : GoodIn wsX10_passDay (wsV RX10 315 RX10 yX10_credit wsX10_credit) := goodIn_app (goodIn_r _ [3, 4, 5, 6] rfl (by decide +kernel)) ggX10_passDay_X10_credit
set_option maxRecDepth 20000 in
theorem ggX10_passDay_X10_becomeDue : GoodIn wsX10_passDay wsX10_becomeDue := goodIn_r _ [15, 2, 16, 17, 18, 6, 19, 20, 21, 22, 23, 24, 25, 26, 27, 28, 29, 30, 31, 32, 33, 34, 35, 36, 37, 38, 39, 85, 86, 87, 88, 89, 90, 91, 92, 93, 94, 95, 96, 97, 98, 99, 100, 101, 102, 103, 104, 105, 106, 107, 108, 109, 110, 111, 112, 113, 114, 115, 116, 117, 118, 119, 120, 121, 122, 123] rfl (by decide +kernel)
set_option maxRecDepth 20000 in
theorem gX10_passDay_X10_becomeDue : GoodIn wsX10_passDay (wsV RX10 318 RX10 yX10_becomeDue wsX10_becomeDue) := goodIn_app (goodIn_r _ [12, 13, 14, 6] rfl (by decide +kernel)) ggX10_passDay_X10_becomeDue
set_option maxRecDepth 20000 in
theorem ggX10_passDay_X10_payDue : GoodIn wsX10_passDay wsX10_payDue := goodIn_r _ [43, 44, 45, 46, 47, 48, 49, 50, 51, 6, 52, 2, 20, 21, 22, 23, 53, 54, 55, 56, 57, 58, 59, 60, 61, 62, 63, 64, 65, 66, 67, 68, 69, 70, 71, 72, 73, 74, 75, 76, 77, 78, 79, 80, 8, 36, 37, 38, 39, 9, 10, 11, 81, 82, 83, 84, 85, 86, 87, 88, 89, 90, 91, 92, 93, 94, 95, 96, 97, 98, 99, 100, 101, 102, 103, 104, 105, 106, 107, 108, 109, 110, 111, 112, 113, 114, 115, 116, 117, 118, 119, 120, 121, 122, 123] rfl (by decide +kernel)
set_option maxRecDepth 20000 in
theorem gX10_passDay_X10_payDue : GoodIn wsX10_passDay (wsV RX10 321 RX10 yX10_payDue wsX10_payDue) := goodIn_app (goodIn_r _ [40, 41, 42, 6] rfl (by decide +kernel)) ggX10_passDay_X10_payDue
set_option maxRecDepth 20000 in
theorem ggX10_passDays_X10_passDay : GoodIn wsX10_passDays wsX10_passDay := goodIn_r _ [5, 6, 7, 8, 9, 10, 4, 11, 12, 13, 14, 15, 16, 17, 18, 19, 20, 21, 22, 23, 24, 25, 26, 27, 28, 29, 30, 31, 32, 33, 34, 35, 36, 37, 38, 39, 40, 41, 42, 43, 44, 45, 46, 47, 48, 49, 50, 51, 52, 53, 54, 55, 56, 57, 58, 59, 60, 61, 62, 63, 64, 65, 66, 67, 68, 69, 70, 71, 72, 73, 74, 75, 76, 77, 78, 79, 80, 81, 82, 83, 84, 85, 86, 87, 88, 89, 90, 91, 92, 93, 94, 95, 96, 97, 98, 99, 100, 101, 102, 103, 104, 105, 106, 107, 108, 109, 110, 111, 112, 113, 114, 115, 116, 117, 118, 119, 120, 121, 122, 123, 124, 125, 126, 127] rfl (by decide +kernel)
set_option maxRecDepth 20000 in
theorem gX10_passDays_X10_passDay : GoodIn wsX10_passDays (wsV RX10 324 RX10 yX10_passDay wsX10_passDay) := goodIn_app (goodIn_r _ [1, 2, 3, 4] rfl (by decide +kernel)) ggX10_passDays_X10_passDay
set_option maxRecDepth 20000 in
theorem ggX10_beginTrial_X10_copy : GoodIn wsX10_beginTrial wsX10_copy := goodIn_r _ [8] rfl (by decide +kernel)
set_option maxRecDepth 20000 in
theorem gX10_beginTrial_X10_copy : GoodIn wsX10_beginTrial (va_wsS RX10 245 yX10_copy wsX10_copy) := goodIn_app (goodIn_r _ [5, 6, 7] rfl (by decide +kernel)) ggX10_beginTrial_X10_copy
set_option maxRecDepth 20000 in
theorem ggX10_endTrial_X10_copy : GoodIn wsX10_endTrial wsX10_copy := goodIn_r _ [8] rfl (by decide +kernel)
set_option maxRecDepth 20000 in
theorem gX10_endTrial_X10_copy : GoodIn wsX10_endTrial (va_wsS RX10 245 yX10_copy wsX10_copy) := goodIn_app (goodIn_r _ [5, 6, 7] rfl (by decide +kernel)) ggX10_endTrial_X10_copy
set_option maxRecDepth 20000 in
theorem ggX10_paymentsAfter_X10_isTrial : GoodIn wsX10_paymentsAfter wsX10_isTrial := goodIn_r _ [5, 6, 7, 8, 4, 9] rfl (by decide +kernel)
set_option maxRecDepth 20000 in
theorem gX10_paymentsAfter_X10_isTrial : GoodIn wsX10_paymentsAfter (va_wsS RX10 363 yX10_isTrial wsX10_isTrial) := goodIn_app (goodIn_r _ [2, 3, 4] rfl (by decide +kernel)) ggX10_paymentsAfter_X10_isTrial
set_option maxRecDepth 20000 in
theorem ggX10_paymentsAfter_X10_good : GoodIn wsX10_paymentsAfter wsX10_good := goodIn_r _ [13, 14, 118, 119, 120, 121, 122, 123, 124, 125, 126, 127, 128, 129, 130, 131, 132, 133, 134, 135, 136, 137, 138, 139, 140, 141, 142, 143, 144, 145, 146, 147, 148, 149, 150, 151, 152, 153, 154, 155, 156] rfl (by decide +kernel)
set_option maxRecDepth 20000 in
theorem gX10_paymentsAfter_X10_good : GoodIn wsX10_paymentsAfter (wsV RX10 333 RX10 yX10_good wsX10_good) := goodIn_app (goodIn_r _ [10, 11, 12, 4] rfl (by decide +kernel)) ggX10_paymentsAfter_X10_good
set_option maxRecDepth 20000 in
theorem ggX10_paymentsAfter_X10_beginTrial : GoodIn wsX10_paymentsAfter wsX10_beginTrial := goodIn_r _ [18, 1, 19, 20, 21, 22, 23, 4, 24, 118, 119, 120, 121, 122, 123, 124, 125, 126, 127, 128, 129, 130, 131, 132, 133, 134, 135, 136, 137, 138, 139, 140, 141, 142, 143, 144, 145, 146, 147, 148, 149, 150, 151, 152, 153, 154, 155, 156] rfl (by decide +kernel)
set_option maxRecDepth 20000 in
theorem gX10_paymentsAfter_X10_beginTrial : GoodIn wsX10_paymentsAfter (wsV RX10 366 RX10 yX10_beginTrial wsX10_beginTrial) := goodIn_app (goodIn_r _ [15, 16, 17, 4] rfl (by decide +kernel)) ggX10_paymentsAfter_X10_beginTrial
set_option maxRecDepth 20000 in
theorem ggX10_paymentsAfter_X10_passDays : GoodIn wsX10_paymentsAfter wsX10_passDays := goodIn_r _ [28, 29, 30, 31, 4, 32, 20, 1, 33, 34, 35, 36, 37, 38, 39, 40, 41, 42, 43, 44, 45, 46, 47, 48, 49, 50, 51, 52, 53, 54, 55, 56, 57, 58, 59, 60, 61, 62, 63, 64, 65, 66, 67, 68, 69, 70, 71, 72, 73, 74, 75, 76, 77, 78, 79, 80, 81, 82, 83, 84, 85, 86, 87, 88, 89, 90, 91, 92, 93, 94, 95, 96, 97, 98, 99, 100, 101, 102, 103, 104, 105, 106, 107, 108, 109, 110, 111, 112, 113, 118, 119, 120, 121, 122, 123, 124, 125, 126, 127, 128, 129, 130, 131, 132, 133, 134, 135, 136, 137, 138, 139, 140, 141, 142, 143, 144, 145, 146, 147, 148, 149, 150, 151, 152, 153, 154, 155, 156] rfl (by decide +kernel)
set_option maxRecDepth 20000 in
theorem gX10_paymentsAfter_X10_passDays : GoodIn wsX10_paymentsAfter (wsV RX10 369 RX10 yX10_passDays wsX10_passDays) := goodIn_app (goodIn_r _ [25, 26, 27, 4] rfl (by decide +kernel)) ggX10_paymentsAfter_X10_passDays
set_option maxRecDepth 20000 in
theorem ggX10_paymentsAfter_X10_endTrial : GoodIn wsX10_paymentsAfter wsX10_endTrial := goodIn_r _ [117, 19, 1, 21, 20, 22, 23, 4, 24, 118, 119, 120, 121, 122, 123, 124, 125, 126, 127, 128, 129, 130, 131, 132, 133, 134, 135, 136, 137, 138, 139, 140, 141, 142, 143, 144, 145, 146, 147, 148, 149, 150, 151, 152, 153, 154, 155, 156] rfl (by decide +kernel)
set_option maxRecDepth 20000 in
theorem gX10_paymentsAfter_X10_endTrial : GoodIn wsX10_paymentsAfter (wsV RX10 372 RX10 yX10_endTrial wsX10_endTrial) := goodIn_app (goodIn_r _ [114, 115, 116, 4] rfl (by decide +kernel)) ggX10_paymentsAfter_X10_endTrial
set_option maxRecDepth 20000 in
theorem ggX10_creditedAfter_X10_isTrial : GoodIn wsX10_creditedAfter wsX10_isTrial := goodIn_r _ [5, 6, 7, 8, 4, 9] rfl (by decide +kernel)
set_option maxRecDepth 20000 in
theorem gX10_creditedAfter_X10_isTrial : GoodIn wsX10_creditedAfter (va_wsS RX10 363 yX10_isTrial wsX10_isTrial) := goodIn_app (goodIn_r _ [2, 3, 4] rfl (by decide +kernel)) ggX10_creditedAfter_X10_isTrial
set_option maxRecDepth 20000 in
theorem ggX10_creditedAfter_X10_good : GoodIn wsX10_creditedAfter wsX10_good := goodIn_r _ [13, 14, 118, 119, 120, 121, 122, 123, 124, 125, 126, 127, 128, 129, 130, 131, 132, 133, 134, 135, 136, 137, 138, 139, 140, 141, 142, 143, 144, 145, 146, 147, 148, 149, 150, 151, 152, 153, 154, 155, 156] rfl (by decide +kernel)
set_option maxRecDepth 20000 in
theorem gX10_creditedAfter_X10_good : GoodIn wsX10_creditedAfter (wsV RX10 333 RX10 yX10_good wsX10_good) := goodIn_app (goodIn_r _ [10, 11, 12, 4] rfl (by decide +kernel)) ggX10_creditedAfter_X10_good
set_option maxRecDepth 20000 in
theorem ggX10_creditedAfter_X10_beginTrial : GoodIn wsX10_creditedAfter wsX10_beginTrial := goodIn_r _ [18, 1, 19, 20, 21, 22, 23, 4, 24, 118, 119, 120, 121, 122, 123, 124, 125, 126, 127, 128, 129, 130, 131, 132, 133, 134, 135, 136, 137, 138, 139, 140, 141, 142, 143, 144, 145, 146, 147, 148, 149, 150, 151, 152, 153, 154, 155, 156] rfl (by decide +kernel)
set_option maxRecDepth 20000 in
theorem gX10_creditedAfter_X10_beginTrial : GoodIn wsX10_creditedAfter (wsV RX10 366 RX10 yX10_beginTrial wsX10_beginTrial) := goodIn_app (goodIn_r _ [15, 16, 17, 4] rfl (by decide +kernel)) ggX10_creditedAfter_X10_beginTrial
set_option maxRecDepth 20000 in
theorem ggX10_creditedAfter_X10_passDays : GoodIn wsX10_creditedAfter wsX10_passDays := goodIn_r _ [28, 29, 30, 31, 4, 32, 20, 1, 33, 34, 35, 36, 37, 38, 39, 40, 41, 42, 43, 44, 45, 46, 47, 48, 49, 50, 51, 52, 53, 54, 55, 56, 57, 58, 59, 60, 61, 62, 63, 64, 65, 66, 67, 68, 69, 70, 71, 72, 73, 74, 75, 76, 77, 78, 79, 80, 81, 82, 83, 84, 85, 86, 87, 88, 89, 90, 91, 92, 93, 94, 95, 96, 97, 98, 99, 100, 101, 102, 103, 104, 105, 106, 107, 108, 109, 110, 111, 112, 113, 118, 119, 120, 121, 122, 123, 124, 125, 126, 127, 128, 129, 130, 131, 132, 133, 134, 135, 136, 137, 138, 139, 140, 141, 142, 143, 144, 145, 146, 147, 148, 149, 150, 151, 152, 153, 154, 155, 156] rfl (by decide +kernel)
set_option maxRecDepth 20000 in
theorem gX10_creditedAfter_X10_passDays : GoodIn wsX10_creditedAfter (wsV RX10 369 RX10 yX10_passDays wsX10_passDays) := goodIn_app (goodIn_r _ [25, 26, 27, 4] rfl (by decide +kernel)) ggX10_creditedAfter_X10_passDays
set_option maxRecDepth 20000 in
theorem ggX10_creditedAfter_X10_endTrial : GoodIn wsX10_creditedAfter wsX10_endTrial := goodIn_r _ [117, 19, 1, 21, 20, 22, 23, 4, 24, 118, 119, 120, 121, 122, 123, 124, 125, 126, 127, 128, 129, 130, 131, 132, 133, 134, 135, 136, 137, 138, 139, 140, 141, 142, 143, 144, 145, 146, 147, 148, 149, 150, 151, 152, 153, 154, 155, 156] rfl (by decide +kernel)
set_option maxRecDepth 20000 in
theorem gX10_creditedAfter_X10_endTrial : GoodIn wsX10_creditedAfter (wsV RX10 372 RX10 yX10_endTrial wsX10_endTrial) := goodIn_app (goodIn_r _ [114, 115, 116, 4] rfl (by decide +kernel)) ggX10_creditedAfter_X10_endTrial
set_option maxRecDepth 20000 in
theorem ggX10_shortDay_X10_isTrial : GoodIn wsX10_shortDay wsX10_isTrial := goodIn_r _ [5, 6, 7, 8, 4, 9] rfl (by decide +kernel)
set_option maxRecDepth 20000 in
theorem gX10_shortDay_X10_isTrial : GoodIn wsX10_shortDay (va_wsS RX10 363 yX10_isTrial wsX10_isTrial) := goodIn_app (goodIn_r _ [2, 3, 4] rfl (by decide +kernel)) ggX10_shortDay_X10_isTrial
set_option maxRecDepth 20000 in
theorem ggX10_shortDay_X10_good : GoodIn wsX10_shortDay wsX10_good := goodIn_r _ [13, 14, 118, 119, 120, 121, 122, 123, 124, 125, 126, 127, 128, 129, 130, 131, 132, 133, 134, 135, 136, 137, 138, 139, 140, 141, 142, 143, 144, 145, 146, 147, 148, 149, 150, 151, 152, 153, 154, 155, 156] rfl (by decide +kernel)
set_option maxRecDepth 20000 in
theorem gX10_shortDay_X10_good : GoodIn wsX10_shortDay (wsV RX10 333 RX10 yX10_good wsX10_good) := goodIn_app (goodIn_r _ [10, 11, 12, 4] rfl (by decide +kernel)) ggX10_shortDay_X10_good
set_option maxRecDepth 20000 in
theorem ggX10_shortDay_X10_beginTrial : GoodIn wsX10_shortDay wsX10_beginTrial := goodIn_r _ [18, 1, 19, 20, 21, 22, 23, 4, 24, 118, 119, 120, 121, 122, 123, 124, 125, 126, 127, 128, 129, 130, 131, 132, 133, 134, 135, 136, 137, 138, 139, 140, 141, 142, 143, 144, 145, 146, 147, 148, 149, 150, 151, 152, 153, 154, 155, 156] rfl (by decide +kernel)
set_option maxRecDepth 20000 in
theorem gX10_shortDay_X10_beginTrial : GoodIn wsX10_shortDay (wsV RX10 366 RX10 yX10_beginTrial wsX10_beginTrial) := goodIn_app (goodIn_r _ [15, 16, 17, 4] rfl (by decide +kernel)) ggX10_shortDay_X10_beginTrial
set_option maxRecDepth 20000 in
theorem ggX10_shortDay_X10_passDay : GoodIn wsX10_shortDay wsX10_passDay := goodIn_r _ [28, 20, 1, 29, 30, 31, 4, 32, 33, 34, 35, 36, 37, 38, 39, 40, 41, 42, 43, 44, 45, 46, 47, 48, 49, 50, 51, 52, 53, 54, 55, 56, 57, 58, 59, 60, 61, 62, 63, 64, 65, 66, 67, 68, 69, 70, 71, 72, 73, 74, 75, 76, 77, 78, 79, 80, 81, 82, 83, 84, 85, 86, 87, 88, 89, 90, 91, 92, 93, 94, 95, 96, 97, 98, 99, 100, 101, 102, 103, 104, 105, 106, 107, 108, 109, 118, 119, 120, 121, 122, 123, 124, 125, 126, 127, 128, 129, 130, 131, 132, 133, 134, 135, 136, 137, 138, 139, 140, 141, 142, 143, 144, 145, 146, 147, 148, 149, 150, 151, 152, 153, 154, 155, 156] rfl (by decide +kernel)
set_option maxRecDepth 20000 in
theorem gX10_shortDay_X10_passDay : GoodIn wsX10_shortDay (wsV RX10 324 RX10 yX10_passDay wsX10_passDay) := goodIn_app (goodIn_r _ [25, 26, 27, 4] rfl (by decide +kernel)) ggX10_shortDay_X10_passDay
set_option maxRecDepth 20000 in
theorem ggX10_shortDay_X10_isShort : GoodIn wsX10_shortDay wsX10_isShort := goodIn_r _ [113, 1, 94, 95, 96, 4, 97, 45, 46, 47, 48, 82, 83, 84, 85, 86, 87, 88, 89, 118, 119, 120, 121, 122, 123, 124, 125, 126, 127, 128, 129, 130, 131, 132, 133, 134, 135, 136, 137, 138, 139, 140, 141, 142, 143, 144, 145, 146, 147, 148, 149, 150, 151, 152, 153, 154, 155, 156] rfl (by decide +kernel)
set_option maxRecDepth 20000 in
theorem gX10_shortDay_X10_isShort : GoodIn wsX10_shortDay (wsV RX10 390 RX10 yX10_isShort wsX10_isShort) := goodIn_app (goodIn_r _ [110, 111, 112, 4] rfl (by decide +kernel)) ggX10_shortDay_X10_isShort
set_option maxRecDepth 20000 in
theorem ggX10_shortDay_X10_endTrial : GoodIn wsX10_shortDay wsX10_endTrial := goodIn_r _ [117, 19, 1, 21, 20, 22, 23, 4, 24, 118, 119, 120, 121, 122, 123, 124, 125, 126, 127, 128, 129, 130, 131, 132, 133, 134, 135, 136, 137, 138, 139, 140, 141, 142, 143, 144, 145, 146, 147, 148, 149, 150, 151, 152, 153, 154, 155, 156] rfl (by decide +kernel)
set_option maxRecDepth 20000 in
theorem gX10_shortDay_X10_endTrial : GoodIn wsX10_shortDay (wsV RX10 372 RX10 yX10_endTrial wsX10_endTrial) := goodIn_app (goodIn_r _ [114, 115, 116, 4] rfl (by decide +kernel)) ggX10_shortDay_X10_endTrial
set_option maxRecDepth 20000 in
theorem ggX10_deposit_X10_between : GoodIn wsX10_deposit wsX10_between := goodIn_r _ [7] rfl (by decide +kernel)
set_option maxRecDepth 20000 in
theorem gX10_deposit_X10_between : GoodIn wsX10_deposit (va_wsS RX10 152 yX10_between wsX10_between) := goodIn_app (goodIn_r _ [4, 5, 6] rfl (by decide +kernel)) ggX10_deposit_X10_between
set_option maxRecDepth 20000 in
theorem ggX10_deposit_X10_good_ : GoodIn wsX10_deposit wsX10_good_ := goodIn_r _ [11, 12, 24, 25, 26, 27, 28, 29, 30, 31, 32, 33, 34, 35, 36, 37, 38, 39, 40, 41, 42, 43, 44, 45, 46, 47, 48, 49, 50, 51, 52, 53, 54, 55, 56, 57, 58, 59, 60, 61, 62] rfl (by decide +kernel)
set_option maxRecDepth 20000 in
theorem gX10_deposit_X10_good_ : GoodIn wsX10_deposit (wsV RX10 358 RX10 yX10_good_ wsX10_good_) := goodIn_app (goodIn_r _ [8, 9, 10, 6] rfl (by decide +kernel)) ggX10_deposit_X10_good_
set_option maxRecDepth 20000 in
theorem ggX10_deposit_X10_remember : GoodIn wsX10_deposit wsX10_remember := goodIn_r _ [16, 17, 18, 19, 2, 20, 24, 25, 26, 27, 28, 29, 30, 31, 32, 33, 34, 35, 36, 37, 38, 39, 40, 41, 42, 43, 44, 45, 46, 47, 48, 49, 50, 51, 52, 53, 54, 55, 56, 57, 58, 59, 60, 61, 62] rfl (by decide +kernel)
set_option maxRecDepth 20000 in
theorem gX10_deposit_X10_remember : GoodIn wsX10_deposit (wsV RX10 395 RX10 yX10_remember wsX10_remember) := goodIn_app (goodIn_r _ [13, 14, 15, 6] rfl (by decide +kernel)) ggX10_deposit_X10_remember
set_option maxRecDepth 20000 in
theorem ggX10_deposit_X10_enter : GoodIn wsX10_deposit wsX10_enter := goodIn_r _ [23] rfl (by decide +kernel)
set_option maxRecDepth 20000 in
theorem gX10_deposit_X10_enter : GoodIn wsX10_deposit (va_wsS RX10 229 yX10_enter wsX10_enter) := goodIn_app (goodIn_r _ [21, 22, 6] rfl (by decide +kernel)) ggX10_deposit_X10_enter
set_option maxRecDepth 20000 in
theorem ggX10_close_X10_areAllClosed : GoodIn wsX10_close wsX10_areAllClosed := goodIn_r _ [6, 1, 7, 8, 9, 5, 10, 11, 12, 13, 14, 35, 36, 37, 38, 39, 40, 41, 42, 43, 44, 45, 46, 47, 48, 49, 50, 51, 52, 53, 54, 55, 56, 57, 58, 59, 60, 61, 62, 63, 64, 65, 66, 67, 68, 69, 70, 71, 72, 73] rfl (by decide +kernel)
set_option maxRecDepth 20000 in
theorem gX10_close_X10_areAllClosed : GoodIn wsX10_close (wsV RX10 405 RX10 yX10_areAllClosed wsX10_areAllClosed) := goodIn_app (goodIn_r _ [2, 3, 4, 5] rfl (by decide +kernel)) ggX10_close_X10_areAllClosed
set_option maxRecDepth 20000 in
theorem ggX10_close_X10_good : GoodIn wsX10_close wsX10_good := goodIn_r _ [18, 19, 35, 36, 37, 38, 39, 40, 41, 42, 43, 44, 45, 46, 47, 48, 49, 50, 51, 52, 53, 54, 55, 56, 57, 58, 59, 60, 61, 62, 63, 64, 65, 66, 67, 68, 69, 70, 71, 72, 73] rfl (by decide +kernel)
set_option maxRecDepth 20000 in
theorem gX10_close_X10_good : GoodIn wsX10_close (wsV RX10 333 RX10 yX10_good wsX10_good) := goodIn_app (goodIn_r _ [15, 16, 17, 5] rfl (by decide +kernel)) ggX10_close_X10_good
set_option maxRecDepth 20000 in
theorem ggX10_close_X10_remember : GoodIn wsX10_close wsX10_remember := goodIn_r _ [23, 24, 25, 26, 1, 27, 35, 36, 37, 38, 39, 40, 41, 42, 43, 44, 45, 46, 47, 48, 49, 50, 51, 52, 53, 54, 55, 56, 57, 58, 59, 60, 61, 62, 63, 64, 65, 66, 67, 68, 69, 70, 71, 72, 73] rfl (by decide +kernel)
set_option maxRecDepth 20000 in
theorem gX10_close_X10_remember : GoodIn wsX10_close (wsV RX10 395 RX10 yX10_remember wsX10_remember) := goodIn_app (goodIn_r _ [20, 21, 22, 5] rfl (by decide +kernel)) ggX10_close_X10_remember
set_option maxRecDepth 20000 in
theorem ggX10_close_X10_refund : GoodIn wsX10_close wsX10_refund := goodIn_r _ [31, 1, 32, 33, 5, 34, 35, 36, 37, 38, 39, 40, 41, 42, 43, 44, 45, 46, 47, 48, 49, 50, 51, 52, 53, 54, 55, 56, 57, 58, 59, 60, 61, 62, 63, 64, 65, 66, 67, 68, 69, 70, 71, 72, 73] rfl (by decide +kernel)
set_option maxRecDepth 20000 in
theorem gX10_close_X10_refund : GoodIn wsX10_close (wsV RX10 401 RX10 yX10_refund wsX10_refund) := goodIn_app (goodIn_r _ [28, 29, 30, 5] rfl (by decide +kernel)) ggX10_close_X10_refund
set_option maxRecDepth 20000 in
theorem ggX10_setRate_X10_between : GoodIn wsX10_setRate wsX10_between := goodIn_r _ [6] rfl (by decide +kernel)
set_option maxRecDepth 20000 in
theorem gX10_setRate_X10_between : GoodIn wsX10_setRate (va_wsS RX10 152 yX10_between wsX10_between) := goodIn_app (goodIn_r _ [3, 4, 5] rfl (by decide +kernel)) ggX10_setRate_X10_between
set_option maxRecDepth 20000 in
theorem ggX10_setRate_X10_good : GoodIn wsX10_setRate wsX10_good := goodIn_r _ [10, 11, 20, 21, 22, 23, 24, 25, 26, 27, 28, 29, 30, 31, 32, 33, 34, 35, 36, 37, 38, 39, 40, 41, 42, 43, 44, 45, 46, 47, 48, 49, 50, 51, 52, 53, 54, 55, 56, 57, 58] rfl (by decide +kernel)
set_option maxRecDepth 20000 in
theorem gX10_setRate_X10_good : GoodIn wsX10_setRate (wsV RX10 333 RX10 yX10_good wsX10_good) := goodIn_app (goodIn_r _ [7, 8, 9, 5] rfl (by decide +kernel)) ggX10_setRate_X10_good
set_option maxRecDepth 20000 in
theorem ggX10_setRate_X10_remember : GoodIn wsX10_setRate wsX10_remember := goodIn_r _ [15, 16, 17, 18, 2, 19, 20, 21, 22, 23, 24, 25, 26, 27, 28, 29, 30, 31, 32, 33, 34, 35, 36, 37, 38, 39, 40, 41, 42, 43, 44, 45, 46, 47, 48, 49, 50, 51, 52, 53, 54, 55, 56, 57, 58] rfl (by decide +kernel)
set_option maxRecDepth 20000 in
theorem gX10_setRate_X10_remember : GoodIn wsX10_setRate (wsV RX10 395 RX10 yX10_remember wsX10_remember) := goodIn_app (goodIn_r _ [12, 13, 14, 5] rfl (by decide +kernel)) ggX10_setRate_X10_remember
set_option maxRecDepth 20000 in
theorem ggX10_setGrace_X10_between : GoodIn wsX10_setGrace wsX10_between := goodIn_r _ [6] rfl (by decide +kernel)
set_option maxRecDepth 20000 in
theorem gX10_setGrace_X10_between : GoodIn wsX10_setGrace (va_wsS RX10 152 yX10_between wsX10_between) := goodIn_app (goodIn_r _ [3, 4, 5] rfl (by decide +kernel)) ggX10_setGrace_X10_between
set_option maxRecDepth 20000 in
theorem ggX10_setGrace_X10_good : GoodIn wsX10_setGrace wsX10_good := goodIn_r _ [10, 11, 20, 21, 22, 23, 24, 25, 26, 27, 28, 29, 30, 31, 32, 33, 34, 35, 36, 37, 38, 39, 40, 41, 42, 43, 44, 45, 46, 47, 48, 49, 50, 51, 52, 53, 54, 55, 56, 57, 58] rfl (by decide +kernel)
set_option maxRecDepth 20000 in
theorem gX10_setGrace_X10_good : GoodIn wsX10_setGrace (wsV RX10 333 RX10 yX10_good wsX10_good) := goodIn_app (goodIn_r _ [7, 8, 9, 5] rfl (by decide +kernel)) ggX10_setGrace_X10_good
set_option maxRecDepth 20000 in
theorem ggX10_setGrace_X10_remember : GoodIn wsX10_setGrace wsX10_remember := goodIn_r _ [15, 16, 17, 18, 2, 19, 20, 21, 22, 23, 24, 25, 26, 27, 28, 29, 30, 31, 32, 33, 34, 35, 36, 37, 38, 39, 40, 41, 42, 43, 44, 45, 46, 47, 48, 49, 50, 51, 52, 53, 54, 55, 56, 57, 58] rfl (by decide +kernel)
set_option maxRecDepth 20000 in
theorem gX10_setGrace_X10_remember : GoodIn wsX10_setGrace (wsV RX10 395 RX10 yX10_remember wsX10_remember) := goodIn_app (goodIn_r _ [12, 13, 14, 5] rfl (by decide +kernel)) ggX10_setGrace_X10_remember
set_option maxRecDepth 20000 in
theorem ggX10_pass_X10_isTrial : GoodIn wsX10_pass wsX10_isTrial := goodIn_r _ [5, 6, 7, 8, 4, 9] rfl (by decide +kernel)
set_option maxRecDepth 20000 in
theorem gX10_pass_X10_isTrial : GoodIn wsX10_pass (va_wsS RX10 363 yX10_isTrial wsX10_isTrial) := goodIn_app (goodIn_r _ [2, 3, 4] rfl (by decide +kernel)) ggX10_pass_X10_isTrial
set_option maxRecDepth 20000 in
theorem ggX10_pass_X10_good_ : GoodIn wsX10_pass wsX10_good_ := goodIn_r _ [13, 14, 112, 113, 114, 115, 116, 117, 118, 119, 120, 121, 122, 123, 124, 125, 126, 127, 128, 129, 130, 131, 132, 133, 134, 135, 136, 137, 138, 139, 140, 141, 142, 143, 144, 145, 146, 147, 148, 149, 150] rfl (by decide +kernel)
set_option maxRecDepth 20000 in
theorem gX10_pass_X10_good_ : GoodIn wsX10_pass (wsV RX10 358 RX10 yX10_good_ wsX10_good_) := goodIn_app (goodIn_r _ [10, 11, 12, 4] rfl (by decide +kernel)) ggX10_pass_X10_good_
set_option maxRecDepth 20000 in
theorem ggX10_pass_X10_remember : GoodIn wsX10_pass wsX10_remember := goodIn_r _ [18, 19, 20, 21, 1, 22, 112, 113, 114, 115, 116, 117, 118, 119, 120, 121, 122, 123, 124, 125, 126, 127, 128, 129, 130, 131, 132, 133, 134, 135, 136, 137, 138, 139, 140, 141, 142, 143, 144, 145, 146, 147, 148, 149, 150] rfl (by decide +kernel)
set_option maxRecDepth 20000 in
theorem gX10_pass_X10_remember : GoodIn wsX10_pass (wsV RX10 395 RX10 yX10_remember wsX10_remember) := goodIn_app (goodIn_r _ [15, 16, 17, 4] rfl (by decide +kernel)) ggX10_pass_X10_remember
set_option maxRecDepth 20000 in
theorem ggX10_pass_X10_passDays : GoodIn wsX10_pass wsX10_passDays := goodIn_r _ [26, 27, 28, 29, 4, 30, 22, 1, 31, 32, 33, 34, 35, 36, 37, 38, 39, 40, 41, 42, 43, 44, 45, 46, 47, 48, 49, 50, 51, 52, 53, 54, 55, 56, 57, 58, 59, 60, 61, 62, 63, 64, 65, 66, 67, 68, 69, 70, 71, 72, 73, 74, 75, 76, 77, 78, 79, 80, 81, 82, 83, 84, 85, 86, 87, 88, 89, 90, 91, 92, 93, 94, 95, 96, 97, 98, 99, 100, 101, 102, 103, 104, 105, 106, 107, 108, 109, 110, 111, 112, 113, 114, 115, 116, 117, 118, 119, 120, 121, 122, 123, 124, 125, 126, 127, 128, 129, 130, 131, 132, 133, 134, 135, 136, 137, 138, 139, 140, 141, 142, 143, 144, 145, 146, 147, 148, 149, 150] rfl (by decide +kernel)
set_option maxRecDepth 20000 in
theorem gX10_pass_X10_passDays : GoodIn wsX10_pass (wsV RX10 369 RX10 yX10_passDays wsX10_passDays) := goodIn_app (goodIn_r _ [23, 24, 25, 4] rfl (by decide +kernel)) ggX10_pass_X10_passDays
theorem dX10_append_0 : decode cX10_append 0 = .ok (.bipush 24, 2) := by decide +kernel
theorem dX10_append_2 : decode cX10_append 2 = .ok (.istore_n 2, 1) := by decide +kernel
theorem dX10_append_3 : decode cX10_append 3 = .ok (.iload_n 2, 1) := by decide +kernel
theorem dX10_append_4 : decode cX10_append 4 = .ok (.ifCond .lt 35, 3) := by decide +kernel
theorem dX10_append_7 : decode cX10_append 7 = .ok (.aload_n 0, 1) := by decide +kernel
theorem dX10_append_8 : decode cX10_append 8 = .ok (.getfield 26, 3) := by decide +kernel
theorem dX10_append_11 : decode cX10_append 11 = .ok (.aload_n 0, 1) := by decide +kernel
theorem dX10_append_12 : decode cX10_append 12 = .ok (.getfield 90, 3) := by decide +kernel
theorem dX10_append_15 : decode cX10_append 15 = .ok (.iload_n 1, 1) := by decide +kernel
theorem dX10_append_16 : decode cX10_append 16 = .ok (.iload_n 2, 1) := by decide +kernel
theorem dX10_append_17 : decode cX10_append 17 = .ok (.iushr, 1) := by decide +kernel
theorem dX10_append_18 : decode cX10_append 18 = .ok (.sipush 255, 3) := by decide +kernel
theorem dX10_append_21 : decode cX10_append 21 = .ok (.iand, 1) := by decide +kernel
theorem dX10_append_22 : decode cX10_append 22 = .ok (.iastore, 1) := by decide +kernel
theorem dX10_append_23 : decode cX10_append 23 = .ok (.aload_n 0, 1) := by decide +kernel
theorem dX10_append_24 : decode cX10_append 24 = .ok (.dup, 1) := by decide +kernel
theorem dX10_append_25 : decode cX10_append 25 = .ok (.getfield 90, 3) := by decide +kernel
theorem dX10_append_28 : decode cX10_append 28 = .ok (.iconst 1, 1) := by decide +kernel
theorem dX10_append_29 : decode cX10_append 29 = .ok (.iadd, 1) := by decide +kernel
theorem dX10_append_30 : decode cX10_append 30 = .ok (.putfield 90, 3) := by decide +kernel
theorem dX10_append_33 : decode cX10_append 33 = .ok (.iinc 2 (-8), 3) := by decide +kernel
theorem dX10_append_36 : decode cX10_append 36 = .ok (.goto (-33), 3) := by decide +kernel
theorem dX10_append_39 : decode cX10_append 39 = .ok (.return_, 1) := by decide +kernel
theorem dX10_beginTrial_0 : decode cX10_beginTrial 0 = .ok (.aload_n 0, 1) := by decide +kernel
theorem dX10_beginTrial_1 : decode cX10_beginTrial 1 = .ok (.getfield 7, 3) := by decide +kernel
theorem dX10_beginTrial_4 : decode cX10_beginTrial 4 = .ok (.aload_n 0, 1) := by decide +kernel
theorem dX10_beginTrial_5 : decode cX10_beginTrial 5 = .ok (.getfield 16, 3) := by decide +kernel
theorem dX10_beginTrial_8 : decode cX10_beginTrial 8 = .ok (.invokestatic 245, 3) := by decide +kernel
theorem dX10_beginTrial_11 : decode cX10_beginTrial 11 = .ok (.aload_n 0, 1) := by decide +kernel
theorem dX10_beginTrial_12 : decode cX10_beginTrial 12 = .ok (.aload_n 0, 1) := by decide +kernel
theorem dX10_beginTrial_13 : decode cX10_beginTrial 13 = .ok (.getfield 86, 3) := by decide +kernel
theorem dX10_beginTrial_16 : decode cX10_beginTrial 16 = .ok (.putfield 327, 3) := by decide +kernel
theorem dX10_beginTrial_19 : decode cX10_beginTrial 19 = .ok (.return_, 1) := by decide +kernel
theorem dX10_close_0 : decode cX10_close 0 = .ok (.aload_n 0, 1) := by decide +kernel
theorem dX10_close_1 : decode cX10_close 1 = .ok (.aload_n 0, 1) := by decide +kernel
theorem dX10_close_2 : decode cX10_close 2 = .ok (.invokevirtual 405, 3) := by decide +kernel
theorem dX10_close_5 : decode cX10_close 5 = .ok (.invokevirtual 333, 3) := by decide +kernel
theorem dX10_close_8 : decode cX10_close 8 = .ok (.ifCond .ne 5, 3) := by decide +kernel
theorem dX10_close_11 : decode cX10_close 11 = .ok (.iconst 0, 1) := by decide +kernel
theorem dX10_close_12 : decode cX10_close 12 = .ok (.ireturn, 1) := by decide +kernel
theorem dX10_close_13 : decode cX10_close 13 = .ok (.aload_n 0, 1) := by decide +kernel
theorem dX10_close_14 : decode cX10_close 14 = .ok (.invokevirtual 395, 3) := by decide +kernel
theorem dX10_close_17 : decode cX10_close 17 = .ok (.aload_n 0, 1) := by decide +kernel
theorem dX10_close_18 : decode cX10_close 18 = .ok (.getfield 7, 3) := by decide +kernel
theorem dX10_close_21 : decode cX10_close 21 = .ok (.bipush 6, 2) := by decide +kernel
theorem dX10_close_23 : decode cX10_close 23 = .ok (.iaload, 1) := by decide +kernel
theorem dX10_close_24 : decode cX10_close 24 = .ok (.istore_n 1, 1) := by decide +kernel
theorem dX10_close_25 : decode cX10_close 25 = .ok (.aload_n 0, 1) := by decide +kernel
theorem dX10_close_26 : decode cX10_close 26 = .ok (.iload_n 1, 1) := by decide +kernel
theorem dX10_close_27 : decode cX10_close 27 = .ok (.iconst (-1), 1) := by decide +kernel
theorem dX10_close_28 : decode cX10_close 28 = .ok (.invokevirtual 401, 3) := by decide +kernel
theorem dX10_close_31 : decode cX10_close 31 = .ok (.iload_n 1, 1) := by decide +kernel
theorem dX10_close_32 : decode cX10_close 32 = .ok (.ireturn, 1) := by decide +kernel
theorem dX10_copy_0 : decode cX10_copy 0 = .ok (.iconst 0, 1) := by decide +kernel
theorem dX10_copy_1 : decode cX10_copy 1 = .ok (.istore_n 2, 1) := by decide +kernel
theorem dX10_copy_2 : decode cX10_copy 2 = .ok (.iload_n 2, 1) := by decide +kernel
theorem dX10_copy_3 : decode cX10_copy 3 = .ok (.sipush 326, 3) := by decide +kernel
theorem dX10_copy_6 : decode cX10_copy 6 = .ok (.if_icmp .ge 15, 3) := by decide +kernel
theorem dX10_copy_9 : decode cX10_copy 9 = .ok (.aload_n 1, 1) := by decide +kernel
theorem dX10_copy_10 : decode cX10_copy 10 = .ok (.iload_n 2, 1) := by decide +kernel
theorem dX10_copy_11 : decode cX10_copy 11 = .ok (.aload_n 0, 1) := by decide +kernel
theorem dX10_copy_12 : decode cX10_copy 12 = .ok (.iload_n 2, 1) := by decide +kernel
theorem dX10_copy_13 : decode cX10_copy 13 = .ok (.iaload, 1) := by decide +kernel
theorem dX10_copy_14 : decode cX10_copy 14 = .ok (.iastore, 1) := by decide +kernel
theorem dX10_copy_15 : decode cX10_copy 15 = .ok (.iinc 2 1, 3) := by decide +kernel
theorem dX10_copy_18 : decode cX10_copy 18 = .ok (.goto (-16), 3) := by decide +kernel
theorem dX10_copy_21 : decode cX10_copy 21 = .ok (.return_, 1) := by decide +kernel
theorem dX10_credit_0 : decode cX10_credit 0 = .ok (.ldc2_w 268, 3) := by decide +kernel
theorem dX10_credit_3 : decode cX10_credit 3 = .ok (.aload_n 0, 1) := by decide +kernel
theorem dX10_credit_4 : decode cX10_credit 4 = .ok (.getfield 7, 3) := by decide +kernel
theorem dX10_credit_7 : decode cX10_credit 7 = .ok (.iconst 1, 1) := by decide +kernel
theorem dX10_credit_8 : decode cX10_credit 8 = .ok (.iaload, 1) := by decide +kernel
theorem dX10_credit_9 : decode cX10_credit 9 = .ok (.i2l, 1) := by decide +kernel
theorem dX10_credit_10 : decode cX10_credit 10 = .ok (.lmul, 1) := by decide +kernel
theorem dX10_credit_11 : decode cX10_credit 11 = .ok (.lstore_n 1, 1) := by decide +kernel
theorem dX10_credit_12 : decode cX10_credit 12 = .ok (.aload_n 0, 1) := by decide +kernel
theorem dX10_credit_13 : decode cX10_credit 13 = .ok (.getfield 86, 3) := by decide +kernel
theorem dX10_credit_16 : decode cX10_credit 16 = .ok (.lload_n 1, 1) := by decide +kernel
theorem dX10_credit_17 : decode cX10_credit 17 = .ok (.ldiv, 1) := by decide +kernel
theorem dX10_credit_18 : decode cX10_credit 18 = .ok (.l2i, 1) := by decide +kernel
theorem dX10_credit_19 : decode cX10_credit 19 = .ok (.istore_n 3, 1) := by decide +kernel
theorem dX10_credit_20 : decode cX10_credit 20 = .ok (.aload_n 0, 1) := by decide +kernel
theorem dX10_credit_21 : decode cX10_credit 21 = .ok (.aload_n 0, 1) := by decide +kernel
theorem dX10_credit_22 : decode cX10_credit 22 = .ok (.getfield 86, 3) := by decide +kernel
theorem dX10_credit_25 : decode cX10_credit 25 = .ok (.lload_n 1, 1) := by decide +kernel
theorem dX10_credit_26 : decode cX10_credit 26 = .ok (.lrem, 1) := by decide +kernel
theorem dX10_credit_27 : decode cX10_credit 27 = .ok (.putfield 86, 3) := by decide +kernel
theorem dX10_credit_30 : decode cX10_credit 30 = .ok (.aload_n 0, 1) := by decide +kernel
theorem dX10_credit_31 : decode cX10_credit 31 = .ok (.getfield 7, 3) := by decide +kernel
theorem dX10_credit_34 : decode cX10_credit 34 = .ok (.bipush 7, 2) := by decide +kernel
theorem dX10_credit_36 : decode cX10_credit 36 = .ok (.dup2, 1) := by decide +kernel
theorem dX10_credit_37 : decode cX10_credit 37 = .ok (.iaload, 1) := by decide +kernel
theorem dX10_credit_38 : decode cX10_credit 38 = .ok (.iload_n 3, 1) := by decide +kernel
theorem dX10_credit_39 : decode cX10_credit 39 = .ok (.iadd, 1) := by decide +kernel
theorem dX10_credit_40 : decode cX10_credit 40 = .ok (.iastore, 1) := by decide +kernel
theorem dX10_credit_41 : decode cX10_credit 41 = .ok (.aload_n 0, 1) := by decide +kernel
theorem dX10_credit_42 : decode cX10_credit 42 = .ok (.getfield 7, 3) := by decide +kernel
theorem dX10_credit_45 : decode cX10_credit 45 = .ok (.bipush 8, 2) := by decide +kernel
theorem dX10_credit_47 : decode cX10_credit 47 = .ok (.dup2, 1) := by decide +kernel
theorem dX10_credit_48 : decode cX10_credit 48 = .ok (.iaload, 1) := by decide +kernel
theorem dX10_credit_49 : decode cX10_credit 49 = .ok (.iload_n 3, 1) := by decide +kernel
theorem dX10_credit_50 : decode cX10_credit 50 = .ok (.iadd, 1) := by decide +kernel
theorem dX10_credit_51 : decode cX10_credit 51 = .ok (.iastore, 1) := by decide +kernel
theorem dX10_credit_52 : decode cX10_credit 52 = .ok (.aload_n 0, 1) := by decide +kernel
theorem dX10_credit_53 : decode cX10_credit 53 = .ok (.getfield 7, 3) := by decide +kernel
theorem dX10_credit_56 : decode cX10_credit 56 = .ok (.iconst 3, 1) := by decide +kernel
theorem dX10_credit_57 : decode cX10_credit 57 = .ok (.iload_n 3, 1) := by decide +kernel
theorem dX10_credit_58 : decode cX10_credit 58 = .ok (.iconst (-1), 1) := by decide +kernel
theorem dX10_credit_59 : decode cX10_credit 59 = .ok (.invokestatic 229, 3) := by decide +kernel
theorem dX10_credit_62 : decode cX10_credit 62 = .ok (.return_, 1) := by decide +kernel
theorem dX10_creditedAfter_0 : decode cX10_creditedAfter 0 = .ok (.aload_n 0, 1) := by decide +kernel
theorem dX10_creditedAfter_1 : decode cX10_creditedAfter 1 = .ok (.iload_n 1, 1) := by decide +kernel
theorem dX10_creditedAfter_2 : decode cX10_creditedAfter 2 = .ok (.invokestatic 363, 3) := by decide +kernel
theorem dX10_creditedAfter_5 : decode cX10_creditedAfter 5 = .ok (.invokevirtual 333, 3) := by decide +kernel
theorem dX10_creditedAfter_8 : decode cX10_creditedAfter 8 = .ok (.ifCond .ne 5, 3) := by decide +kernel
theorem dX10_creditedAfter_11 : decode cX10_creditedAfter 11 = .ok (.iconst 0, 1) := by decide +kernel
theorem dX10_creditedAfter_12 : decode cX10_creditedAfter 12 = .ok (.ireturn, 1) := by decide +kernel
theorem dX10_creditedAfter_13 : decode cX10_creditedAfter 13 = .ok (.aload_n 0, 1) := by decide +kernel
theorem dX10_creditedAfter_14 : decode cX10_creditedAfter 14 = .ok (.invokevirtual 366, 3) := by decide +kernel
theorem dX10_creditedAfter_17 : decode cX10_creditedAfter 17 = .ok (.aload_n 0, 1) := by decide +kernel
theorem dX10_creditedAfter_18 : decode cX10_creditedAfter 18 = .ok (.iload_n 1, 1) := by decide +kernel
theorem dX10_creditedAfter_19 : decode cX10_creditedAfter 19 = .ok (.invokevirtual 369, 3) := by decide +kernel
theorem dX10_creditedAfter_22 : decode cX10_creditedAfter 22 = .ok (.aload_n 0, 1) := by decide +kernel
theorem dX10_creditedAfter_23 : decode cX10_creditedAfter 23 = .ok (.getfield 7, 3) := by decide +kernel
theorem dX10_creditedAfter_26 : decode cX10_creditedAfter 26 = .ok (.bipush 8, 2) := by decide +kernel
theorem dX10_creditedAfter_28 : decode cX10_creditedAfter 28 = .ok (.iaload, 1) := by decide +kernel
theorem dX10_creditedAfter_29 : decode cX10_creditedAfter 29 = .ok (.istore_n 2, 1) := by decide +kernel
theorem dX10_creditedAfter_30 : decode cX10_creditedAfter 30 = .ok (.aload_n 0, 1) := by decide +kernel
theorem dX10_creditedAfter_31 : decode cX10_creditedAfter 31 = .ok (.invokevirtual 372, 3) := by decide +kernel
theorem dX10_creditedAfter_34 : decode cX10_creditedAfter 34 = .ok (.iload_n 2, 1) := by decide +kernel
theorem dX10_creditedAfter_35 : decode cX10_creditedAfter 35 = .ok (.ireturn, 1) := by decide +kernel
theorem dX10_deposit_0 : decode cX10_deposit 0 = .ok (.aload_n 0, 1) := by decide +kernel
theorem dX10_deposit_1 : decode cX10_deposit 1 = .ok (.iload_n 1, 1) := by decide +kernel
theorem dX10_deposit_2 : decode cX10_deposit 2 = .ok (.i2l, 1) := by decide +kernel
theorem dX10_deposit_3 : decode cX10_deposit 3 = .ok (.lconst 1, 1) := by decide +kernel
theorem dX10_deposit_4 : decode cX10_deposit 4 = .ok (.ldc2_w 388, 3) := by decide +kernel
theorem dX10_deposit_7 : decode cX10_deposit 7 = .ok (.invokestatic 152, 3) := by decide +kernel
theorem dX10_deposit_10 : decode cX10_deposit 10 = .ok (.aload_n 0, 1) := by decide +kernel
theorem dX10_deposit_11 : decode cX10_deposit 11 = .ok (.getfield 7, 3) := by decide +kernel
theorem dX10_deposit_14 : decode cX10_deposit 14 = .ok (.iconst 5, 1) := by decide +kernel
theorem dX10_deposit_15 : decode cX10_deposit 15 = .ok (.iaload, 1) := by decide +kernel
theorem dX10_deposit_16 : decode cX10_deposit 16 = .ok (.i2l, 1) := by decide +kernel
theorem dX10_deposit_17 : decode cX10_deposit 17 = .ok (.iload_n 1, 1) := by decide +kernel
theorem dX10_deposit_18 : decode cX10_deposit 18 = .ok (.i2l, 1) := by decide +kernel
theorem dX10_deposit_19 : decode cX10_deposit 19 = .ok (.ladd, 1) := by decide +kernel
theorem dX10_deposit_20 : decode cX10_deposit 20 = .ok (.ldc2_w 393, 3) := by decide +kernel
theorem dX10_deposit_23 : decode cX10_deposit 23 = .ok (.lcmp, 1) := by decide +kernel
theorem dX10_deposit_24 : decode cX10_deposit 24 = .ok (.ifCond .gt 7, 3) := by decide +kernel
theorem dX10_deposit_27 : decode cX10_deposit 27 = .ok (.iconst 1, 1) := by decide +kernel
theorem dX10_deposit_28 : decode cX10_deposit 28 = .ok (.goto 4, 3) := by decide +kernel
theorem dX10_deposit_31 : decode cX10_deposit 31 = .ok (.iconst 0, 1) := by decide +kernel
theorem dX10_deposit_32 : decode cX10_deposit 32 = .ok (.invokevirtual 358, 3) := by decide +kernel
theorem dX10_deposit_35 : decode cX10_deposit 35 = .ok (.ifCond .ne 5, 3) := by decide +kernel
theorem dX10_deposit_38 : decode cX10_deposit 38 = .ok (.iconst 0, 1) := by decide +kernel
theorem dX10_deposit_39 : decode cX10_deposit 39 = .ok (.ireturn, 1) := by decide +kernel
theorem dX10_deposit_40 : decode cX10_deposit 40 = .ok (.aload_n 0, 1) := by decide +kernel
theorem dX10_deposit_41 : decode cX10_deposit 41 = .ok (.invokevirtual 395, 3) := by decide +kernel
theorem dX10_deposit_44 : decode cX10_deposit 44 = .ok (.aload_n 0, 1) := by decide +kernel
theorem dX10_deposit_45 : decode cX10_deposit 45 = .ok (.getfield 7, 3) := by decide +kernel
theorem dX10_deposit_48 : decode cX10_deposit 48 = .ok (.iconst 5, 1) := by decide +kernel
theorem dX10_deposit_49 : decode cX10_deposit 49 = .ok (.dup2, 1) := by decide +kernel
theorem dX10_deposit_50 : decode cX10_deposit 50 = .ok (.iaload, 1) := by decide +kernel
theorem dX10_deposit_51 : decode cX10_deposit 51 = .ok (.iload_n 1, 1) := by decide +kernel
theorem dX10_deposit_52 : decode cX10_deposit 52 = .ok (.iadd, 1) := by decide +kernel
theorem dX10_deposit_53 : decode cX10_deposit 53 = .ok (.iastore, 1) := by decide +kernel
theorem dX10_deposit_54 : decode cX10_deposit 54 = .ok (.aload_n 0, 1) := by decide +kernel
theorem dX10_deposit_55 : decode cX10_deposit 55 = .ok (.getfield 7, 3) := by decide +kernel
theorem dX10_deposit_58 : decode cX10_deposit 58 = .ok (.bipush 6, 2) := by decide +kernel
theorem dX10_deposit_60 : decode cX10_deposit 60 = .ok (.dup2, 1) := by decide +kernel
theorem dX10_deposit_61 : decode cX10_deposit 61 = .ok (.iaload, 1) := by decide +kernel
theorem dX10_deposit_62 : decode cX10_deposit 62 = .ok (.iload_n 1, 1) := by decide +kernel
theorem dX10_deposit_63 : decode cX10_deposit 63 = .ok (.iadd, 1) := by decide +kernel
theorem dX10_deposit_64 : decode cX10_deposit 64 = .ok (.iastore, 1) := by decide +kernel
theorem dX10_deposit_65 : decode cX10_deposit 65 = .ok (.aload_n 0, 1) := by decide +kernel
theorem dX10_deposit_66 : decode cX10_deposit 66 = .ok (.getfield 7, 3) := by decide +kernel
theorem dX10_deposit_69 : decode cX10_deposit 69 = .ok (.iconst 0, 1) := by decide +kernel
theorem dX10_deposit_70 : decode cX10_deposit 70 = .ok (.iload_n 1, 1) := by decide +kernel
theorem dX10_deposit_71 : decode cX10_deposit 71 = .ok (.iconst (-1), 1) := by decide +kernel
theorem dX10_deposit_72 : decode cX10_deposit 72 = .ok (.invokestatic 229, 3) := by decide +kernel
theorem dX10_deposit_75 : decode cX10_deposit 75 = .ok (.aload_n 0, 1) := by decide +kernel
theorem dX10_deposit_76 : decode cX10_deposit 76 = .ok (.getfield 7, 3) := by decide +kernel
theorem dX10_deposit_79 : decode cX10_deposit 79 = .ok (.bipush 6, 2) := by decide +kernel
theorem dX10_deposit_81 : decode cX10_deposit 81 = .ok (.iaload, 1) := by decide +kernel
theorem dX10_deposit_82 : decode cX10_deposit 82 = .ok (.ireturn, 1) := by decide +kernel
theorem dX10_endTrial_0 : decode cX10_endTrial 0 = .ok (.aload_n 0, 1) := by decide +kernel
theorem dX10_endTrial_1 : decode cX10_endTrial 1 = .ok (.getfield 16, 3) := by decide +kernel
theorem dX10_endTrial_4 : decode cX10_endTrial 4 = .ok (.aload_n 0, 1) := by decide +kernel
theorem dX10_endTrial_5 : decode cX10_endTrial 5 = .ok (.getfield 7, 3) := by decide +kernel
theorem dX10_endTrial_8 : decode cX10_endTrial 8 = .ok (.invokestatic 245, 3) := by decide +kernel
theorem dX10_endTrial_11 : decode cX10_endTrial 11 = .ok (.aload_n 0, 1) := by decide +kernel
theorem dX10_endTrial_12 : decode cX10_endTrial 12 = .ok (.aload_n 0, 1) := by decide +kernel
theorem dX10_endTrial_13 : decode cX10_endTrial 13 = .ok (.getfield 327, 3) := by decide +kernel
theorem dX10_endTrial_16 : decode cX10_endTrial 16 = .ok (.putfield 86, 3) := by decide +kernel
theorem dX10_endTrial_19 : decode cX10_endTrial 19 = .ok (.return_, 1) := by decide +kernel
theorem dX10_enter_0 : decode cX10_enter 0 = .ok (.iload_n 2, 1) := by decide +kernel
theorem dX10_enter_1 : decode cX10_enter 1 = .ok (.ifCond .ne 4, 3) := by decide +kernel
theorem dX10_enter_4 : decode cX10_enter 4 = .ok (.return_, 1) := by decide +kernel
theorem dX10_enter_5 : decode cX10_enter 5 = .ok (.aload_n 0, 1) := by decide +kernel
theorem dX10_enter_6 : decode cX10_enter 6 = .ok (.bipush 15, 2) := by decide +kernel
theorem dX10_enter_8 : decode cX10_enter 8 = .ok (.iaload, 1) := by decide +kernel
theorem dX10_enter_9 : decode cX10_enter 9 = .ok (.bipush 60, 2) := by decide +kernel
theorem dX10_enter_11 : decode cX10_enter 11 = .ok (.if_icmp .ne 39, 3) := by decide +kernel
theorem dX10_enter_14 : decode cX10_enter 14 = .ok (.bipush 90, 2) := by decide +kernel
theorem dX10_enter_16 : decode cX10_enter 16 = .ok (.istore 4, 2) := by decide +kernel
theorem dX10_enter_18 : decode cX10_enter 18 = .ok (.iload 4, 2) := by decide +kernel
theorem dX10_enter_20 : decode cX10_enter 20 = .ok (.sipush 326, 3) := by decide +kernel
theorem dX10_enter_23 : decode cX10_enter 23 = .ok (.if_icmp .ge 19, 3) := by decide +kernel
theorem dX10_enter_26 : decode cX10_enter 26 = .ok (.aload_n 0, 1) := by decide +kernel
theorem dX10_enter_27 : decode cX10_enter 27 = .ok (.iload 4, 2) := by decide +kernel
theorem dX10_enter_29 : decode cX10_enter 29 = .ok (.iconst 4, 1) := by decide +kernel
theorem dX10_enter_30 : decode cX10_enter 30 = .ok (.isub, 1) := by decide +kernel
theorem dX10_enter_31 : decode cX10_enter 31 = .ok (.aload_n 0, 1) := by decide +kernel
theorem dX10_enter_32 : decode cX10_enter 32 = .ok (.iload 4, 2) := by decide +kernel
theorem dX10_enter_34 : decode cX10_enter 34 = .ok (.iaload, 1) := by decide +kernel
theorem dX10_enter_35 : decode cX10_enter 35 = .ok (.iastore, 1) := by decide +kernel
theorem dX10_enter_36 : decode cX10_enter 36 = .ok (.iinc 4 1, 3) := by decide +kernel
theorem dX10_enter_39 : decode cX10_enter 39 = .ok (.goto (-21), 3) := by decide +kernel
theorem dX10_enter_42 : decode cX10_enter 42 = .ok (.aload_n 0, 1) := by decide +kernel
theorem dX10_enter_43 : decode cX10_enter 43 = .ok (.bipush 15, 2) := by decide +kernel
theorem dX10_enter_45 : decode cX10_enter 45 = .ok (.dup2, 1) := by decide +kernel
theorem dX10_enter_46 : decode cX10_enter 46 = .ok (.iaload, 1) := by decide +kernel
theorem dX10_enter_47 : decode cX10_enter 47 = .ok (.iconst 1, 1) := by decide +kernel
theorem dX10_enter_48 : decode cX10_enter 48 = .ok (.isub, 1) := by decide +kernel
theorem dX10_enter_49 : decode cX10_enter 49 = .ok (.iastore, 1) := by decide +kernel
theorem dX10_enter_50 : decode cX10_enter 50 = .ok (.bipush 86, 2) := by decide +kernel
theorem dX10_enter_52 : decode cX10_enter 52 = .ok (.iconst 4, 1) := by decide +kernel
theorem dX10_enter_53 : decode cX10_enter 53 = .ok (.aload_n 0, 1) := by decide +kernel
theorem dX10_enter_54 : decode cX10_enter 54 = .ok (.bipush 15, 2) := by decide +kernel
theorem dX10_enter_56 : decode cX10_enter 56 = .ok (.iaload, 1) := by decide +kernel
theorem dX10_enter_57 : decode cX10_enter 57 = .ok (.imul, 1) := by decide +kernel
theorem dX10_enter_58 : decode cX10_enter 58 = .ok (.iadd, 1) := by decide +kernel
theorem dX10_enter_59 : decode cX10_enter 59 = .ok (.istore 4, 2) := by decide +kernel
theorem dX10_enter_61 : decode cX10_enter 61 = .ok (.aload_n 0, 1) := by decide +kernel
theorem dX10_enter_62 : decode cX10_enter 62 = .ok (.iload 4, 2) := by decide +kernel
theorem dX10_enter_64 : decode cX10_enter 64 = .ok (.iload_n 1, 1) := by decide +kernel
theorem dX10_enter_65 : decode cX10_enter 65 = .ok (.iastore, 1) := by decide +kernel
theorem dX10_enter_66 : decode cX10_enter 66 = .ok (.aload_n 0, 1) := by decide +kernel
theorem dX10_enter_67 : decode cX10_enter 67 = .ok (.iload 4, 2) := by decide +kernel
theorem dX10_enter_69 : decode cX10_enter 69 = .ok (.iconst 1, 1) := by decide +kernel
theorem dX10_enter_70 : decode cX10_enter 70 = .ok (.iadd, 1) := by decide +kernel
theorem dX10_enter_71 : decode cX10_enter 71 = .ok (.aload_n 0, 1) := by decide +kernel
theorem dX10_enter_72 : decode cX10_enter 72 = .ok (.iconst 4, 1) := by decide +kernel
theorem dX10_enter_73 : decode cX10_enter 73 = .ok (.iaload, 1) := by decide +kernel
theorem dX10_enter_74 : decode cX10_enter 74 = .ok (.iastore, 1) := by decide +kernel
theorem dX10_enter_75 : decode cX10_enter 75 = .ok (.aload_n 0, 1) := by decide +kernel
theorem dX10_enter_76 : decode cX10_enter 76 = .ok (.iload 4, 2) := by decide +kernel
theorem dX10_enter_78 : decode cX10_enter 78 = .ok (.iconst 2, 1) := by decide +kernel
theorem dX10_enter_79 : decode cX10_enter 79 = .ok (.iadd, 1) := by decide +kernel
theorem dX10_enter_80 : decode cX10_enter 80 = .ok (.iload_n 2, 1) := by decide +kernel
theorem dX10_enter_81 : decode cX10_enter 81 = .ok (.iastore, 1) := by decide +kernel
theorem dX10_enter_82 : decode cX10_enter 82 = .ok (.aload_n 0, 1) := by decide +kernel
theorem dX10_enter_83 : decode cX10_enter 83 = .ok (.iload 4, 2) := by decide +kernel
theorem dX10_enter_85 : decode cX10_enter 85 = .ok (.iconst 3, 1) := by decide +kernel
theorem dX10_enter_86 : decode cX10_enter 86 = .ok (.iadd, 1) := by decide +kernel
theorem dX10_enter_87 : decode cX10_enter 87 = .ok (.iload_n 3, 1) := by decide +kernel
theorem dX10_enter_88 : decode cX10_enter 88 = .ok (.iastore, 1) := by decide +kernel
theorem dX10_enter_89 : decode cX10_enter 89 = .ok (.aload_n 0, 1) := by decide +kernel
theorem dX10_enter_90 : decode cX10_enter 90 = .ok (.bipush 15, 2) := by decide +kernel
theorem dX10_enter_92 : decode cX10_enter 92 = .ok (.dup2, 1) := by decide +kernel
theorem dX10_enter_93 : decode cX10_enter 93 = .ok (.iaload, 1) := by decide +kernel
theorem dX10_enter_94 : decode cX10_enter 94 = .ok (.iconst 1, 1) := by decide +kernel
theorem dX10_enter_95 : decode cX10_enter 95 = .ok (.iadd, 1) := by decide +kernel
theorem dX10_enter_96 : decode cX10_enter 96 = .ok (.iastore, 1) := by decide +kernel
theorem dX10_enter_97 : decode cX10_enter 97 = .ok (.return_, 1) := by decide +kernel
theorem dX10_feed_0 : decode cX10_feed 0 = .ok (.aload_n 0, 1) := by decide +kernel
theorem dX10_feed_1 : decode cX10_feed 1 = .ok (.iconst 0, 1) := by decide +kernel
theorem dX10_feed_2 : decode cX10_feed 2 = .ok (.putfield 80, 3) := by decide +kernel
theorem dX10_feed_5 : decode cX10_feed 5 = .ok (.aload_n 0, 1) := by decide +kernel
theorem dX10_feed_6 : decode cX10_feed 6 = .ok (.getfield 90, 3) := by decide +kernel
theorem dX10_feed_9 : decode cX10_feed 9 = .ok (.bipush 20, 2) := by decide +kernel
theorem dX10_feed_11 : decode cX10_feed 11 = .ok (.iadd, 1) := by decide +kernel
theorem dX10_feed_12 : decode cX10_feed 12 = .ok (.sipush 700, 3) := by decide +kernel
theorem dX10_feed_15 : decode cX10_feed 15 = .ok (.if_icmp .le 6, 3) := by decide +kernel
theorem dX10_feed_18 : decode cX10_feed 18 = .ok (.bipush (-2), 2) := by decide +kernel
theorem dX10_feed_20 : decode cX10_feed 20 = .ok (.ireturn, 1) := by decide +kernel
theorem dX10_feed_21 : decode cX10_feed 21 = .ok (.aload_n 0, 1) := by decide +kernel
theorem dX10_feed_22 : decode cX10_feed 22 = .ok (.iload_n 1, 1) := by decide +kernel
theorem dX10_feed_23 : decode cX10_feed 23 = .ok (.invokevirtual 93, 3) := by decide +kernel
theorem dX10_feed_26 : decode cX10_feed 26 = .ok (.aload_n 0, 1) := by decide +kernel
theorem dX10_feed_27 : decode cX10_feed 27 = .ok (.iload_n 2, 1) := by decide +kernel
theorem dX10_feed_28 : decode cX10_feed 28 = .ok (.invokevirtual 93, 3) := by decide +kernel
theorem dX10_feed_31 : decode cX10_feed 31 = .ok (.aload_n 0, 1) := by decide +kernel
theorem dX10_feed_32 : decode cX10_feed 32 = .ok (.iload_n 3, 1) := by decide +kernel
theorem dX10_feed_33 : decode cX10_feed 33 = .ok (.invokevirtual 93, 3) := by decide +kernel
theorem dX10_feed_36 : decode cX10_feed 36 = .ok (.aload_n 0, 1) := by decide +kernel
theorem dX10_feed_37 : decode cX10_feed 37 = .ok (.iload 4, 2) := by decide +kernel
theorem dX10_feed_39 : decode cX10_feed 39 = .ok (.invokevirtual 93, 3) := by decide +kernel
theorem dX10_feed_42 : decode cX10_feed 42 = .ok (.aload_n 0, 1) := by decide +kernel
theorem dX10_feed_43 : decode cX10_feed 43 = .ok (.iload 5, 2) := by decide +kernel
theorem dX10_feed_45 : decode cX10_feed 45 = .ok (.invokevirtual 93, 3) := by decide +kernel
theorem dX10_feed_48 : decode cX10_feed 48 = .ok (.aload_n 0, 1) := by decide +kernel
theorem dX10_feed_49 : decode cX10_feed 49 = .ok (.getfield 90, 3) := by decide +kernel
theorem dX10_feed_52 : decode cX10_feed 52 = .ok (.ireturn, 1) := by decide +kernel
theorem dX10_pass_0 : decode cX10_pass 0 = .ok (.aload_n 0, 1) := by decide +kernel
theorem dX10_pass_1 : decode cX10_pass 1 = .ok (.iload_n 1, 1) := by decide +kernel
theorem dX10_pass_2 : decode cX10_pass 2 = .ok (.invokestatic 363, 3) := by decide +kernel
theorem dX10_pass_5 : decode cX10_pass 5 = .ok (.aload_n 0, 1) := by decide +kernel
theorem dX10_pass_6 : decode cX10_pass 6 = .ok (.getfield 7, 3) := by decide +kernel
theorem dX10_pass_9 : decode cX10_pass 9 = .ok (.iconst 4, 1) := by decide +kernel
theorem dX10_pass_10 : decode cX10_pass 10 = .ok (.iaload, 1) := by decide +kernel
theorem dX10_pass_11 : decode cX10_pass 11 = .ok (.iload_n 1, 1) := by decide +kernel
theorem dX10_pass_12 : decode cX10_pass 12 = .ok (.iadd, 1) := by decide +kernel
theorem dX10_pass_13 : decode cX10_pass 13 = .ok (.sipush 9999, 3) := by decide +kernel
theorem dX10_pass_16 : decode cX10_pass 16 = .ok (.if_icmp .gt 7, 3) := by decide +kernel
theorem dX10_pass_19 : decode cX10_pass 19 = .ok (.iconst 1, 1) := by decide +kernel
theorem dX10_pass_20 : decode cX10_pass 20 = .ok (.goto 4, 3) := by decide +kernel
theorem dX10_pass_23 : decode cX10_pass 23 = .ok (.iconst 0, 1) := by decide +kernel
theorem dX10_pass_24 : decode cX10_pass 24 = .ok (.invokevirtual 358, 3) := by decide +kernel
theorem dX10_pass_27 : decode cX10_pass 27 = .ok (.ifCond .ne 5, 3) := by decide +kernel
theorem dX10_pass_30 : decode cX10_pass 30 = .ok (.iconst 0, 1) := by decide +kernel
theorem dX10_pass_31 : decode cX10_pass 31 = .ok (.ireturn, 1) := by decide +kernel
theorem dX10_pass_32 : decode cX10_pass 32 = .ok (.aload_n 0, 1) := by decide +kernel
theorem dX10_pass_33 : decode cX10_pass 33 = .ok (.invokevirtual 395, 3) := by decide +kernel
theorem dX10_pass_36 : decode cX10_pass 36 = .ok (.aload_n 0, 1) := by decide +kernel
theorem dX10_pass_37 : decode cX10_pass 37 = .ok (.getfield 7, 3) := by decide +kernel
theorem dX10_pass_40 : decode cX10_pass 40 = .ok (.bipush 10, 2) := by decide +kernel
theorem dX10_pass_42 : decode cX10_pass 42 = .ok (.iaload, 1) := by decide +kernel
theorem dX10_pass_43 : decode cX10_pass 43 = .ok (.istore_n 2, 1) := by decide +kernel
theorem dX10_pass_44 : decode cX10_pass 44 = .ok (.aload_n 0, 1) := by decide +kernel
theorem dX10_pass_45 : decode cX10_pass 45 = .ok (.iload_n 1, 1) := by decide +kernel
theorem dX10_pass_46 : decode cX10_pass 46 = .ok (.invokevirtual 369, 3) := by decide +kernel
theorem dX10_pass_49 : decode cX10_pass 49 = .ok (.aload_n 0, 1) := by decide +kernel
theorem dX10_pass_50 : decode cX10_pass 50 = .ok (.getfield 7, 3) := by decide +kernel
theorem dX10_pass_53 : decode cX10_pass 53 = .ok (.bipush 10, 2) := by decide +kernel
theorem dX10_pass_55 : decode cX10_pass 55 = .ok (.iaload, 1) := by decide +kernel
theorem dX10_pass_56 : decode cX10_pass 56 = .ok (.iload_n 2, 1) := by decide +kernel
theorem dX10_pass_57 : decode cX10_pass 57 = .ok (.isub, 1) := by decide +kernel
theorem dX10_pass_58 : decode cX10_pass 58 = .ok (.ireturn, 1) := by decide +kernel
theorem dX10_passDay_0 : decode cX10_passDay 0 = .ok (.aload_n 0, 1) := by decide +kernel
theorem dX10_passDay_1 : decode cX10_passDay 1 = .ok (.dup, 1) := by decide +kernel
theorem dX10_passDay_2 : decode cX10_passDay 2 = .ok (.getfield 86, 3) := by decide +kernel
theorem dX10_passDay_5 : decode cX10_passDay 5 = .ok (.aload_n 0, 1) := by decide +kernel
theorem dX10_passDay_6 : decode cX10_passDay 6 = .ok (.getfield 7, 3) := by decide +kernel
theorem dX10_passDay_9 : decode cX10_passDay 9 = .ok (.bipush 6, 2) := by decide +kernel
theorem dX10_passDay_11 : decode cX10_passDay 11 = .ok (.iaload, 1) := by decide +kernel
theorem dX10_passDay_12 : decode cX10_passDay 12 = .ok (.aload_n 0, 1) := by decide +kernel
theorem dX10_passDay_13 : decode cX10_passDay 13 = .ok (.getfield 7, 3) := by decide +kernel
theorem dX10_passDay_16 : decode cX10_passDay 16 = .ok (.bipush 7, 2) := by decide +kernel
theorem dX10_passDay_18 : decode cX10_passDay 18 = .ok (.iaload, 1) := by decide +kernel
theorem dX10_passDay_19 : decode cX10_passDay 19 = .ok (.iadd, 1) := by decide +kernel
theorem dX10_passDay_20 : decode cX10_passDay 20 = .ok (.i2l, 1) := by decide +kernel
theorem dX10_passDay_21 : decode cX10_passDay 21 = .ok (.aload_n 0, 1) := by decide +kernel
theorem dX10_passDay_22 : decode cX10_passDay 22 = .ok (.getfield 7, 3) := by decide +kernel
theorem dX10_passDay_25 : decode cX10_passDay 25 = .ok (.iconst 0, 1) := by decide +kernel
theorem dX10_passDay_26 : decode cX10_passDay 26 = .ok (.iaload, 1) := by decide +kernel
theorem dX10_passDay_27 : decode cX10_passDay 27 = .ok (.i2l, 1) := by decide +kernel
theorem dX10_passDay_28 : decode cX10_passDay 28 = .ok (.lmul, 1) := by decide +kernel
theorem dX10_passDay_29 : decode cX10_passDay 29 = .ok (.ladd, 1) := by decide +kernel
theorem dX10_passDay_30 : decode cX10_passDay 30 = .ok (.putfield 86, 3) := by decide +kernel
theorem dX10_passDay_33 : decode cX10_passDay 33 = .ok (.aload_n 0, 1) := by decide +kernel
theorem dX10_passDay_34 : decode cX10_passDay 34 = .ok (.getfield 7, 3) := by decide +kernel
theorem dX10_passDay_37 : decode cX10_passDay 37 = .ok (.iconst 4, 1) := by decide +kernel
theorem dX10_passDay_38 : decode cX10_passDay 38 = .ok (.dup2, 1) := by decide +kernel
theorem dX10_passDay_39 : decode cX10_passDay 39 = .ok (.iaload, 1) := by decide +kernel
theorem dX10_passDay_40 : decode cX10_passDay 40 = .ok (.iconst 1, 1) := by decide +kernel
theorem dX10_passDay_41 : decode cX10_passDay 41 = .ok (.iadd, 1) := by decide +kernel
theorem dX10_passDay_42 : decode cX10_passDay 42 = .ok (.iastore, 1) := by decide +kernel
theorem dX10_passDay_43 : decode cX10_passDay 43 = .ok (.aload_n 0, 1) := by decide +kernel
theorem dX10_passDay_44 : decode cX10_passDay 44 = .ok (.getfield 7, 3) := by decide +kernel
theorem dX10_passDay_47 : decode cX10_passDay 47 = .ok (.iconst 4, 1) := by decide +kernel
theorem dX10_passDay_48 : decode cX10_passDay 48 = .ok (.iaload, 1) := by decide +kernel
theorem dX10_passDay_49 : decode cX10_passDay 49 = .ok (.bipush 30, 2) := by decide +kernel
theorem dX10_passDay_51 : decode cX10_passDay 51 = .ok (.irem, 1) := by decide +kernel
theorem dX10_passDay_52 : decode cX10_passDay 52 = .ok (.ifCond .ne 7, 3) := by decide +kernel
theorem dX10_passDay_55 : decode cX10_passDay 55 = .ok (.aload_n 0, 1) := by decide +kernel
theorem dX10_passDay_56 : decode cX10_passDay 56 = .ok (.invokevirtual 315, 3) := by decide +kernel
theorem dX10_passDay_59 : decode cX10_passDay 59 = .ok (.aload_n 0, 1) := by decide +kernel
theorem dX10_passDay_60 : decode cX10_passDay 60 = .ok (.invokevirtual 318, 3) := by decide +kernel
theorem dX10_passDay_63 : decode cX10_passDay 63 = .ok (.aload_n 0, 1) := by decide +kernel
theorem dX10_passDay_64 : decode cX10_passDay 64 = .ok (.invokevirtual 321, 3) := by decide +kernel
theorem dX10_passDay_67 : decode cX10_passDay 67 = .ok (.return_, 1) := by decide +kernel
theorem dX10_passDays_0 : decode cX10_passDays 0 = .ok (.iconst 0, 1) := by decide +kernel
theorem dX10_passDays_1 : decode cX10_passDays 1 = .ok (.istore_n 2, 1) := by decide +kernel
theorem dX10_passDays_2 : decode cX10_passDays 2 = .ok (.iload_n 2, 1) := by decide +kernel
theorem dX10_passDays_3 : decode cX10_passDays 3 = .ok (.iload_n 1, 1) := by decide +kernel
theorem dX10_passDays_4 : decode cX10_passDays 4 = .ok (.if_icmp .ge 13, 3) := by decide +kernel
theorem dX10_passDays_7 : decode cX10_passDays 7 = .ok (.aload_n 0, 1) := by decide +kernel
theorem dX10_passDays_8 : decode cX10_passDays 8 = .ok (.invokevirtual 324, 3) := by decide +kernel
theorem dX10_passDays_11 : decode cX10_passDays 11 = .ok (.iinc 2 1, 3) := by decide +kernel
theorem dX10_passDays_14 : decode cX10_passDays 14 = .ok (.goto (-12), 3) := by decide +kernel
theorem dX10_passDays_17 : decode cX10_passDays 17 = .ok (.return_, 1) := by decide +kernel
theorem dX10_paymentsAfter_0 : decode cX10_paymentsAfter 0 = .ok (.aload_n 0, 1) := by decide +kernel
theorem dX10_paymentsAfter_1 : decode cX10_paymentsAfter 1 = .ok (.iload_n 1, 1) := by decide +kernel
theorem dX10_paymentsAfter_2 : decode cX10_paymentsAfter 2 = .ok (.invokestatic 363, 3) := by decide +kernel
theorem dX10_paymentsAfter_5 : decode cX10_paymentsAfter 5 = .ok (.invokevirtual 333, 3) := by decide +kernel
theorem dX10_paymentsAfter_8 : decode cX10_paymentsAfter 8 = .ok (.ifCond .ne 5, 3) := by decide +kernel
theorem dX10_paymentsAfter_11 : decode cX10_paymentsAfter 11 = .ok (.iconst 0, 1) := by decide +kernel
theorem dX10_paymentsAfter_12 : decode cX10_paymentsAfter 12 = .ok (.ireturn, 1) := by decide +kernel
theorem dX10_paymentsAfter_13 : decode cX10_paymentsAfter 13 = .ok (.aload_n 0, 1) := by decide +kernel
theorem dX10_paymentsAfter_14 : decode cX10_paymentsAfter 14 = .ok (.invokevirtual 366, 3) := by decide +kernel
theorem dX10_paymentsAfter_17 : decode cX10_paymentsAfter 17 = .ok (.aload_n 0, 1) := by decide +kernel
theorem dX10_paymentsAfter_18 : decode cX10_paymentsAfter 18 = .ok (.iload_n 1, 1) := by decide +kernel
theorem dX10_paymentsAfter_19 : decode cX10_paymentsAfter 19 = .ok (.invokevirtual 369, 3) := by decide +kernel
theorem dX10_paymentsAfter_22 : decode cX10_paymentsAfter 22 = .ok (.aload_n 0, 1) := by decide +kernel
theorem dX10_paymentsAfter_23 : decode cX10_paymentsAfter 23 = .ok (.getfield 7, 3) := by decide +kernel
theorem dX10_paymentsAfter_26 : decode cX10_paymentsAfter 26 = .ok (.bipush 10, 2) := by decide +kernel
theorem dX10_paymentsAfter_28 : decode cX10_paymentsAfter 28 = .ok (.iaload, 1) := by decide +kernel
theorem dX10_paymentsAfter_29 : decode cX10_paymentsAfter 29 = .ok (.istore_n 2, 1) := by decide +kernel
theorem dX10_paymentsAfter_30 : decode cX10_paymentsAfter 30 = .ok (.aload_n 0, 1) := by decide +kernel
theorem dX10_paymentsAfter_31 : decode cX10_paymentsAfter 31 = .ok (.invokevirtual 372, 3) := by decide +kernel
theorem dX10_paymentsAfter_34 : decode cX10_paymentsAfter 34 = .ok (.iload_n 2, 1) := by decide +kernel
theorem dX10_paymentsAfter_35 : decode cX10_paymentsAfter 35 = .ok (.ireturn, 1) := by decide +kernel
theorem dX10_refund_0 : decode cX10_refund 0 = .ok (.aload_n 0, 1) := by decide +kernel
theorem dX10_refund_1 : decode cX10_refund 1 = .ok (.getfield 7, 3) := by decide +kernel
theorem dX10_refund_4 : decode cX10_refund 4 = .ok (.bipush 6, 2) := by decide +kernel
theorem dX10_refund_6 : decode cX10_refund 6 = .ok (.dup2, 1) := by decide +kernel
theorem dX10_refund_7 : decode cX10_refund 7 = .ok (.iaload, 1) := by decide +kernel
theorem dX10_refund_8 : decode cX10_refund 8 = .ok (.iload_n 1, 1) := by decide +kernel
theorem dX10_refund_9 : decode cX10_refund 9 = .ok (.isub, 1) := by decide +kernel
theorem dX10_refund_10 : decode cX10_refund 10 = .ok (.iastore, 1) := by decide +kernel
theorem dX10_refund_11 : decode cX10_refund 11 = .ok (.aload_n 0, 1) := by decide +kernel
theorem dX10_refund_12 : decode cX10_refund 12 = .ok (.getfield 7, 3) := by decide +kernel
theorem dX10_refund_15 : decode cX10_refund 15 = .ok (.bipush 11, 2) := by decide +kernel
theorem dX10_refund_17 : decode cX10_refund 17 = .ok (.dup2, 1) := by decide +kernel
theorem dX10_refund_18 : decode cX10_refund 18 = .ok (.iaload, 1) := by decide +kernel
theorem dX10_refund_19 : decode cX10_refund 19 = .ok (.iload_n 1, 1) := by decide +kernel
theorem dX10_refund_20 : decode cX10_refund 20 = .ok (.iadd, 1) := by decide +kernel
theorem dX10_refund_21 : decode cX10_refund 21 = .ok (.iastore, 1) := by decide +kernel
theorem dX10_refund_22 : decode cX10_refund 22 = .ok (.aload_n 0, 1) := by decide +kernel
theorem dX10_refund_23 : decode cX10_refund 23 = .ok (.getfield 7, 3) := by decide +kernel
theorem dX10_refund_26 : decode cX10_refund 26 = .ok (.iconst 2, 1) := by decide +kernel
theorem dX10_refund_27 : decode cX10_refund 27 = .ok (.iload_n 1, 1) := by decide +kernel
theorem dX10_refund_28 : decode cX10_refund 28 = .ok (.iload_n 2, 1) := by decide +kernel
theorem dX10_refund_29 : decode cX10_refund 29 = .ok (.invokestatic 229, 3) := by decide +kernel
theorem dX10_refund_32 : decode cX10_refund 32 = .ok (.return_, 1) := by decide +kernel
theorem dX10_remember_0 : decode cX10_remember 0 = .ok (.aload_n 0, 1) := by decide +kernel
theorem dX10_remember_1 : decode cX10_remember 1 = .ok (.getfield 83, 3) := by decide +kernel
theorem dX10_remember_4 : decode cX10_remember 4 = .ok (.bipush 10, 2) := by decide +kernel
theorem dX10_remember_6 : decode cX10_remember 6 = .ok (.if_icmp .ne 74, 3) := by decide +kernel
theorem dX10_remember_9 : decode cX10_remember 9 = .ok (.sipush 326, 3) := by decide +kernel
theorem dX10_remember_12 : decode cX10_remember 12 = .ok (.istore_n 1, 1) := by decide +kernel
theorem dX10_remember_13 : decode cX10_remember 13 = .ok (.iload_n 1, 1) := by decide +kernel
theorem dX10_remember_14 : decode cX10_remember 14 = .ok (.sipush 3260, 3) := by decide +kernel
theorem dX10_remember_17 : decode cX10_remember 17 = .ok (.if_icmp .ge 25, 3) := by decide +kernel
theorem dX10_remember_20 : decode cX10_remember 20 = .ok (.aload_n 0, 1) := by decide +kernel
theorem dX10_remember_21 : decode cX10_remember 21 = .ok (.getfield 19, 3) := by decide +kernel
theorem dX10_remember_24 : decode cX10_remember 24 = .ok (.iload_n 1, 1) := by decide +kernel
theorem dX10_remember_25 : decode cX10_remember 25 = .ok (.sipush 326, 3) := by decide +kernel
theorem dX10_remember_28 : decode cX10_remember 28 = .ok (.isub, 1) := by decide +kernel
theorem dX10_remember_29 : decode cX10_remember 29 = .ok (.aload_n 0, 1) := by decide +kernel
theorem dX10_remember_30 : decode cX10_remember 30 = .ok (.getfield 19, 3) := by decide +kernel
theorem dX10_remember_33 : decode cX10_remember 33 = .ok (.iload_n 1, 1) := by decide +kernel
theorem dX10_remember_34 : decode cX10_remember 34 = .ok (.iaload, 1) := by decide +kernel
theorem dX10_remember_35 : decode cX10_remember 35 = .ok (.iastore, 1) := by decide +kernel
theorem dX10_remember_36 : decode cX10_remember 36 = .ok (.iinc 1 1, 3) := by decide +kernel
theorem dX10_remember_39 : decode cX10_remember 39 = .ok (.goto (-26), 3) := by decide +kernel
theorem dX10_remember_42 : decode cX10_remember 42 = .ok (.iconst 1, 1) := by decide +kernel
theorem dX10_remember_43 : decode cX10_remember 43 = .ok (.istore_n 1, 1) := by decide +kernel
theorem dX10_remember_44 : decode cX10_remember 44 = .ok (.iload_n 1, 1) := by decide +kernel
theorem dX10_remember_45 : decode cX10_remember 45 = .ok (.bipush 10, 2) := by decide +kernel
theorem dX10_remember_47 : decode cX10_remember 47 = .ok (.if_icmp .ge 23, 3) := by decide +kernel
theorem dX10_remember_50 : decode cX10_remember 50 = .ok (.aload_n 0, 1) := by decide +kernel
theorem dX10_remember_51 : decode cX10_remember 51 = .ok (.getfield 22, 3) := by decide +kernel
theorem dX10_remember_54 : decode cX10_remember 54 = .ok (.iload_n 1, 1) := by decide +kernel
theorem dX10_remember_55 : decode cX10_remember 55 = .ok (.iconst 1, 1) := by decide +kernel
theorem dX10_remember_56 : decode cX10_remember 56 = .ok (.isub, 1) := by decide +kernel
theorem dX10_remember_57 : decode cX10_remember 57 = .ok (.aload_n 0, 1) := by decide +kernel
theorem dX10_remember_58 : decode cX10_remember 58 = .ok (.getfield 22, 3) := by decide +kernel
theorem dX10_remember_61 : decode cX10_remember 61 = .ok (.iload_n 1, 1) := by decide +kernel
theorem dX10_remember_62 : decode cX10_remember 62 = .ok (.laload, 1) := by decide +kernel
theorem dX10_remember_63 : decode cX10_remember 63 = .ok (.lastore, 1) := by decide +kernel
theorem dX10_remember_64 : decode cX10_remember 64 = .ok (.iinc 1 1, 3) := by decide +kernel
theorem dX10_remember_67 : decode cX10_remember 67 = .ok (.goto (-23), 3) := by decide +kernel
theorem dX10_remember_70 : decode cX10_remember 70 = .ok (.aload_n 0, 1) := by decide +kernel
theorem dX10_remember_71 : decode cX10_remember 71 = .ok (.dup, 1) := by decide +kernel
theorem dX10_remember_72 : decode cX10_remember 72 = .ok (.getfield 83, 3) := by decide +kernel
theorem dX10_remember_75 : decode cX10_remember 75 = .ok (.iconst 1, 1) := by decide +kernel
theorem dX10_remember_76 : decode cX10_remember 76 = .ok (.isub, 1) := by decide +kernel
theorem dX10_remember_77 : decode cX10_remember 77 = .ok (.putfield 83, 3) := by decide +kernel
theorem dX10_remember_80 : decode cX10_remember 80 = .ok (.iconst 0, 1) := by decide +kernel
theorem dX10_remember_81 : decode cX10_remember 81 = .ok (.istore_n 1, 1) := by decide +kernel
theorem dX10_remember_82 : decode cX10_remember 82 = .ok (.iload_n 1, 1) := by decide +kernel
theorem dX10_remember_83 : decode cX10_remember 83 = .ok (.sipush 326, 3) := by decide +kernel
theorem dX10_remember_86 : decode cX10_remember 86 = .ok (.if_icmp .ge 30, 3) := by decide +kernel
theorem dX10_remember_89 : decode cX10_remember 89 = .ok (.aload_n 0, 1) := by decide +kernel
theorem dX10_remember_90 : decode cX10_remember 90 = .ok (.getfield 19, 3) := by decide +kernel
theorem dX10_remember_93 : decode cX10_remember 93 = .ok (.sipush 326, 3) := by decide +kernel
theorem dX10_remember_96 : decode cX10_remember 96 = .ok (.aload_n 0, 1) := by decide +kernel
theorem dX10_remember_97 : decode cX10_remember 97 = .ok (.getfield 83, 3) := by decide +kernel
theorem dX10_remember_100 : decode cX10_remember 100 = .ok (.imul, 1) := by decide +kernel
theorem dX10_remember_101 : decode cX10_remember 101 = .ok (.iload_n 1, 1) := by decide +kernel
theorem dX10_remember_102 : decode cX10_remember 102 = .ok (.iadd, 1) := by decide +kernel
theorem dX10_remember_103 : decode cX10_remember 103 = .ok (.aload_n 0, 1) := by decide +kernel
theorem dX10_remember_104 : decode cX10_remember 104 = .ok (.getfield 7, 3) := by decide +kernel
theorem dX10_remember_107 : decode cX10_remember 107 = .ok (.iload_n 1, 1) := by decide +kernel
theorem dX10_remember_108 : decode cX10_remember 108 = .ok (.iaload, 1) := by decide +kernel
theorem dX10_remember_109 : decode cX10_remember 109 = .ok (.iastore, 1) := by decide +kernel
theorem dX10_remember_110 : decode cX10_remember 110 = .ok (.iinc 1 1, 3) := by decide +kernel
theorem dX10_remember_113 : decode cX10_remember 113 = .ok (.goto (-31), 3) := by decide +kernel
theorem dX10_remember_116 : decode cX10_remember 116 = .ok (.aload_n 0, 1) := by decide +kernel
theorem dX10_remember_117 : decode cX10_remember 117 = .ok (.getfield 22, 3) := by decide +kernel
theorem dX10_remember_120 : decode cX10_remember 120 = .ok (.aload_n 0, 1) := by decide +kernel
theorem dX10_remember_121 : decode cX10_remember 121 = .ok (.getfield 83, 3) := by decide +kernel
theorem dX10_remember_124 : decode cX10_remember 124 = .ok (.aload_n 0, 1) := by decide +kernel
theorem dX10_remember_125 : decode cX10_remember 125 = .ok (.getfield 86, 3) := by decide +kernel
theorem dX10_remember_128 : decode cX10_remember 128 = .ok (.lastore, 1) := by decide +kernel
theorem dX10_remember_129 : decode cX10_remember 129 = .ok (.aload_n 0, 1) := by decide +kernel
theorem dX10_remember_130 : decode cX10_remember 130 = .ok (.dup, 1) := by decide +kernel
theorem dX10_remember_131 : decode cX10_remember 131 = .ok (.getfield 83, 3) := by decide +kernel
theorem dX10_remember_134 : decode cX10_remember 134 = .ok (.iconst 1, 1) := by decide +kernel
theorem dX10_remember_135 : decode cX10_remember 135 = .ok (.iadd, 1) := by decide +kernel
theorem dX10_remember_136 : decode cX10_remember 136 = .ok (.putfield 83, 3) := by decide +kernel
theorem dX10_remember_139 : decode cX10_remember 139 = .ok (.return_, 1) := by decide +kernel
theorem dX10_reset_0 : decode cX10_reset 0 = .ok (.iconst 0, 1) := by decide +kernel
theorem dX10_reset_1 : decode cX10_reset 1 = .ok (.istore_n 1, 1) := by decide +kernel
theorem dX10_reset_2 : decode cX10_reset 2 = .ok (.iload_n 1, 1) := by decide +kernel
theorem dX10_reset_3 : decode cX10_reset 3 = .ok (.sipush 326, 3) := by decide +kernel
theorem dX10_reset_6 : decode cX10_reset 6 = .ok (.if_icmp .ge 13, 3) := by decide +kernel
theorem dX10_reset_9 : decode cX10_reset 9 = .ok (.aload_n 0, 1) := by decide +kernel
theorem dX10_reset_10 : decode cX10_reset 10 = .ok (.iload_n 1, 1) := by decide +kernel
theorem dX10_reset_11 : decode cX10_reset 11 = .ok (.iconst 0, 1) := by decide +kernel
theorem dX10_reset_12 : decode cX10_reset 12 = .ok (.iastore, 1) := by decide +kernel
theorem dX10_reset_13 : decode cX10_reset 13 = .ok (.iinc 1 1, 3) := by decide +kernel
theorem dX10_reset_16 : decode cX10_reset 16 = .ok (.goto (-14), 3) := by decide +kernel
theorem dX10_reset_19 : decode cX10_reset 19 = .ok (.aload_n 0, 1) := by decide +kernel
theorem dX10_reset_20 : decode cX10_reset 20 = .ok (.iconst 1, 1) := by decide +kernel
theorem dX10_reset_21 : decode cX10_reset 21 = .ok (.sipush 365, 3) := by decide +kernel
theorem dX10_reset_24 : decode cX10_reset 24 = .ok (.iastore, 1) := by decide +kernel
theorem dX10_reset_25 : decode cX10_reset 25 = .ok (.return_, 1) := by decide +kernel
theorem dX10_setGrace_0 : decode cX10_setGrace 0 = .ok (.aload_n 0, 1) := by decide +kernel
theorem dX10_setGrace_1 : decode cX10_setGrace 1 = .ok (.iload_n 1, 1) := by decide +kernel
theorem dX10_setGrace_2 : decode cX10_setGrace 2 = .ok (.i2l, 1) := by decide +kernel
theorem dX10_setGrace_3 : decode cX10_setGrace 3 = .ok (.lconst 0, 1) := by decide +kernel
theorem dX10_setGrace_4 : decode cX10_setGrace 4 = .ok (.ldc2_w 410, 3) := by decide +kernel
theorem dX10_setGrace_7 : decode cX10_setGrace 7 = .ok (.invokestatic 152, 3) := by decide +kernel
theorem dX10_setGrace_10 : decode cX10_setGrace 10 = .ok (.invokevirtual 333, 3) := by decide +kernel
theorem dX10_setGrace_13 : decode cX10_setGrace 13 = .ok (.ifCond .ne 5, 3) := by decide +kernel
theorem dX10_setGrace_16 : decode cX10_setGrace 16 = .ok (.iconst 0, 1) := by decide +kernel
theorem dX10_setGrace_17 : decode cX10_setGrace 17 = .ok (.ireturn, 1) := by decide +kernel
theorem dX10_setGrace_18 : decode cX10_setGrace 18 = .ok (.aload_n 0, 1) := by decide +kernel
theorem dX10_setGrace_19 : decode cX10_setGrace 19 = .ok (.invokevirtual 395, 3) := by decide +kernel
theorem dX10_setGrace_22 : decode cX10_setGrace 22 = .ok (.aload_n 0, 1) := by decide +kernel
theorem dX10_setGrace_23 : decode cX10_setGrace 23 = .ok (.getfield 7, 3) := by decide +kernel
theorem dX10_setGrace_26 : decode cX10_setGrace 26 = .ok (.iconst 3, 1) := by decide +kernel
theorem dX10_setGrace_27 : decode cX10_setGrace 27 = .ok (.iaload, 1) := by decide +kernel
theorem dX10_setGrace_28 : decode cX10_setGrace 28 = .ok (.istore_n 2, 1) := by decide +kernel
theorem dX10_setGrace_29 : decode cX10_setGrace 29 = .ok (.aload_n 0, 1) := by decide +kernel
theorem dX10_setGrace_30 : decode cX10_setGrace 30 = .ok (.getfield 7, 3) := by decide +kernel
theorem dX10_setGrace_33 : decode cX10_setGrace 33 = .ok (.iconst 3, 1) := by decide +kernel
theorem dX10_setGrace_34 : decode cX10_setGrace 34 = .ok (.iload_n 1, 1) := by decide +kernel
theorem dX10_setGrace_35 : decode cX10_setGrace 35 = .ok (.iastore, 1) := by decide +kernel
theorem dX10_setGrace_36 : decode cX10_setGrace 36 = .ok (.iload_n 2, 1) := by decide +kernel
theorem dX10_setGrace_37 : decode cX10_setGrace 37 = .ok (.ireturn, 1) := by decide +kernel
theorem dX10_setRate_0 : decode cX10_setRate 0 = .ok (.aload_n 0, 1) := by decide +kernel
theorem dX10_setRate_1 : decode cX10_setRate 1 = .ok (.iload_n 1, 1) := by decide +kernel
theorem dX10_setRate_2 : decode cX10_setRate 2 = .ok (.i2l, 1) := by decide +kernel
theorem dX10_setRate_3 : decode cX10_setRate 3 = .ok (.lconst 0, 1) := by decide +kernel
theorem dX10_setRate_4 : decode cX10_setRate 4 = .ok (.ldc2_w 408, 3) := by decide +kernel
theorem dX10_setRate_7 : decode cX10_setRate 7 = .ok (.invokestatic 152, 3) := by decide +kernel
theorem dX10_setRate_10 : decode cX10_setRate 10 = .ok (.ifCond .eq 21, 3) := by decide +kernel
theorem dX10_setRate_13 : decode cX10_setRate 13 = .ok (.iload_n 2, 1) := by decide +kernel
theorem dX10_setRate_14 : decode cX10_setRate 14 = .ok (.sipush 360, 3) := by decide +kernel
theorem dX10_setRate_17 : decode cX10_setRate 17 = .ok (.if_icmp .eq 10, 3) := by decide +kernel
theorem dX10_setRate_20 : decode cX10_setRate 20 = .ok (.iload_n 2, 1) := by decide +kernel
theorem dX10_setRate_21 : decode cX10_setRate 21 = .ok (.sipush 365, 3) := by decide +kernel
theorem dX10_setRate_24 : decode cX10_setRate 24 = .ok (.if_icmp .ne 7, 3) := by decide +kernel
theorem dX10_setRate_27 : decode cX10_setRate 27 = .ok (.iconst 1, 1) := by decide +kernel
theorem dX10_setRate_28 : decode cX10_setRate 28 = .ok (.goto 4, 3) := by decide +kernel
theorem dX10_setRate_31 : decode cX10_setRate 31 = .ok (.iconst 0, 1) := by decide +kernel
theorem dX10_setRate_32 : decode cX10_setRate 32 = .ok (.invokevirtual 333, 3) := by decide +kernel
theorem dX10_setRate_35 : decode cX10_setRate 35 = .ok (.ifCond .ne 5, 3) := by decide +kernel
theorem dX10_setRate_38 : decode cX10_setRate 38 = .ok (.iconst 0, 1) := by decide +kernel
theorem dX10_setRate_39 : decode cX10_setRate 39 = .ok (.ireturn, 1) := by decide +kernel
theorem dX10_setRate_40 : decode cX10_setRate 40 = .ok (.aload_n 0, 1) := by decide +kernel
theorem dX10_setRate_41 : decode cX10_setRate 41 = .ok (.invokevirtual 395, 3) := by decide +kernel
theorem dX10_setRate_44 : decode cX10_setRate 44 = .ok (.aload_n 0, 1) := by decide +kernel
theorem dX10_setRate_45 : decode cX10_setRate 45 = .ok (.getfield 7, 3) := by decide +kernel
theorem dX10_setRate_48 : decode cX10_setRate 48 = .ok (.iconst 0, 1) := by decide +kernel
theorem dX10_setRate_49 : decode cX10_setRate 49 = .ok (.iaload, 1) := by decide +kernel
theorem dX10_setRate_50 : decode cX10_setRate 50 = .ok (.istore_n 3, 1) := by decide +kernel
theorem dX10_setRate_51 : decode cX10_setRate 51 = .ok (.aload_n 0, 1) := by decide +kernel
theorem dX10_setRate_52 : decode cX10_setRate 52 = .ok (.getfield 7, 3) := by decide +kernel
theorem dX10_setRate_55 : decode cX10_setRate 55 = .ok (.iconst 0, 1) := by decide +kernel
theorem dX10_setRate_56 : decode cX10_setRate 56 = .ok (.iload_n 1, 1) := by decide +kernel
theorem dX10_setRate_57 : decode cX10_setRate 57 = .ok (.iastore, 1) := by decide +kernel
theorem dX10_setRate_58 : decode cX10_setRate 58 = .ok (.aload_n 0, 1) := by decide +kernel
theorem dX10_setRate_59 : decode cX10_setRate 59 = .ok (.getfield 7, 3) := by decide +kernel
theorem dX10_setRate_62 : decode cX10_setRate 62 = .ok (.iconst 1, 1) := by decide +kernel
theorem dX10_setRate_63 : decode cX10_setRate 63 = .ok (.iload_n 2, 1) := by decide +kernel
theorem dX10_setRate_64 : decode cX10_setRate 64 = .ok (.iastore, 1) := by decide +kernel
theorem dX10_setRate_65 : decode cX10_setRate 65 = .ok (.iload_n 3, 1) := by decide +kernel
theorem dX10_setRate_66 : decode cX10_setRate 66 = .ok (.ireturn, 1) := by decide +kernel
theorem dX10_shortDay_0 : decode cX10_shortDay 0 = .ok (.aload_n 0, 1) := by decide +kernel
theorem dX10_shortDay_1 : decode cX10_shortDay 1 = .ok (.iload_n 1, 1) := by decide +kernel
theorem dX10_shortDay_2 : decode cX10_shortDay 2 = .ok (.invokestatic 363, 3) := by decide +kernel
theorem dX10_shortDay_5 : decode cX10_shortDay 5 = .ok (.invokevirtual 333, 3) := by decide +kernel
theorem dX10_shortDay_8 : decode cX10_shortDay 8 = .ok (.ifCond .ne 5, 3) := by decide +kernel
theorem dX10_shortDay_11 : decode cX10_shortDay 11 = .ok (.iconst 0, 1) := by decide +kernel
theorem dX10_shortDay_12 : decode cX10_shortDay 12 = .ok (.ireturn, 1) := by decide +kernel
theorem dX10_shortDay_13 : decode cX10_shortDay 13 = .ok (.aload_n 0, 1) := by decide +kernel
theorem dX10_shortDay_14 : decode cX10_shortDay 14 = .ok (.invokevirtual 366, 3) := by decide +kernel
theorem dX10_shortDay_17 : decode cX10_shortDay 17 = .ok (.iconst (-1), 1) := by decide +kernel
theorem dX10_shortDay_18 : decode cX10_shortDay 18 = .ok (.istore_n 2, 1) := by decide +kernel
theorem dX10_shortDay_19 : decode cX10_shortDay 19 = .ok (.iconst 0, 1) := by decide +kernel
theorem dX10_shortDay_20 : decode cX10_shortDay 20 = .ok (.istore_n 3, 1) := by decide +kernel
theorem dX10_shortDay_21 : decode cX10_shortDay 21 = .ok (.iload_n 3, 1) := by decide +kernel
theorem dX10_shortDay_22 : decode cX10_shortDay 22 = .ok (.iload_n 1, 1) := by decide +kernel
theorem dX10_shortDay_23 : decode cX10_shortDay 23 = .ok (.if_icmp .ge 36, 3) := by decide +kernel
theorem dX10_shortDay_26 : decode cX10_shortDay 26 = .ok (.iload_n 2, 1) := by decide +kernel
theorem dX10_shortDay_27 : decode cX10_shortDay 27 = .ok (.iconst (-1), 1) := by decide +kernel
theorem dX10_shortDay_28 : decode cX10_shortDay 28 = .ok (.if_icmp .ne 31, 3) := by decide +kernel
theorem dX10_shortDay_31 : decode cX10_shortDay 31 = .ok (.aload_n 0, 1) := by decide +kernel
theorem dX10_shortDay_32 : decode cX10_shortDay 32 = .ok (.invokevirtual 324, 3) := by decide +kernel
theorem dX10_shortDay_35 : decode cX10_shortDay 35 = .ok (.aload_n 0, 1) := by decide +kernel
theorem dX10_shortDay_36 : decode cX10_shortDay 36 = .ok (.invokevirtual 390, 3) := by decide +kernel
theorem dX10_shortDay_39 : decode cX10_shortDay 39 = .ok (.ifCond .eq 12, 3) := by decide +kernel
theorem dX10_shortDay_42 : decode cX10_shortDay 42 = .ok (.aload_n 0, 1) := by decide +kernel
theorem dX10_shortDay_43 : decode cX10_shortDay 43 = .ok (.getfield 7, 3) := by decide +kernel
theorem dX10_shortDay_46 : decode cX10_shortDay 46 = .ok (.iconst 4, 1) := by decide +kernel
theorem dX10_shortDay_47 : decode cX10_shortDay 47 = .ok (.iaload, 1) := by decide +kernel
theorem dX10_shortDay_48 : decode cX10_shortDay 48 = .ok (.goto 4, 3) := by decide +kernel
theorem dX10_shortDay_51 : decode cX10_shortDay 51 = .ok (.iconst (-1), 1) := by decide +kernel
theorem dX10_shortDay_52 : decode cX10_shortDay 52 = .ok (.istore_n 2, 1) := by decide +kernel
theorem dX10_shortDay_53 : decode cX10_shortDay 53 = .ok (.iinc 3 1, 3) := by decide +kernel
theorem dX10_shortDay_56 : decode cX10_shortDay 56 = .ok (.goto (-35), 3) := by decide +kernel
theorem dX10_shortDay_59 : decode cX10_shortDay 59 = .ok (.aload_n 0, 1) := by decide +kernel
theorem dX10_shortDay_60 : decode cX10_shortDay 60 = .ok (.invokevirtual 372, 3) := by decide +kernel
theorem dX10_shortDay_63 : decode cX10_shortDay 63 = .ok (.iload_n 2, 1) := by decide +kernel
theorem dX10_shortDay_64 : decode cX10_shortDay 64 = .ok (.ireturn, 1) := by decide +kernel

set_option maxHeartbeats 4000000 in
set_option maxRecDepth 100000 in
/-- reset(row) -/
theorem c_m_reset (l : Launch) (D : va_G) (cA : Nat → ClassId) (sa : Nat → Nat) (h0 : Nat) (f0 : Nat → Int32) (sz : Nat) : Met l yX10_reset wsX10_reset ({ frames := 0, cells := 0, slots := 0, locals := 0 }) (va_Pc [.ref h0] (Wd D cA sa [(h0, .inl (cA 0, 326, .inl f0))] sz)) (va_Qv (fun _ : Unit => True) (fun (_ : Unit) t => ∃ fn2 : Nat → Int32, Zs fn2 ∧ Wq D (va_A [(h0, .inl (cA 0, 326, .inl f0))] sz) [(h0, .inl (cA 0, 326, .inl fn2))] t) (va_A [(h0, .inl (cA 0, 326, .inl f0))] sz)) 0 0 (va_A [(h0, .inl (cA 0, 326, .inl f0))] sz) := by
  refine Met.ofW (cc := cX10_reset) (maxL := 2) (ret := none) (by decide) rfl ?_
  intro p e s m args below meth c s₁ B hml hv
  obtain ⟨rfl, hsz, hP, hK, hD0, hC, hZ⟩ := hv
  have hx := B.exec
  have hb := B.bytes
  have hr := B.returns
  have hts := atoms_spec (ws := wsX10_reset) B.pre
  have hown : s.vm.findClass RX10 = some m.cls := findClass_of_methodNamed B.named
  have hlocks := B.notSynchronized
  subst hsz
  have hD := hD0.self (sz := s.heap.size)
  generalize hAe : va_A [(h0, .inl (cA 0, 326, .inl f0))] s.heap.size = A at hD hZ ⊢
  have hA : ∀ q : Nat, s.heap.size ≤ q → A q := fun q h => by rw [← hAe]; exact Or.inr h
  have hS : va_S A s.heap s.heap [] := va_S.rf
  have hP : va_P D vwCl [(h0, .inl (cA 0, 326, .inl f0))] s.heap := hP
  have hl := lv_entry ([.ref h0]) (n := 2) (Nat.le_of_ble_eq_true rfl)
  rw [lg_entry_eq]
  generalize (lg_sl ([.ref h0]) ++ List.replicate (2 - (lg_sl ([.ref h0])).length) Slot.unset).toArray = ls at hl ⊢
  have hl : lv_has ls 2 [(0, .ref h0)] := hl
  refine lv_iconst (v := 0) hx hb dX10_reset_0 (by decide) ?_
  refine lv_istore_n (lv' := [(1, .int 0), (0, .ref h0)]) hx hb dX10_reset_1 rfl hl (by decide) rfl (fun ls hl => ?_)
  have loop : ∀ (n i : Nat) (f : Nat → Int32) (H : Heap) (locs : List Loc) (ls : Array Slot), i + n = 326 → Nul i f → va_P D vwCl [(h0, .inl (cA 0, 326, .inl f))] H → va_D A [(h0, .inl (cA 0, 326, .inl f))] → va_S A s.heap H locs → lv_has ls 2 [(1, .int (nI i)), (0, .ref h0)] → W p l e (headSpec wsX10_reset ({ frames := 0, cells := 0, slots := 0, locals := 0 } : Room)).room s m ([.ref h0] : List Value).toArray below meth c H locs 0 0 (MQ below (va_Qv (fun _ : Unit => True) (fun (_ : Unit) t => ∃ fn2 : Nat → Int32, Zs fn2 ∧ Wq D A [(h0, .inl (cA 0, 326, .inl fn2))] t) A) ([.ref h0] : List Value).toArray s 0 0 A) (F0 m 2 ls []) := by
    intro n
    induction n with
    | zero =>
      intro i f H locs ls hi hn hP hD hS hl
      obtain rfl : 326 = i := by omega
      refine lv_iload_n hx hb dX10_reset_2 rfl (lv_at hl 0 rfl) ?_
      refine lv_sipush (v := 326) hx hb dX10_reset_3 (by decide) ?_
      refine lv_icmp_ge (tgt := 19) hx hb dX10_reset_6 (by decide) (fun c1 => ?_) (fun c9 => absurd c9 (fun h3 => h3 (by decide)))
      refine lv_aload_n hx hb dX10_reset_19 rfl (lv_at hl 1 rfl) ?_
      refine lv_iconst (v := 1) hx hb dX10_reset_20 (by decide) ?_
      refine lv_sipush (v := 365) hx hb dX10_reset_21 (by decide) ?_
      refine va_iast hx hb hK hP hD hS 0 0 rfl rfl (vp_in_iff.mpr (by decide)) dX10_reset_24 (fun H locs hP hD hS => ?_)
      have hP : va_P D vwCl [(h0, .inl (cA 0, 326, .inl (upd f 1 365)))] H := hP
      have hD : va_D A [(h0, .inl (cA 0, 326, .inl (upd f 1 365)))] := hD
      have hn3 : Zs (upd f 1 365) := Nul.zs hn
      generalize (upd f 1 365) = fn2 at hP hD hn3
      have hP : va_P D vwCl [(h0, .inl (cA 0, 326, .inl fn2))] H := hP
      have hD : va_D A [(h0, .inl (cA 0, 326, .inl fn2))] := hD
      have hP9 := hP.sub (ws' := [(h0, .inl (cA 0, 326, .inl fn2))]) [0] rfl
      have hD9 := hD.sub (ws' := [(h0, .inl (cA 0, 326, .inl fn2))]) [0] (by decide) rfl
      refine W.widen (k := 0) (n := 0) (Nat.le_of_ble_eq_true rfl) (Nat.le_of_ble_eq_true rfl) ?_
      exact W.vret hx hb hr (fun t ht hW => ⟨⟨(), rfl, trivial, fn2, hn3, by rw [ht]; exact hP9, hD9⟩, hS.F ht⟩) hS.2.2 dX10_reset_25
    | succ n ih =>
      intro i f H locs ls hi hn hP hD hS hl
      refine lv_iload_n hx hb dX10_reset_2 rfl (lv_at hl 0 rfl) ?_
      refine lv_sipush (v := 326) hx hb dX10_reset_3 (by decide) ?_
      refine lv_icmp_ge (tgt := 19) hx hb dX10_reset_6 (by decide) (fun c9 => absurd c9 (nI_ge (b := 326) (show i < 326 by omega) (by decide))) (fun c4 => ?_)
      refine lv_aload_n hx hb dX10_reset_9 rfl (lv_at hl 1 rfl) ?_
      refine lv_iload_n hx hb dX10_reset_10 rfl (lv_at hl 0 rfl) ?_
      refine lv_iconst (v := 0) hx hb dX10_reset_11 (by decide) ?_
      refine va_iast hx hb hK hP hD hS 0 0 rfl rfl (vp_in_nI (show i < 326 by omega) (by decide)) dX10_reset_12 (fun H locs hP hD hS => ?_)
      have hP : va_P D vwCl [(h0, .inl (cA 0, 326, .inl (upd f (((nI i)).toNatClampNeg) 0)))] H := hP
      have hD : va_D A [(h0, .inl (cA 0, 326, .inl (upd f (((nI i)).toNatClampNeg) 0)))] := hD
      have hn6 : Nul (i + 1) (upd f (((nI i)).toNatClampNeg) 0) := Nul.step (by omega) hn
      generalize (upd f (((nI i)).toNatClampNeg) 0) = fn5 at hP hD hn6
      have hP : va_P D vwCl [(h0, .inl (cA 0, 326, .inl fn5))] H := hP
      have hD : va_D A [(h0, .inl (cA 0, 326, .inl fn5))] := hD
      refine lv_iinc (v := (nI (i + 1))) (lv' := [(1, .int (nI (i + 1))), (0, .ref h0)]) hx hb dX10_reset_13 hl (k := 0) rfl (nI_1 _) (by decide) rfl (fun ls hl => ?_)
      refine lv_goto (tgt := 2) hx hb dX10_reset_16 (by decide) ?_
      exact ih (i + 1) fn5 H _ ls (by omega) hn6 (hP.sub [0] rfl) (hD.sub [0] (by decide) rfl) hS (lv_sub hl [0, 1] rfl)
  exact loop 326 0 f0 _ _ ls (by omega) (fun j hj => absurd hj (Nat.not_lt_zero j)) (hP.sub [0] rfl) (hD.sub [0] (by decide) rfl) hS (lv_sub hl [0, 1] rfl)

theorem sb_lt {k : Nat} {bs : List Int32} (hq : (k, bs) ∈ sbL) : bs.length < 2 ^ 31 := (show ∀ q ∈ sbL, q.2.length < 2 ^ 31 by decide +kernel) _ hq
theorem sb_mem {bs : List Int32} {i : Nat} (hi : i < bs.length) : bs.getD i 0 ∈ bs := by
  rw [List.getD_eq_getElem?_getD, List.getElem?_eq_getElem hi]
  exact List.getElem_mem hi
theorem sb_c2 {k : Nat} {bs : List Int32} {i : Nat} (hq : (k, bs) ∈ sbL) (hi : i < bs.length) : ((bs.getD i 0 &&& 255).toUInt32 % 65536).toInt32 = bs.getD i 0 := (show ∀ q ∈ sbL, ∀ b ∈ q.2, ((b &&& 255).toUInt32 % 65536).toInt32 = b by decide +kernel) _ hq _ (sb_mem hi)
theorem sb_nar {k : Nat} {bs : List Int32} {i : Nat} (hq : (k, bs) ∈ sbL) (hi : i < bs.length) : narrow .char (.int (bs.getD i 0)) = .int (bs.getD i 0) := (show ∀ q ∈ sbL, ∀ b ∈ q.2, narrow .char (.int b) = .int b by decide +kernel) _ hq _ (sb_mem hi)
theorem SO.recv {sa : Nat → Nat} {q : Nat × List Int32} {A : Nat → Prop} {s : State} {H : Heap} {locs : List Loc} (h : SO sa q A s s.heap) (hS : va_S A s.heap H locs) : ∃ cell : Cell, H[sa q.1]? = some cell ∧ cell.vm.isStatics = false ∧ s.vm.findClass "java/lang/String" = some cell.cls := by
  obtain ⟨cell, h1, h2, h3, -⟩ := h.1.kept hS.2.1
  exact ⟨cell, h1, h2, h3⟩
set_option maxRecDepth 20000 in
theorem ggX4_readText_X5_split : GoodIn wsX4_readText wsX5_split := goodIn_r _ [10, 11, 12, 13, 9, 14, 15, 16, 17, 18, 19, 20, 21, 22, 23, 24, 25, 26, 27, 28, 29, 30, 31, 32, 33, 34, 35, 36, 37, 38, 39, 40, 41, 42, 43, 44, 45, 46, 47, 48, 49, 50, 51, 52, 53, 54, 55, 56, 57, 58, 59, 60, 61, 62, 63, 64, 65, 66, 67, 68, 69, 70, 71, 72, 73, 74, 75, 76, 77, 78, 79, 80, 81, 82, 83, 84, 85, 86, 87, 88, 89, 90, 91, 92, 93, 94, 226, 227, 228, 229, 230, 231, 232, 233] rfl (by decide +kernel)
set_option maxRecDepth 20000 in
theorem gX4_readText_X5_split : GoodIn wsX4_readText (wsV RX4 29 RX5 yX5_split wsX5_split) := goodIn_app (goodIn_r _ [6, 7, 8, 9] rfl (by decide +kernel)) ggX4_readText_X5_split
set_option maxRecDepth 20000 in
theorem ggX4_readText_X3_clear : GoodIn wsX4_readText wsX3_clear := goodIn_r _ [99, 100, 101, 102, 103, 104, 105, 106, 107, 234, 235, 236, 237, 238, 239, 240, 241, 242, 243, 244, 245, 246, 247, 248, 249, 250] rfl (by decide +kernel)
set_option maxRecDepth 20000 in
theorem gX4_readText_X3_clear : GoodIn wsX4_readText (wsV RX4 33 RX3 yX3_clear wsX3_clear) := goodIn_app (goodIn_r _ [95, 96, 97, 98] rfl (by decide +kernel)) ggX4_readText_X3_clear
set_option maxRecDepth 20000 in
theorem ggX4_readText_X4_lookAt : GoodIn wsX4_readText wsX4_lookAt := goodIn_r _ [112, 1, 113, 5, 114, 115, 217, 218, 219, 220, 221, 222, 223, 224, 225, 226, 227, 228, 229] rfl (by decide +kernel)
set_option maxRecDepth 20000 in
theorem gX4_readText_X4_lookAt : GoodIn wsX4_readText (wsV RX4 38 RX4 yX4_lookAt wsX4_lookAt) := goodIn_app (goodIn_r _ [108, 109, 110, 111] rfl (by decide +kernel)) ggX4_readText_X4_lookAt
set_option maxRecDepth 20000 in
theorem ggX5_split_X5_add : GoodIn wsX5_split wsX5_add := goodIn_r _ [23, 1, 11, 24, 10, 86, 87, 88, 89] rfl (by decide +kernel)
set_option maxRecDepth 20000 in
theorem gX5_split_X5_add : GoodIn wsX5_split (wsV RX5 40 RX5 yX5_add wsX5_add) := goodIn_app (goodIn_r _ [20, 21, 22, 4] rfl (by decide +kernel)) ggX5_split_X5_add
set_option maxRecDepth 20000 in
theorem ggX5_split_X5_markKeywords : GoodIn wsX5_split wsX5_markKeywords := goodIn_r _ [28, 1, 11, 10, 29, 30, 31, 32, 33, 34, 18, 35, 36, 37, 38, 39, 40, 41, 42, 43, 44, 45, 46, 47, 48, 49, 50, 51, 52, 53, 54, 55, 56, 57, 58, 59, 60, 61, 62, 63, 64, 65, 66, 67, 68, 69, 70, 71, 72, 73, 74, 75, 76, 77, 78, 79, 80, 81, 82, 83, 84, 85, 17, 19, 86, 87, 88, 89, 90, 91, 92, 93] rfl (by decide +kernel)
set_option maxRecDepth 20000 in
theorem gX5_split_X5_markKeywords : GoodIn wsX5_split (wsV RX5 44 RX5 yX5_markKeywords wsX5_markKeywords) := goodIn_app (goodIn_r _ [25, 26, 27, 4] rfl (by decide +kernel)) ggX5_split_X5_markKeywords
set_option maxRecDepth 20000 in
theorem ggX5_markKeywords_X7_spelling : GoodIn wsX5_markKeywords wsX7_spelling := goodIn_r _ [7] rfl (by decide +kernel)
set_option maxRecDepth 20000 in
theorem gX5_markKeywords_X7_spelling : GoodIn wsX5_markKeywords (va_wsS RX5 55 yX7_spelling wsX7_spelling) := goodIn_app (goodIn_r _ [4, 5, 6] rfl (by decide +kernel)) ggX5_markKeywords_X7_spelling
set_option maxRecDepth 20000 in
theorem ggX5_markKeywords_X8_packed : GoodIn wsX5_markKeywords wsX8_packed := goodIn_r _ [11, 12, 13, 14, 15, 16, 17, 18, 19, 20, 21, 22, 23, 24, 25, 26, 27, 28, 29, 30, 31, 32, 33, 34, 35, 36, 37, 38, 39, 40, 41, 42, 43, 44, 45, 46, 47, 48, 49, 50, 51, 52, 53, 54, 55, 56, 57, 58, 59, 60, 61, 62, 10, 63, 68, 69, 70, 71] rfl (by decide +kernel)
set_option maxRecDepth 20000 in
theorem gX5_markKeywords_X8_packed : GoodIn wsX5_markKeywords (va_wsS RX5 59 yX8_packed wsX8_packed) := goodIn_app (goodIn_r _ [8, 9, 10] rfl (by decide +kernel)) ggX5_markKeywords_X8_packed
set_option maxRecDepth 20000 in
theorem ggX8_packed_J0_length_8abf5 : GoodIn wsX8_packed wsJ0_length_8abf5 := goodIn_r _ [5, 6, 7, 8, 9, 4, 10, 11, 12, 54, 55, 56, 57] rfl (by decide +kernel)
set_option maxRecDepth 20000 in
theorem gX8_packed_J0_length_8abf5 : GoodIn wsX8_packed (wsV RX8 9 RJ0 yJ0_length_8abf5 wsJ0_length_8abf5) := goodIn_app (goodIn_r _ [1, 2, 3, 4] rfl (by decide +kernel)) ggX8_packed_J0_length_8abf5
set_option maxRecDepth 20000 in
theorem ggX8_packed_J0_charAt_5068e : GoodIn wsX8_packed wsJ0_charAt_5068e := goodIn_r _ [16, 6, 17, 18, 19, 4, 20, 11, 12, 21, 22, 23, 24, 25, 26, 27, 28, 29, 30, 31, 32, 33, 34, 35, 36, 37, 38, 39, 40, 41, 42, 43, 44, 45, 46, 47, 48, 49, 54, 55, 56, 57] rfl (by decide +kernel)
set_option maxRecDepth 20000 in
theorem gX8_packed_J0_charAt_5068e : GoodIn wsX8_packed (wsV RX8 15 RJ0 yJ0_charAt_5068e wsJ0_charAt_5068e) := goodIn_app (goodIn_r _ [13, 14, 15, 4] rfl (by decide +kernel)) ggX8_packed_J0_charAt_5068e
set_option maxRecDepth 20000 in
theorem ggX8_packed_X8_withLetter : GoodIn wsX8_packed wsX8_withLetter := goodIn_r _ [53] rfl (by decide +kernel)
set_option maxRecDepth 20000 in
theorem gX8_packed_X8_withLetter : GoodIn wsX8_packed (va_wsS RX8 19 yX8_withLetter wsX8_withLetter) := goodIn_app (goodIn_r _ [50, 51, 52] rfl (by decide +kernel)) ggX8_packed_X8_withLetter
set_option maxRecDepth 20000 in
theorem ggX9_load_X9_needRange : GoodIn wsX9_load wsX9_needRange := goodIn_ca (goodIn_r _ [11, 12, 13] rfl (by decide +kernel)) (goodIn_sub (fun _ h => List.mem_cons_of_mem _ (List.mem_append_right _ h)) (by decide +kernel))
set_option maxRecDepth 20000 in
theorem gX9_load_X9_needRange : GoodIn wsX9_load (va_wsS RX9 67 yX9_needRange wsX9_needRange) := goodIn_app (goodIn_r _ [8, 9, 10] rfl (by decide +kernel)) ggX9_load_X9_needRange
set_option maxRecDepth 20000 in
theorem ggX9_load_X4_readText : GoodIn wsX9_load wsX4_readText := goodIn_r _ [18, 19, 20, 21, 22, 23, 24, 25, 26, 27, 28, 29, 30, 31, 32, 33, 34, 35, 36, 37, 38, 39, 40, 41, 42, 43, 44, 45, 46, 47, 48, 49, 50, 51, 52, 53, 54, 55, 56, 57, 58, 59, 60, 61, 62, 63, 64, 65, 66, 67, 68, 69, 70, 71, 72, 73, 74, 75, 76, 77, 78, 79, 80, 81, 82, 83, 84, 85, 86, 87, 88, 89, 90, 91, 92, 93, 94, 95, 96, 97, 98, 99, 100, 101, 102, 103, 104, 105, 106, 107, 108, 109, 110, 111, 112, 113, 114, 115, 116, 117, 118, 119, 120, 121, 122, 123, 124, 125, 126, 127, 128, 17, 129, 130, 131, 132, 133, 134, 135, 136, 137, 138, 139, 140, 141, 142, 143, 144, 145, 146, 10, 147, 148, 149, 150, 151, 152, 153, 154, 155, 156, 157, 158, 159, 160, 161, 162, 163, 164, 165, 166, 167, 168, 169, 170, 171, 172, 173, 174, 175, 176, 177, 178, 179, 180, 181, 182, 183, 184, 185, 186, 187, 188, 189, 190, 191, 192, 193, 194, 195, 196, 197, 198, 199, 200, 201, 202, 203, 204, 205, 206, 207, 208, 209, 210, 211, 212, 213, 214, 215, 216, 217, 218, 219, 220, 221, 222, 223, 224, 225, 226, 227, 228, 229, 230, 231, 232, 310, 311, 312, 313, 314, 315, 316, 317, 318, 319, 320, 321, 322, 323, 324, 325, 326, 293, 294, 295, 296, 297, 298, 299, 300, 301, 302, 303, 304, 305, 306, 307, 308, 309] rfl (by decide +kernel)
set_option maxRecDepth 20000 in
theorem gX9_load_X4_readText : GoodIn wsX9_load (wsV RX9 71 RX4 yX4_readText wsX4_readText) := goodIn_app (goodIn_r _ [14, 15, 16, 17] rfl (by decide +kernel)) ggX9_load_X4_readText
set_option maxRecDepth 20000 in
theorem ggX9_load_X0_openWith : GoodIn wsX9_load wsX0_openWith := goodIn_r _ [237, 238, 239, 240, 241, 242, 243, 244, 245, 246, 247, 248, 249, 250, 251, 252, 253, 254, 255, 256, 257, 258, 259, 260, 261, 262, 263, 264, 265, 266, 267, 236, 268, 269, 270, 271, 272, 273, 274, 275, 276, 277, 327, 328, 329, 330, 331, 332, 333, 334, 335, 336, 337, 338, 339, 340, 341, 342, 343, 344, 345, 346, 293, 294, 295, 296, 297, 298, 299, 300, 301, 302, 303, 304, 305, 306, 307, 308, 309, 347, 348, 349] rfl (by decide +kernel)
set_option maxRecDepth 20000 in
theorem gX9_load_X0_openWith : GoodIn wsX9_load (wsV RX9 56 RX0 yX0_openWith wsX0_openWith) := goodIn_app (goodIn_r _ [233, 234, 235, 236] rfl (by decide +kernel)) ggX9_load_X0_openWith
set_option maxRecDepth 20000 in
theorem ggX9_load_X1_forgetAll : GoodIn wsX9_load wsX1_forgetAll := goodIn_r _ [282, 283, 350, 351, 352] rfl (by decide +kernel)
set_option maxRecDepth 20000 in
theorem gX9_load_X1_forgetAll : GoodIn wsX9_load (wsV RX9 75 RX1 yX1_forgetAll wsX1_forgetAll) := goodIn_app (goodIn_r _ [278, 279, 280, 281] rfl (by decide +kernel)) ggX9_load_X1_forgetAll
set_option maxRecDepth 20000 in
theorem ggX9_written_J4_length_8abf5 : GoodIn wsX9_written wsJ4_length_8abf5 := goodIn_r _ [6, 7, 8, 9, 10, 11, 12, 13, 62, 63, 64, 65] rfl (by decide +kernel)
set_option maxRecDepth 20000 in
theorem gX9_written_J4_length_8abf5 : GoodIn wsX9_written (wsV RX9 340 RJ4 yJ4_length_8abf5 wsJ4_length_8abf5) := goodIn_app (goodIn_r _ [2, 3, 4, 5] rfl (by decide +kernel)) ggX9_written_J4_length_8abf5
set_option maxRecDepth 20000 in
theorem ggX9_written_X9_needIndex : GoodIn wsX9_written wsX9_needIndex := goodIn_ca (goodIn_r _ [17, 18, 19] rfl (by decide +kernel)) (goodIn_sub (fun _ h => List.mem_cons_of_mem _ (List.mem_append_right _ h)) (by decide +kernel))
set_option maxRecDepth 20000 in
theorem gX9_written_X9_needIndex : GoodIn wsX9_written (va_wsS RX9 196 yX9_needIndex wsX9_needIndex) := goodIn_app (goodIn_r _ [14, 15, 16] rfl (by decide +kernel)) ggX9_written_X9_needIndex
set_option maxRecDepth 20000 in
theorem ggJ0_length_8abf5_J0_coder_7d493 : GoodIn wsJ0_length_8abf5 wsJ0_coder_7d493 := goodIn_r _ [6, 7, 8, 9, 10, 11, 12] rfl (by decide +kernel)
set_option maxRecDepth 20000 in
theorem gJ0_length_8abf5_J0_coder_7d493 : GoodIn wsJ0_length_8abf5 (wsV RJ0 335 RJ0 yJ0_coder_7d493 wsJ0_coder_7d493) := goodIn_app (goodIn_r _ [2, 3, 4, 5] rfl (by decide +kernel)) ggJ0_length_8abf5_J0_coder_7d493
set_option maxRecDepth 20000 in
theorem ggJ0_charAt_5068e_J0_isLatin1_aae02 : GoodIn wsJ0_charAt_5068e wsJ0_isLatin1_aae02 := goodIn_r _ [6, 7, 8, 38, 39, 40, 41] rfl (by decide +kernel)
set_option maxRecDepth 20000 in
theorem gJ0_charAt_5068e_J0_isLatin1_aae02 : GoodIn wsJ0_charAt_5068e (wsV RJ0 492 RJ0 yJ0_isLatin1_aae02 wsJ0_isLatin1_aae02) := goodIn_app (goodIn_r _ [2, 3, 4, 5] rfl (by decide +kernel)) ggJ0_charAt_5068e_J0_isLatin1_aae02
set_option maxRecDepth 20000 in
theorem ggJ0_charAt_5068e_J1_charAt_3b067 : GoodIn wsJ0_charAt_5068e wsJ1_charAt_3b067 := goodIn_r _ [12, 13, 14, 5, 15, 16, 17, 18, 19, 20] rfl (by decide +kernel)
set_option maxRecDepth 20000 in
theorem gJ0_charAt_5068e_J1_charAt_3b067 : GoodIn wsJ0_charAt_5068e (va_wsS RJ0 495 yJ1_charAt_3b067 wsJ1_charAt_3b067) := goodIn_app (goodIn_r _ [9, 10, 11] rfl (by decide +kernel)) ggJ0_charAt_5068e_J1_charAt_3b067
set_option maxRecDepth 20000 in
theorem ggJ0_checkIndex_df160_J3_checkIndex_8e157 : GoodIn wsJ0_checkIndex_df160 wsJ3_checkIndex_8e157 := goodIn_r _ [5] rfl (by decide +kernel)
set_option maxRecDepth 20000 in
theorem gJ0_checkIndex_df160_J3_checkIndex_8e157 : GoodIn wsJ0_checkIndex_df160 (va_wsS RJ0 1059 yJ3_checkIndex_8e157 wsJ3_checkIndex_8e157) := goodIn_app (goodIn_r _ [2, 3, 4] rfl (by decide +kernel)) ggJ0_checkIndex_df160_J3_checkIndex_8e157
set_option maxRecDepth 20000 in
theorem ggJ4_length_8abf5_J5_length_8abf5 : GoodIn wsJ4_length_8abf5 wsJ5_length_8abf5 := goodIn_r _ [6, 7, 8, 9, 10, 11] rfl (by decide +kernel)
set_option maxRecDepth 20000 in
theorem gJ4_length_8abf5_J5_length_8abf5_s343 : GoodIn wsJ4_length_8abf5 (va_wsSU RJ4 343 yJ5_length_8abf5 wsJ5_length_8abf5) := goodIn_app (goodIn_of _ (by decide +kernel)) ggJ4_length_8abf5_J5_length_8abf5
set_option maxRecDepth 20000 in
theorem ggJ1_charAt_3b067_J0_checkIndex_df160 : GoodIn wsJ1_charAt_3b067 wsJ0_checkIndex_df160 := goodIn_r _ [4, 5, 6, 7, 8, 9] rfl (by decide +kernel)
set_option maxRecDepth 20000 in
theorem gJ1_charAt_3b067_J0_checkIndex_df160 : GoodIn wsJ1_charAt_3b067 (va_wsS RJ1 9 yJ0_checkIndex_df160 wsJ0_checkIndex_df160) := goodIn_app (goodIn_r _ [1, 2, 3] rfl (by decide +kernel)) ggJ1_charAt_3b067_J0_checkIndex_df160
theorem dJ0_charAt_5068e_0 : decode cJ0_charAt_5068e 0 = .ok (.aload_n 0, 1) := by decide +kernel
theorem dJ0_charAt_5068e_1 : decode cJ0_charAt_5068e 1 = .ok (.invokevirtual 492, 3) := by decide +kernel
theorem dJ0_charAt_5068e_4 : decode cJ0_charAt_5068e 4 = .ok (.ifCond .eq 12, 3) := by decide +kernel
theorem dJ0_charAt_5068e_7 : decode cJ0_charAt_5068e 7 = .ok (.aload_n 0, 1) := by decide +kernel
theorem dJ0_charAt_5068e_8 : decode cJ0_charAt_5068e 8 = .ok (.getfield 9, 3) := by decide +kernel
theorem dJ0_charAt_5068e_11 : decode cJ0_charAt_5068e 11 = .ok (.iload_n 1, 1) := by decide +kernel
theorem dJ0_charAt_5068e_12 : decode cJ0_charAt_5068e 12 = .ok (.invokestatic 495, 3) := by decide +kernel
theorem dJ0_charAt_5068e_15 : decode cJ0_charAt_5068e 15 = .ok (.ireturn, 1) := by decide +kernel
theorem dJ0_checkIndex_df160_0 : decode cJ0_checkIndex_df160 0 = .ok (.iload_n 0, 1) := by decide +kernel
theorem dJ0_checkIndex_df160_1 : decode cJ0_checkIndex_df160 1 = .ok (.iload_n 1, 1) := by decide +kernel
theorem dJ0_checkIndex_df160_2 : decode cJ0_checkIndex_df160 2 = .ok (.getstatic 1053, 3) := by decide +kernel
theorem dJ0_checkIndex_df160_5 : decode cJ0_checkIndex_df160 5 = .ok (.invokestatic 1059, 3) := by decide +kernel
theorem dJ0_checkIndex_df160_8 : decode cJ0_checkIndex_df160 8 = .ok (.pop, 1) := by decide +kernel
theorem dJ0_checkIndex_df160_9 : decode cJ0_checkIndex_df160 9 = .ok (.return_, 1) := by decide +kernel
theorem dJ0_coder_7d493_0 : decode cJ0_coder_7d493 0 = .ok (.getstatic 38, 3) := by decide +kernel
theorem dJ0_coder_7d493_3 : decode cJ0_coder_7d493 3 = .ok (.ifCond .eq 10, 3) := by decide +kernel
theorem dJ0_coder_7d493_6 : decode cJ0_coder_7d493 6 = .ok (.aload_n 0, 1) := by decide +kernel
theorem dJ0_coder_7d493_7 : decode cJ0_coder_7d493 7 = .ok (.getfield 15, 3) := by decide +kernel
theorem dJ0_coder_7d493_10 : decode cJ0_coder_7d493 10 = .ok (.goto 4, 3) := by decide +kernel
theorem dJ0_coder_7d493_14 : decode cJ0_coder_7d493 14 = .ok (.ireturn, 1) := by decide +kernel
theorem dJ0_isLatin1_aae02_0 : decode cJ0_isLatin1_aae02 0 = .ok (.getstatic 38, 3) := by decide +kernel
theorem dJ0_isLatin1_aae02_3 : decode cJ0_isLatin1_aae02 3 = .ok (.ifCond .eq 14, 3) := by decide +kernel
theorem dJ0_isLatin1_aae02_6 : decode cJ0_isLatin1_aae02 6 = .ok (.aload_n 0, 1) := by decide +kernel
theorem dJ0_isLatin1_aae02_7 : decode cJ0_isLatin1_aae02 7 = .ok (.getfield 15, 3) := by decide +kernel
theorem dJ0_isLatin1_aae02_10 : decode cJ0_isLatin1_aae02 10 = .ok (.ifCond .ne 7, 3) := by decide +kernel
theorem dJ0_isLatin1_aae02_13 : decode cJ0_isLatin1_aae02 13 = .ok (.iconst 1, 1) := by decide +kernel
theorem dJ0_isLatin1_aae02_14 : decode cJ0_isLatin1_aae02 14 = .ok (.goto 4, 3) := by decide +kernel
theorem dJ0_isLatin1_aae02_18 : decode cJ0_isLatin1_aae02 18 = .ok (.ireturn, 1) := by decide +kernel
theorem dJ0_length_8abf5_0 : decode cJ0_length_8abf5 0 = .ok (.aload_n 0, 1) := by decide +kernel
theorem dJ0_length_8abf5_1 : decode cJ0_length_8abf5 1 = .ok (.getfield 9, 3) := by decide +kernel
theorem dJ0_length_8abf5_4 : decode cJ0_length_8abf5 4 = .ok (.arraylength, 1) := by decide +kernel
theorem dJ0_length_8abf5_5 : decode cJ0_length_8abf5 5 = .ok (.aload_n 0, 1) := by decide +kernel
theorem dJ0_length_8abf5_6 : decode cJ0_length_8abf5 6 = .ok (.invokevirtual 335, 3) := by decide +kernel
theorem dJ0_length_8abf5_9 : decode cJ0_length_8abf5 9 = .ok (.ishr, 1) := by decide +kernel
theorem dJ0_length_8abf5_10 : decode cJ0_length_8abf5 10 = .ok (.ireturn, 1) := by decide +kernel
theorem dJ1_charAt_3b067_0 : decode cJ1_charAt_3b067 0 = .ok (.iload_n 1, 1) := by decide +kernel
theorem dJ1_charAt_3b067_1 : decode cJ1_charAt_3b067 1 = .ok (.aload_n 0, 1) := by decide +kernel
theorem dJ1_charAt_3b067_2 : decode cJ1_charAt_3b067 2 = .ok (.arraylength, 1) := by decide +kernel
theorem dJ1_charAt_3b067_3 : decode cJ1_charAt_3b067 3 = .ok (.invokestatic 9, 3) := by decide +kernel
theorem dJ1_charAt_3b067_6 : decode cJ1_charAt_3b067 6 = .ok (.aload_n 0, 1) := by decide +kernel
theorem dJ1_charAt_3b067_7 : decode cJ1_charAt_3b067 7 = .ok (.iload_n 1, 1) := by decide +kernel
theorem dJ1_charAt_3b067_8 : decode cJ1_charAt_3b067 8 = .ok (.baload, 1) := by decide +kernel
theorem dJ1_charAt_3b067_9 : decode cJ1_charAt_3b067 9 = .ok (.sipush 255, 3) := by decide +kernel
theorem dJ1_charAt_3b067_12 : decode cJ1_charAt_3b067 12 = .ok (.iand, 1) := by decide +kernel
theorem dJ1_charAt_3b067_13 : decode cJ1_charAt_3b067 13 = .ok (.i2c, 1) := by decide +kernel
theorem dJ1_charAt_3b067_14 : decode cJ1_charAt_3b067 14 = .ok (.ireturn, 1) := by decide +kernel
theorem dJ3_checkIndex_8e157_0 : decode cJ3_checkIndex_8e157 0 = .ok (.iload_n 0, 1) := by decide +kernel
theorem dJ3_checkIndex_8e157_1 : decode cJ3_checkIndex_8e157 1 = .ok (.ifCond .lt 8, 3) := by decide +kernel
theorem dJ3_checkIndex_8e157_4 : decode cJ3_checkIndex_8e157 4 = .ok (.iload_n 0, 1) := by decide +kernel
theorem dJ3_checkIndex_8e157_5 : decode cJ3_checkIndex_8e157 5 = .ok (.iload_n 1, 1) := by decide +kernel
theorem dJ3_checkIndex_8e157_6 : decode cJ3_checkIndex_8e157 6 = .ok (.if_icmp .lt 10, 3) := by decide +kernel
theorem dJ3_checkIndex_8e157_16 : decode cJ3_checkIndex_8e157 16 = .ok (.iload_n 0, 1) := by decide +kernel
theorem dJ3_checkIndex_8e157_17 : decode cJ3_checkIndex_8e157 17 = .ok (.ireturn, 1) := by decide +kernel
theorem dJ4_length_8abf5_0 : decode cJ4_length_8abf5 0 = .ok (.aload_n 0, 1) := by decide +kernel
theorem dJ4_length_8abf5_1 : decode cJ4_length_8abf5 1 = .ok (.invokespecial 343, 3) := by decide +kernel
theorem dJ4_length_8abf5_4 : decode cJ4_length_8abf5 4 = .ok (.ireturn, 1) := by decide +kernel
theorem dJ5_length_8abf5_0 : decode cJ5_length_8abf5 0 = .ok (.aload_n 0, 1) := by decide +kernel
theorem dJ5_length_8abf5_1 : decode cJ5_length_8abf5 1 = .ok (.getfield 79, 3) := by decide +kernel
theorem dJ5_length_8abf5_4 : decode cJ5_length_8abf5 4 = .ok (.ireturn, 1) := by decide +kernel
theorem dX1_forgetAll_0 : decode cX1_forgetAll 0 = .ok (.aload_n 0, 1) := by decide +kernel
theorem dX1_forgetAll_1 : decode cX1_forgetAll 1 = .ok (.iconst 0, 1) := by decide +kernel
theorem dX1_forgetAll_2 : decode cX1_forgetAll 2 = .ok (.putfield 28, 3) := by decide +kernel
theorem dX1_forgetAll_5 : decode cX1_forgetAll 5 = .ok (.return_, 1) := by decide +kernel
theorem dX3_clear_0 : decode cX3_clear 0 = .ok (.aload_n 0, 1) := by decide +kernel
theorem dX3_clear_1 : decode cX3_clear 1 = .ok (.iconst 0, 1) := by decide +kernel
theorem dX3_clear_2 : decode cX3_clear 2 = .ok (.putfield 44, 3) := by decide +kernel
theorem dX3_clear_5 : decode cX3_clear 5 = .ok (.aload_n 0, 1) := by decide +kernel
theorem dX3_clear_6 : decode cX3_clear 6 = .ok (.sipush 365, 3) := by decide +kernel
theorem dX3_clear_9 : decode cX3_clear 9 = .ok (.putfield 9, 3) := by decide +kernel
theorem dX3_clear_12 : decode cX3_clear 12 = .ok (.aload_n 0, 1) := by decide +kernel
theorem dX3_clear_13 : decode cX3_clear 13 = .ok (.iconst 0, 1) := by decide +kernel
theorem dX3_clear_14 : decode cX3_clear 14 = .ok (.putfield 47, 3) := by decide +kernel
theorem dX3_clear_17 : decode cX3_clear 17 = .ok (.aload_n 0, 1) := by decide +kernel
theorem dX3_clear_18 : decode cX3_clear 18 = .ok (.iconst 0, 1) := by decide +kernel
theorem dX3_clear_19 : decode cX3_clear 19 = .ok (.putfield 50, 3) := by decide +kernel
theorem dX3_clear_22 : decode cX3_clear 22 = .ok (.aload_n 0, 1) := by decide +kernel
theorem dX3_clear_23 : decode cX3_clear 23 = .ok (.iconst 0, 1) := by decide +kernel
theorem dX3_clear_24 : decode cX3_clear 24 = .ok (.putfield 53, 3) := by decide +kernel
theorem dX3_clear_27 : decode cX3_clear 27 = .ok (.aload_n 0, 1) := by decide +kernel
theorem dX3_clear_28 : decode cX3_clear 28 = .ok (.iconst 0, 1) := by decide +kernel
theorem dX3_clear_29 : decode cX3_clear 29 = .ok (.putfield 56, 3) := by decide +kernel
theorem dX3_clear_32 : decode cX3_clear 32 = .ok (.aload_n 0, 1) := by decide +kernel
theorem dX3_clear_33 : decode cX3_clear 33 = .ok (.iconst 0, 1) := by decide +kernel
theorem dX3_clear_34 : decode cX3_clear 34 = .ok (.putfield 59, 3) := by decide +kernel
theorem dX3_clear_37 : decode cX3_clear 37 = .ok (.aload_n 0, 1) := by decide +kernel
theorem dX3_clear_38 : decode cX3_clear 38 = .ok (.iconst 0, 1) := by decide +kernel
theorem dX3_clear_39 : decode cX3_clear 39 = .ok (.putfield 62, 3) := by decide +kernel
theorem dX3_clear_42 : decode cX3_clear 42 = .ok (.return_, 1) := by decide +kernel
theorem dX4_lookAt_0 : decode cX4_lookAt 0 = .ok (.iload_n 1, 1) := by decide +kernel
theorem dX4_lookAt_1 : decode cX4_lookAt 1 = .ok (.ifCond .lt 58, 3) := by decide +kernel
theorem dX4_lookAt_4 : decode cX4_lookAt 4 = .ok (.iload_n 1, 1) := by decide +kernel
theorem dX4_lookAt_5 : decode cX4_lookAt 5 = .ok (.aload_n 0, 1) := by decide +kernel
theorem dX4_lookAt_6 : decode cX4_lookAt 6 = .ok (.getfield 12, 3) := by decide +kernel
theorem dX4_lookAt_9 : decode cX4_lookAt 9 = .ok (.getfield 67, 3) := by decide +kernel
theorem dX4_lookAt_12 : decode cX4_lookAt 12 = .ok (.if_icmp .ge 47, 3) := by decide +kernel
theorem dX4_lookAt_15 : decode cX4_lookAt 15 = .ok (.aload_n 0, 1) := by decide +kernel
theorem dX4_lookAt_16 : decode cX4_lookAt 16 = .ok (.iload_n 1, 1) := by decide +kernel
theorem dX4_lookAt_17 : decode cX4_lookAt 17 = .ok (.putfield 70, 3) := by decide +kernel
theorem dX4_lookAt_20 : decode cX4_lookAt 20 = .ok (.aload_n 0, 1) := by decide +kernel
theorem dX4_lookAt_21 : decode cX4_lookAt 21 = .ok (.aload_n 0, 1) := by decide +kernel
theorem dX4_lookAt_22 : decode cX4_lookAt 22 = .ok (.getfield 12, 3) := by decide +kernel
theorem dX4_lookAt_25 : decode cX4_lookAt 25 = .ok (.getfield 73, 3) := by decide +kernel
theorem dX4_lookAt_28 : decode cX4_lookAt 28 = .ok (.iload_n 1, 1) := by decide +kernel
theorem dX4_lookAt_29 : decode cX4_lookAt 29 = .ok (.iaload, 1) := by decide +kernel
theorem dX4_lookAt_30 : decode cX4_lookAt 30 = .ok (.putfield 42, 3) := by decide +kernel
theorem dX4_lookAt_33 : decode cX4_lookAt 33 = .ok (.aload_n 0, 1) := by decide +kernel
theorem dX4_lookAt_34 : decode cX4_lookAt 34 = .ok (.aload_n 0, 1) := by decide +kernel
theorem dX4_lookAt_35 : decode cX4_lookAt 35 = .ok (.getfield 12, 3) := by decide +kernel
theorem dX4_lookAt_38 : decode cX4_lookAt 38 = .ok (.getfield 77, 3) := by decide +kernel
theorem dX4_lookAt_41 : decode cX4_lookAt 41 = .ok (.iload_n 1, 1) := by decide +kernel
theorem dX4_lookAt_42 : decode cX4_lookAt 42 = .ok (.iaload, 1) := by decide +kernel
theorem dX4_lookAt_43 : decode cX4_lookAt 43 = .ok (.putfield 80, 3) := by decide +kernel
theorem dX4_lookAt_46 : decode cX4_lookAt 46 = .ok (.aload_n 0, 1) := by decide +kernel
theorem dX4_lookAt_47 : decode cX4_lookAt 47 = .ok (.aload_n 0, 1) := by decide +kernel
theorem dX4_lookAt_48 : decode cX4_lookAt 48 = .ok (.getfield 12, 3) := by decide +kernel
theorem dX4_lookAt_51 : decode cX4_lookAt 51 = .ok (.getfield 83, 3) := by decide +kernel
theorem dX4_lookAt_54 : decode cX4_lookAt 54 = .ok (.iload_n 1, 1) := by decide +kernel
theorem dX4_lookAt_55 : decode cX4_lookAt 55 = .ok (.laload, 1) := by decide +kernel
theorem dX4_lookAt_56 : decode cX4_lookAt 56 = .ok (.putfield 87, 3) := by decide +kernel
theorem dX4_lookAt_59 : decode cX4_lookAt 59 = .ok (.return_, 1) := by decide +kernel
theorem dX4_readText_0 : decode cX4_readText 0 = .ok (.aload_n 0, 1) := by decide +kernel
theorem dX4_readText_1 : decode cX4_readText 1 = .ok (.getfield 12, 3) := by decide +kernel
theorem dX4_readText_4 : decode cX4_readText 4 = .ok (.aload_n 1, 1) := by decide +kernel
theorem dX4_readText_5 : decode cX4_readText 5 = .ok (.iload_n 2, 1) := by decide +kernel
theorem dX4_readText_6 : decode cX4_readText 6 = .ok (.invokevirtual 29, 3) := by decide +kernel
theorem dX4_readText_9 : decode cX4_readText 9 = .ok (.aload_n 0, 1) := by decide +kernel
theorem dX4_readText_10 : decode cX4_readText 10 = .ok (.aload_n 3, 1) := by decide +kernel
theorem dX4_readText_11 : decode cX4_readText 11 = .ok (.putfield 25, 3) := by decide +kernel
theorem dX4_readText_14 : decode cX4_readText 14 = .ok (.aload_n 0, 1) := by decide +kernel
theorem dX4_readText_15 : decode cX4_readText 15 = .ok (.getfield 25, 3) := by decide +kernel
theorem dX4_readText_18 : decode cX4_readText 18 = .ok (.invokevirtual 33, 3) := by decide +kernel
theorem dX4_readText_21 : decode cX4_readText 21 = .ok (.aload_n 0, 1) := by decide +kernel
theorem dX4_readText_22 : decode cX4_readText 22 = .ok (.iconst 0, 1) := by decide +kernel
theorem dX4_readText_23 : decode cX4_readText 23 = .ok (.putfield 18, 3) := by decide +kernel
theorem dX4_readText_26 : decode cX4_readText 26 = .ok (.aload_n 0, 1) := by decide +kernel
theorem dX4_readText_27 : decode cX4_readText 27 = .ok (.iconst (-1), 1) := by decide +kernel
theorem dX4_readText_28 : decode cX4_readText 28 = .ok (.putfield 22, 3) := by decide +kernel
theorem dX4_readText_31 : decode cX4_readText 31 = .ok (.aload_n 0, 1) := by decide +kernel
theorem dX4_readText_32 : decode cX4_readText 32 = .ok (.iconst 0, 1) := by decide +kernel
theorem dX4_readText_33 : decode cX4_readText 33 = .ok (.invokevirtual 38, 3) := by decide +kernel
theorem dX4_readText_36 : decode cX4_readText 36 = .ok (.iconst 1, 1) := by decide +kernel
theorem dX4_readText_37 : decode cX4_readText 37 = .ok (.istore 4, 2) := by decide +kernel
theorem dX4_readText_39 : decode cX4_readText 39 = .ok (.iconst 0, 1) := by decide +kernel
theorem dX4_readText_40 : decode cX4_readText 40 = .ok (.istore 5, 2) := by decide +kernel
theorem dX4_readText_42 : decode cX4_readText 42 = .ok (.iload 4, 2) := by decide +kernel
theorem dX4_readText_44 : decode cX4_readText 44 = .ok (.ifCond .eq 114, 3) := by decide +kernel
theorem dX4_readText_47 : decode cX4_readText 47 = .ok (.iload 5, 2) := by decide +kernel
theorem dX4_readText_49 : decode cX4_readText 49 = .ok (.sipush 700, 3) := by decide +kernel
theorem dX4_readText_52 : decode cX4_readText 52 = .ok (.if_icmp .ge 106, 3) := by decide +kernel
theorem dX4_readText_55 : decode cX4_readText 55 = .ok (.aload_n 0, 1) := by decide +kernel
theorem dX4_readText_56 : decode cX4_readText 56 = .ok (.getfield 42, 3) := by decide +kernel
theorem dX4_readText_59 : decode cX4_readText 59 = .ok (.iconst 1, 1) := by decide +kernel
theorem dX4_readText_60 : decode cX4_readText 60 = .ok (.if_icmp .eq 98, 3) := by decide +kernel
theorem dX4_readText_63 : decode cX4_readText 63 = .ok (.aload_n 0, 1) := by decide +kernel
theorem dX4_readText_64 : decode cX4_readText 64 = .ok (.getfield 42, 3) := by decide +kernel
theorem dX4_readText_67 : decode cX4_readText 67 = .ok (.tableswitch 78 8 12 #[33, 42, 51, 60, 69], 33) := by decide +kernel
theorem dX4_readText_100 : decode cX4_readText 100 = .ok (.aload_n 0, 1) := by decide +kernel
theorem dX4_readText_101 : decode cX4_readText 101 = .ok (.invokevirtual 47, 3) := by decide +kernel
theorem dX4_readText_104 : decode cX4_readText 104 = .ok (.istore 4, 2) := by decide +kernel
theorem dX4_readText_106 : decode cX4_readText 106 = .ok (.goto 46, 3) := by decide +kernel
theorem dX4_readText_109 : decode cX4_readText 109 = .ok (.aload_n 0, 1) := by decide +kernel
theorem dX4_readText_110 : decode cX4_readText 110 = .ok (.invokevirtual 51, 3) := by decide +kernel
theorem dX4_readText_113 : decode cX4_readText 113 = .ok (.istore 4, 2) := by decide +kernel
theorem dX4_readText_115 : decode cX4_readText 115 = .ok (.goto 37, 3) := by decide +kernel
theorem dX4_readText_118 : decode cX4_readText 118 = .ok (.aload_n 0, 1) := by decide +kernel
theorem dX4_readText_119 : decode cX4_readText 119 = .ok (.invokevirtual 54, 3) := by decide +kernel
theorem dX4_readText_122 : decode cX4_readText 122 = .ok (.istore 4, 2) := by decide +kernel
theorem dX4_readText_124 : decode cX4_readText 124 = .ok (.goto 28, 3) := by decide +kernel
theorem dX4_readText_127 : decode cX4_readText 127 = .ok (.aload_n 0, 1) := by decide +kernel
theorem dX4_readText_128 : decode cX4_readText 128 = .ok (.invokevirtual 57, 3) := by decide +kernel
theorem dX4_readText_131 : decode cX4_readText 131 = .ok (.istore 4, 2) := by decide +kernel
theorem dX4_readText_133 : decode cX4_readText 133 = .ok (.goto 19, 3) := by decide +kernel
theorem dX4_readText_136 : decode cX4_readText 136 = .ok (.aload_n 0, 1) := by decide +kernel
theorem dX4_readText_137 : decode cX4_readText 137 = .ok (.invokevirtual 60, 3) := by decide +kernel
theorem dX4_readText_140 : decode cX4_readText 140 = .ok (.istore 4, 2) := by decide +kernel
theorem dX4_readText_142 : decode cX4_readText 142 = .ok (.goto 10, 3) := by decide +kernel
theorem dX4_readText_145 : decode cX4_readText 145 = .ok (.aload_n 0, 1) := by decide +kernel
theorem dX4_readText_146 : decode cX4_readText 146 = .ok (.iconst 2, 1) := by decide +kernel
theorem dX4_readText_147 : decode cX4_readText 147 = .ok (.invokevirtual 63, 3) := by decide +kernel
theorem dX4_readText_150 : decode cX4_readText 150 = .ok (.istore 4, 2) := by decide +kernel
theorem dX4_readText_152 : decode cX4_readText 152 = .ok (.iinc 5 1, 3) := by decide +kernel
theorem dX4_readText_155 : decode cX4_readText 155 = .ok (.goto (-113), 3) := by decide +kernel
theorem dX4_readText_158 : decode cX4_readText 158 = .ok (.iload 4, 2) := by decide +kernel
theorem dX4_readText_160 : decode cX4_readText 160 = .ok (.ireturn, 1) := by decide +kernel
theorem dX5_add_0 : decode cX5_add 0 = .ok (.aload_n 0, 1) := by decide +kernel
theorem dX5_add_1 : decode cX5_add 1 = .ok (.getfield 22, 3) := by decide +kernel
theorem dX5_add_4 : decode cX5_add 4 = .ok (.aload_n 0, 1) := by decide +kernel
theorem dX5_add_5 : decode cX5_add 5 = .ok (.getfield 9, 3) := by decide +kernel
theorem dX5_add_8 : decode cX5_add 8 = .ok (.arraylength, 1) := by decide +kernel
theorem dX5_add_9 : decode cX5_add 9 = .ok (.if_icmp .ge 43, 3) := by decide +kernel
theorem dX5_add_12 : decode cX5_add 12 = .ok (.aload_n 0, 1) := by decide +kernel
theorem dX5_add_13 : decode cX5_add 13 = .ok (.getfield 9, 3) := by decide +kernel
theorem dX5_add_16 : decode cX5_add 16 = .ok (.aload_n 0, 1) := by decide +kernel
theorem dX5_add_17 : decode cX5_add 17 = .ok (.getfield 22, 3) := by decide +kernel
theorem dX5_add_20 : decode cX5_add 20 = .ok (.iload_n 1, 1) := by decide +kernel
theorem dX5_add_21 : decode cX5_add 21 = .ok (.iastore, 1) := by decide +kernel
theorem dX5_add_22 : decode cX5_add 22 = .ok (.aload_n 0, 1) := by decide +kernel
theorem dX5_add_23 : decode cX5_add 23 = .ok (.getfield 15, 3) := by decide +kernel
theorem dX5_add_26 : decode cX5_add 26 = .ok (.aload_n 0, 1) := by decide +kernel
theorem dX5_add_27 : decode cX5_add 27 = .ok (.getfield 22, 3) := by decide +kernel
theorem dX5_add_30 : decode cX5_add 30 = .ok (.iload_n 2, 1) := by decide +kernel
theorem dX5_add_31 : decode cX5_add 31 = .ok (.iastore, 1) := by decide +kernel
theorem dX5_add_32 : decode cX5_add 32 = .ok (.aload_n 0, 1) := by decide +kernel
theorem dX5_add_33 : decode cX5_add 33 = .ok (.getfield 18, 3) := by decide +kernel
theorem dX5_add_36 : decode cX5_add 36 = .ok (.aload_n 0, 1) := by decide +kernel
theorem dX5_add_37 : decode cX5_add 37 = .ok (.getfield 22, 3) := by decide +kernel
theorem dX5_add_40 : decode cX5_add 40 = .ok (.lload_n 3, 1) := by decide +kernel
theorem dX5_add_41 : decode cX5_add 41 = .ok (.lastore, 1) := by decide +kernel
theorem dX5_add_42 : decode cX5_add 42 = .ok (.aload_n 0, 1) := by decide +kernel
theorem dX5_add_43 : decode cX5_add 43 = .ok (.dup, 1) := by decide +kernel
theorem dX5_add_44 : decode cX5_add 44 = .ok (.getfield 22, 3) := by decide +kernel
theorem dX5_add_47 : decode cX5_add 47 = .ok (.iconst 1, 1) := by decide +kernel
theorem dX5_add_48 : decode cX5_add 48 = .ok (.iadd, 1) := by decide +kernel
theorem dX5_add_49 : decode cX5_add 49 = .ok (.putfield 22, 3) := by decide +kernel
theorem dX5_add_52 : decode cX5_add 52 = .ok (.return_, 1) := by decide +kernel
theorem dX5_markKeywords_0 : decode cX5_markKeywords 0 = .ok (.bipush 8, 2) := by decide +kernel
theorem dX5_markKeywords_2 : decode cX5_markKeywords 2 = .ok (.istore_n 1, 1) := by decide +kernel
theorem dX5_markKeywords_3 : decode cX5_markKeywords 3 = .ok (.iload_n 1, 1) := by decide +kernel
theorem dX5_markKeywords_4 : decode cX5_markKeywords 4 = .ok (.bipush 22, 2) := by decide +kernel
theorem dX5_markKeywords_6 : decode cX5_markKeywords 6 = .ok (.if_icmp .gt 66, 3) := by decide +kernel
theorem dX5_markKeywords_9 : decode cX5_markKeywords 9 = .ok (.iload_n 1, 1) := by decide +kernel
theorem dX5_markKeywords_10 : decode cX5_markKeywords 10 = .ok (.invokestatic 55, 3) := by decide +kernel
theorem dX5_markKeywords_13 : decode cX5_markKeywords 13 = .ok (.invokestatic 59, 3) := by decide +kernel
theorem dX5_markKeywords_16 : decode cX5_markKeywords 16 = .ok (.lstore_n 2, 1) := by decide +kernel
theorem dX5_markKeywords_17 : decode cX5_markKeywords 17 = .ok (.iconst 0, 1) := by decide +kernel
theorem dX5_markKeywords_18 : decode cX5_markKeywords 18 = .ok (.istore 4, 2) := by decide +kernel
theorem dX5_markKeywords_20 : decode cX5_markKeywords 20 = .ok (.iload 4, 2) := by decide +kernel
theorem dX5_markKeywords_22 : decode cX5_markKeywords 22 = .ok (.aload_n 0, 1) := by decide +kernel
theorem dX5_markKeywords_23 : decode cX5_markKeywords 23 = .ok (.getfield 22, 3) := by decide +kernel
theorem dX5_markKeywords_26 : decode cX5_markKeywords 26 = .ok (.if_icmp .ge 40, 3) := by decide +kernel
theorem dX5_markKeywords_29 : decode cX5_markKeywords 29 = .ok (.aload_n 0, 1) := by decide +kernel
theorem dX5_markKeywords_30 : decode cX5_markKeywords 30 = .ok (.getfield 9, 3) := by decide +kernel
theorem dX5_markKeywords_33 : decode cX5_markKeywords 33 = .ok (.iload 4, 2) := by decide +kernel
theorem dX5_markKeywords_35 : decode cX5_markKeywords 35 = .ok (.iaload, 1) := by decide +kernel
theorem dX5_markKeywords_36 : decode cX5_markKeywords 36 = .ok (.iconst 4, 1) := by decide +kernel
theorem dX5_markKeywords_37 : decode cX5_markKeywords 37 = .ok (.if_icmp .ne 23, 3) := by decide +kernel
theorem dX5_markKeywords_40 : decode cX5_markKeywords 40 = .ok (.aload_n 0, 1) := by decide +kernel
theorem dX5_markKeywords_41 : decode cX5_markKeywords 41 = .ok (.getfield 18, 3) := by decide +kernel
theorem dX5_markKeywords_44 : decode cX5_markKeywords 44 = .ok (.iload 4, 2) := by decide +kernel
theorem dX5_markKeywords_46 : decode cX5_markKeywords 46 = .ok (.laload, 1) := by decide +kernel
theorem dX5_markKeywords_47 : decode cX5_markKeywords 47 = .ok (.lload_n 2, 1) := by decide +kernel
theorem dX5_markKeywords_48 : decode cX5_markKeywords 48 = .ok (.lcmp, 1) := by decide +kernel
theorem dX5_markKeywords_49 : decode cX5_markKeywords 49 = .ok (.ifCond .ne 11, 3) := by decide +kernel
theorem dX5_markKeywords_52 : decode cX5_markKeywords 52 = .ok (.aload_n 0, 1) := by decide +kernel
theorem dX5_markKeywords_53 : decode cX5_markKeywords 53 = .ok (.getfield 9, 3) := by decide +kernel
theorem dX5_markKeywords_56 : decode cX5_markKeywords 56 = .ok (.iload 4, 2) := by decide +kernel
theorem dX5_markKeywords_58 : decode cX5_markKeywords 58 = .ok (.iload_n 1, 1) := by decide +kernel
theorem dX5_markKeywords_59 : decode cX5_markKeywords 59 = .ok (.iastore, 1) := by decide +kernel
theorem dX5_markKeywords_60 : decode cX5_markKeywords 60 = .ok (.iinc 4 1, 3) := by decide +kernel
theorem dX5_markKeywords_63 : decode cX5_markKeywords 63 = .ok (.goto (-43), 3) := by decide +kernel
theorem dX5_markKeywords_66 : decode cX5_markKeywords 66 = .ok (.iinc 1 1, 3) := by decide +kernel
theorem dX5_markKeywords_69 : decode cX5_markKeywords 69 = .ok (.goto (-66), 3) := by decide +kernel
theorem dX5_markKeywords_72 : decode cX5_markKeywords 72 = .ok (.return_, 1) := by decide +kernel
theorem dX5_split_0 : decode cX5_split 0 = .ok (.aload_n 0, 1) := by decide +kernel
theorem dX5_split_1 : decode cX5_split 1 = .ok (.iconst 0, 1) := by decide +kernel
theorem dX5_split_2 : decode cX5_split 2 = .ok (.putfield 22, 3) := by decide +kernel
theorem dX5_split_5 : decode cX5_split 5 = .ok (.iconst 0, 1) := by decide +kernel
theorem dX5_split_6 : decode cX5_split 6 = .ok (.istore_n 3, 1) := by decide +kernel
theorem dX5_split_7 : decode cX5_split 7 = .ok (.iconst 0, 1) := by decide +kernel
theorem dX5_split_8 : decode cX5_split 8 = .ok (.istore 4, 2) := by decide +kernel
theorem dX5_split_10 : decode cX5_split 10 = .ok (.iconst 0, 1) := by decide +kernel
theorem dX5_split_11 : decode cX5_split 11 = .ok (.istore 5, 2) := by decide +kernel
theorem dX5_split_13 : decode cX5_split 13 = .ok (.iload 5, 2) := by decide +kernel
theorem dX5_split_15 : decode cX5_split 15 = .ok (.iload_n 2, 1) := by decide +kernel
theorem dX5_split_16 : decode cX5_split 16 = .ok (.if_icmp .ge 110, 3) := by decide +kernel
theorem dX5_split_19 : decode cX5_split 19 = .ok (.iload 5, 2) := by decide +kernel
theorem dX5_split_21 : decode cX5_split 21 = .ok (.aload_n 1, 1) := by decide +kernel
theorem dX5_split_22 : decode cX5_split 22 = .ok (.arraylength, 1) := by decide +kernel
theorem dX5_split_23 : decode cX5_split 23 = .ok (.if_icmp .ge 103, 3) := by decide +kernel
theorem dX5_split_26 : decode cX5_split 26 = .ok (.aload_n 1, 1) := by decide +kernel
theorem dX5_split_27 : decode cX5_split 27 = .ok (.iload 5, 2) := by decide +kernel
theorem dX5_split_29 : decode cX5_split 29 = .ok (.caload, 1) := by decide +kernel
theorem dX5_split_30 : decode cX5_split 30 = .ok (.invokestatic 28, 3) := by decide +kernel
theorem dX5_split_33 : decode cX5_split 33 = .ok (.istore 6, 2) := by decide +kernel
theorem dX5_split_35 : decode cX5_split 35 = .ok (.iload 6, 2) := by decide +kernel
theorem dX5_split_37 : decode cX5_split 37 = .ok (.iload 4, 2) := by decide +kernel
theorem dX5_split_39 : decode cX5_split 39 = .ok (.if_icmp .ne 19, 3) := by decide +kernel
theorem dX5_split_42 : decode cX5_split 42 = .ok (.iload 6, 2) := by decide +kernel
theorem dX5_split_44 : decode cX5_split 44 = .ok (.iconst 4, 1) := by decide +kernel
theorem dX5_split_45 : decode cX5_split 45 = .ok (.if_icmp .eq 9, 3) := by decide +kernel
theorem dX5_split_48 : decode cX5_split 48 = .ok (.iload 6, 2) := by decide +kernel
theorem dX5_split_50 : decode cX5_split 50 = .ok (.iconst 3, 1) := by decide +kernel
theorem dX5_split_51 : decode cX5_split 51 = .ok (.if_icmp .ne 7, 3) := by decide +kernel
theorem dX5_split_54 : decode cX5_split 54 = .ok (.iconst 1, 1) := by decide +kernel
theorem dX5_split_55 : decode cX5_split 55 = .ok (.goto 4, 3) := by decide +kernel
theorem dX5_split_58 : decode cX5_split 58 = .ok (.iconst 0, 1) := by decide +kernel
theorem dX5_split_59 : decode cX5_split 59 = .ok (.istore 7, 2) := by decide +kernel
theorem dX5_split_61 : decode cX5_split 61 = .ok (.iload 7, 2) := by decide +kernel
theorem dX5_split_63 : decode cX5_split 63 = .ok (.ifCond .eq 9, 3) := by decide +kernel
theorem dX5_split_66 : decode cX5_split 66 = .ok (.iload_n 3, 1) := by decide +kernel
theorem dX5_split_67 : decode cX5_split 67 = .ok (.iconst 1, 1) := by decide +kernel
theorem dX5_split_68 : decode cX5_split 68 = .ok (.iadd, 1) := by decide +kernel
theorem dX5_split_69 : decode cX5_split 69 = .ok (.goto 4, 3) := by decide +kernel
theorem dX5_split_72 : decode cX5_split 72 = .ok (.iconst 1, 1) := by decide +kernel
theorem dX5_split_73 : decode cX5_split 73 = .ok (.istore_n 3, 1) := by decide +kernel
theorem dX5_split_74 : decode cX5_split 74 = .ok (.iload 7, 2) := by decide +kernel
theorem dX5_split_76 : decode cX5_split 76 = .ok (.ifCond .eq 17, 3) := by decide +kernel
theorem dX5_split_79 : decode cX5_split 79 = .ok (.aload_n 0, 1) := by decide +kernel
theorem dX5_split_80 : decode cX5_split 80 = .ok (.iload 6, 2) := by decide +kernel
theorem dX5_split_82 : decode cX5_split 82 = .ok (.aload_n 1, 1) := by decide +kernel
theorem dX5_split_83 : decode cX5_split 83 = .ok (.iload 5, 2) := by decide +kernel
theorem dX5_split_85 : decode cX5_split 85 = .ok (.caload, 1) := by decide +kernel
theorem dX5_split_86 : decode cX5_split 86 = .ok (.iload_n 3, 1) := by decide +kernel
theorem dX5_split_87 : decode cX5_split 87 = .ok (.invokevirtual 32, 3) := by decide +kernel
theorem dX5_split_90 : decode cX5_split 90 = .ok (.goto 26, 3) := by decide +kernel
theorem dX5_split_93 : decode cX5_split 93 = .ok (.iload 6, 2) := by decide +kernel
theorem dX5_split_95 : decode cX5_split 95 = .ok (.ifCond .eq 21, 3) := by decide +kernel
theorem dX5_split_98 : decode cX5_split 98 = .ok (.aload_n 0, 1) := by decide +kernel
theorem dX5_split_99 : decode cX5_split 99 = .ok (.iload 6, 2) := by decide +kernel
theorem dX5_split_101 : decode cX5_split 101 = .ok (.iload 5, 2) := by decide +kernel
theorem dX5_split_103 : decode cX5_split 103 = .ok (.iload 6, 2) := by decide +kernel
theorem dX5_split_105 : decode cX5_split 105 = .ok (.lconst 0, 1) := by decide +kernel
theorem dX5_split_106 : decode cX5_split 106 = .ok (.aload_n 1, 1) := by decide +kernel
theorem dX5_split_107 : decode cX5_split 107 = .ok (.iload 5, 2) := by decide +kernel
theorem dX5_split_109 : decode cX5_split 109 = .ok (.caload, 1) := by decide +kernel
theorem dX5_split_110 : decode cX5_split 110 = .ok (.invokestatic 36, 3) := by decide +kernel
theorem dX5_split_113 : decode cX5_split 113 = .ok (.invokevirtual 40, 3) := by decide +kernel
theorem dX5_split_116 : decode cX5_split 116 = .ok (.iload 6, 2) := by decide +kernel
theorem dX5_split_118 : decode cX5_split 118 = .ok (.istore 4, 2) := by decide +kernel
theorem dX5_split_120 : decode cX5_split 120 = .ok (.iinc 5 1, 3) := by decide +kernel
theorem dX5_split_123 : decode cX5_split 123 = .ok (.goto (-110), 3) := by decide +kernel
theorem dX5_split_126 : decode cX5_split 126 = .ok (.aload_n 0, 1) := by decide +kernel
theorem dX5_split_127 : decode cX5_split 127 = .ok (.iconst 1, 1) := by decide +kernel
theorem dX5_split_128 : decode cX5_split 128 = .ok (.iload_n 2, 1) := by decide +kernel
theorem dX5_split_129 : decode cX5_split 129 = .ok (.lconst 0, 1) := by decide +kernel
theorem dX5_split_130 : decode cX5_split 130 = .ok (.invokevirtual 40, 3) := by decide +kernel
theorem dX5_split_133 : decode cX5_split 133 = .ok (.aload_n 0, 1) := by decide +kernel
theorem dX5_split_134 : decode cX5_split 134 = .ok (.invokevirtual 44, 3) := by decide +kernel
theorem dX5_split_137 : decode cX5_split 137 = .ok (.return_, 1) := by decide +kernel
theorem dX7_spelling_0 : decode cX7_spelling 0 = .ok (.iload_n 0, 1) := by decide +kernel
theorem dX7_spelling_1 : decode cX7_spelling 1 = .ok (.tableswitch 120 8 22 #[75, 78, 81, 84, 87, 90, 93, 96, 99, 102, 105, 108, 111, 114, 117], 75) := by decide +kernel
theorem dX7_spelling_76 : decode cX7_spelling 76 = .ok (.ldc 9, 2) := by decide +kernel
theorem dX7_spelling_78 : decode cX7_spelling 78 = .ok (.areturn, 1) := by decide +kernel
theorem dX7_spelling_79 : decode cX7_spelling 79 = .ok (.ldc 11, 2) := by decide +kernel
theorem dX7_spelling_81 : decode cX7_spelling 81 = .ok (.areturn, 1) := by decide +kernel
theorem dX7_spelling_82 : decode cX7_spelling 82 = .ok (.ldc 13, 2) := by decide +kernel
theorem dX7_spelling_84 : decode cX7_spelling 84 = .ok (.areturn, 1) := by decide +kernel
theorem dX7_spelling_85 : decode cX7_spelling 85 = .ok (.ldc 15, 2) := by decide +kernel
theorem dX7_spelling_87 : decode cX7_spelling 87 = .ok (.areturn, 1) := by decide +kernel
theorem dX7_spelling_88 : decode cX7_spelling 88 = .ok (.ldc 17, 2) := by decide +kernel
theorem dX7_spelling_90 : decode cX7_spelling 90 = .ok (.areturn, 1) := by decide +kernel
theorem dX7_spelling_91 : decode cX7_spelling 91 = .ok (.ldc 19, 2) := by decide +kernel
theorem dX7_spelling_93 : decode cX7_spelling 93 = .ok (.areturn, 1) := by decide +kernel
theorem dX7_spelling_94 : decode cX7_spelling 94 = .ok (.ldc 21, 2) := by decide +kernel
theorem dX7_spelling_96 : decode cX7_spelling 96 = .ok (.areturn, 1) := by decide +kernel
theorem dX7_spelling_97 : decode cX7_spelling 97 = .ok (.ldc 23, 2) := by decide +kernel
theorem dX7_spelling_99 : decode cX7_spelling 99 = .ok (.areturn, 1) := by decide +kernel
theorem dX7_spelling_100 : decode cX7_spelling 100 = .ok (.ldc 25, 2) := by decide +kernel
theorem dX7_spelling_102 : decode cX7_spelling 102 = .ok (.areturn, 1) := by decide +kernel
theorem dX7_spelling_103 : decode cX7_spelling 103 = .ok (.ldc 27, 2) := by decide +kernel
theorem dX7_spelling_105 : decode cX7_spelling 105 = .ok (.areturn, 1) := by decide +kernel
theorem dX7_spelling_106 : decode cX7_spelling 106 = .ok (.ldc 29, 2) := by decide +kernel
theorem dX7_spelling_108 : decode cX7_spelling 108 = .ok (.areturn, 1) := by decide +kernel
theorem dX7_spelling_109 : decode cX7_spelling 109 = .ok (.ldc 31, 2) := by decide +kernel
theorem dX7_spelling_111 : decode cX7_spelling 111 = .ok (.areturn, 1) := by decide +kernel
theorem dX7_spelling_112 : decode cX7_spelling 112 = .ok (.ldc 33, 2) := by decide +kernel
theorem dX7_spelling_114 : decode cX7_spelling 114 = .ok (.areturn, 1) := by decide +kernel
theorem dX7_spelling_115 : decode cX7_spelling 115 = .ok (.ldc 35, 2) := by decide +kernel
theorem dX7_spelling_117 : decode cX7_spelling 117 = .ok (.areturn, 1) := by decide +kernel
theorem dX7_spelling_118 : decode cX7_spelling 118 = .ok (.ldc 37, 2) := by decide +kernel
theorem dX7_spelling_120 : decode cX7_spelling 120 = .ok (.areturn, 1) := by decide +kernel
theorem dX8_packed_0 : decode cX8_packed 0 = .ok (.lconst 0, 1) := by decide +kernel
theorem dX8_packed_1 : decode cX8_packed 1 = .ok (.lstore_n 1, 1) := by decide +kernel
theorem dX8_packed_2 : decode cX8_packed 2 = .ok (.iconst 0, 1) := by decide +kernel
theorem dX8_packed_3 : decode cX8_packed 3 = .ok (.istore_n 3, 1) := by decide +kernel
theorem dX8_packed_4 : decode cX8_packed 4 = .ok (.iload_n 3, 1) := by decide +kernel
theorem dX8_packed_5 : decode cX8_packed 5 = .ok (.aload_n 0, 1) := by decide +kernel
theorem dX8_packed_6 : decode cX8_packed 6 = .ok (.invokevirtual 9, 3) := by decide +kernel
theorem dX8_packed_9 : decode cX8_packed 9 = .ok (.if_icmp .ge 19, 3) := by decide +kernel
theorem dX8_packed_12 : decode cX8_packed 12 = .ok (.lload_n 1, 1) := by decide +kernel
theorem dX8_packed_13 : decode cX8_packed 13 = .ok (.aload_n 0, 1) := by decide +kernel
theorem dX8_packed_14 : decode cX8_packed 14 = .ok (.iload_n 3, 1) := by decide +kernel
theorem dX8_packed_15 : decode cX8_packed 15 = .ok (.invokevirtual 15, 3) := by decide +kernel
theorem dX8_packed_18 : decode cX8_packed 18 = .ok (.invokestatic 19, 3) := by decide +kernel
theorem dX8_packed_21 : decode cX8_packed 21 = .ok (.lstore_n 1, 1) := by decide +kernel
theorem dX8_packed_22 : decode cX8_packed 22 = .ok (.iinc 3 1, 3) := by decide +kernel
theorem dX8_packed_25 : decode cX8_packed 25 = .ok (.goto (-21), 3) := by decide +kernel
theorem dX8_packed_28 : decode cX8_packed 28 = .ok (.lload_n 1, 1) := by decide +kernel
theorem dX8_packed_29 : decode cX8_packed 29 = .ok (.lreturn, 1) := by decide +kernel
theorem dX8_withLetter_0 : decode cX8_withLetter 0 = .ok (.lload_n 0, 1) := by decide +kernel
theorem dX8_withLetter_1 : decode cX8_withLetter 1 = .ok (.iconst 5, 1) := by decide +kernel
theorem dX8_withLetter_2 : decode cX8_withLetter 2 = .ok (.lshl, 1) := by decide +kernel
theorem dX8_withLetter_3 : decode cX8_withLetter 3 = .ok (.iload_n 2, 1) := by decide +kernel
theorem dX8_withLetter_4 : decode cX8_withLetter 4 = .ok (.bipush 97, 2) := by decide +kernel
theorem dX8_withLetter_6 : decode cX8_withLetter 6 = .ok (.isub, 1) := by decide +kernel
theorem dX8_withLetter_7 : decode cX8_withLetter 7 = .ok (.iconst 1, 1) := by decide +kernel
theorem dX8_withLetter_8 : decode cX8_withLetter 8 = .ok (.iadd, 1) := by decide +kernel
theorem dX8_withLetter_9 : decode cX8_withLetter 9 = .ok (.i2l, 1) := by decide +kernel
theorem dX8_withLetter_10 : decode cX8_withLetter 10 = .ok (.lor, 1) := by decide +kernel
theorem dX8_withLetter_11 : decode cX8_withLetter 11 = .ok (.lreturn, 1) := by decide +kernel
theorem dX9_load_0 : decode cX9_load 0 = .ok (.iload_n 1, 1) := by decide +kernel
theorem dX9_load_1 : decode cX9_load 1 = .ok (.iconst 0, 1) := by decide +kernel
theorem dX9_load_2 : decode cX9_load 2 = .ok (.aload_n 0, 1) := by decide +kernel
theorem dX9_load_3 : decode cX9_load 3 = .ok (.getfield 59, 3) := by decide +kernel
theorem dX9_load_6 : decode cX9_load 6 = .ok (.invokestatic 67, 3) := by decide +kernel
theorem dX9_load_9 : decode cX9_load 9 = .ok (.aload_n 0, 1) := by decide +kernel
theorem dX9_load_10 : decode cX9_load 10 = .ok (.getfield 28, 3) := by decide +kernel
theorem dX9_load_13 : decode cX9_load 13 = .ok (.aload_n 0, 1) := by decide +kernel
theorem dX9_load_14 : decode cX9_load 14 = .ok (.getfield 9, 3) := by decide +kernel
theorem dX9_load_17 : decode cX9_load 17 = .ok (.iload_n 1, 1) := by decide +kernel
theorem dX9_load_18 : decode cX9_load 18 = .ok (.aload_n 0, 1) := by decide +kernel
theorem dX9_load_19 : decode cX9_load 19 = .ok (.getfield 20, 3) := by decide +kernel
theorem dX9_load_22 : decode cX9_load 22 = .ok (.invokevirtual 71, 3) := by decide +kernel
theorem dX9_load_25 : decode cX9_load 25 = .ok (.istore_n 2, 1) := by decide +kernel
theorem dX9_load_26 : decode cX9_load 26 = .ok (.aload_n 0, 1) := by decide +kernel
theorem dX9_load_27 : decode cX9_load 27 = .ok (.iconst 0, 1) := by decide +kernel
theorem dX9_load_28 : decode cX9_load 28 = .ok (.putfield 59, 3) := by decide +kernel
theorem dX9_load_31 : decode cX9_load 31 = .ok (.iload_n 2, 1) := by decide +kernel
theorem dX9_load_32 : decode cX9_load 32 = .ok (.ifCond .ne 6, 3) := by decide +kernel
theorem dX9_load_35 : decode cX9_load 35 = .ok (.bipush (-3), 2) := by decide +kernel
theorem dX9_load_37 : decode cX9_load 37 = .ok (.ireturn, 1) := by decide +kernel
theorem dX9_load_38 : decode cX9_load 38 = .ok (.aload_n 0, 1) := by decide +kernel
theorem dX9_load_39 : decode cX9_load 39 = .ok (.getfield 20, 3) := by decide +kernel
theorem dX9_load_42 : decode cX9_load 42 = .ok (.astore_n 3, 1) := by decide +kernel
theorem dX9_load_43 : decode cX9_load 43 = .ok (.aload_n 0, 1) := by decide +kernel
theorem dX9_load_44 : decode cX9_load 44 = .ok (.aload_n 0, 1) := by decide +kernel
theorem dX9_load_45 : decode cX9_load 45 = .ok (.getfield 16, 3) := by decide +kernel
theorem dX9_load_48 : decode cX9_load 48 = .ok (.putfield 20, 3) := by decide +kernel
theorem dX9_load_51 : decode cX9_load 51 = .ok (.aload_n 0, 1) := by decide +kernel
theorem dX9_load_52 : decode cX9_load 52 = .ok (.aload_n 3, 1) := by decide +kernel
theorem dX9_load_53 : decode cX9_load 53 = .ok (.putfield 16, 3) := by decide +kernel
theorem dX9_load_56 : decode cX9_load 56 = .ok (.aload_n 0, 1) := by decide +kernel
theorem dX9_load_57 : decode cX9_load 57 = .ok (.getfield 35, 3) := by decide +kernel
theorem dX9_load_60 : decode cX9_load 60 = .ok (.aload_n 0, 1) := by decide +kernel
theorem dX9_load_61 : decode cX9_load 61 = .ok (.getfield 16, 3) := by decide +kernel
theorem dX9_load_64 : decode cX9_load 64 = .ok (.invokevirtual 56, 3) := by decide +kernel
theorem dX9_load_67 : decode cX9_load 67 = .ok (.aload_n 0, 1) := by decide +kernel
theorem dX9_load_68 : decode cX9_load 68 = .ok (.getfield 45, 3) := by decide +kernel
theorem dX9_load_71 : decode cX9_load 71 = .ok (.invokevirtual 75, 3) := by decide +kernel
theorem dX9_load_74 : decode cX9_load 74 = .ok (.aload_n 0, 1) := by decide +kernel
theorem dX9_load_75 : decode cX9_load 75 = .ok (.getfield 16, 3) := by decide +kernel
theorem dX9_load_78 : decode cX9_load 78 = .ok (.getfield 78, 3) := by decide +kernel
theorem dX9_load_81 : decode cX9_load 81 = .ok (.ireturn, 1) := by decide +kernel
theorem dX9_written_0 : decode cX9_written 0 = .ok (.iload_n 1, 1) := by decide +kernel
theorem dX9_written_1 : decode cX9_written 1 = .ok (.aload_n 0, 1) := by decide +kernel
theorem dX9_written_2 : decode cX9_written 2 = .ok (.getfield 52, 3) := by decide +kernel
theorem dX9_written_5 : decode cX9_written 5 = .ok (.invokevirtual 340, 3) := by decide +kernel
theorem dX9_written_8 : decode cX9_written 8 = .ok (.invokestatic 196, 3) := by decide +kernel
theorem dX9_written_11 : decode cX9_written 11 = .ok (.aload_n 0, 1) := by decide +kernel
theorem dX9_written_12 : decode cX9_written 12 = .ok (.getfield 52, 3) := by decide +kernel
theorem dX9_written_15 : decode cX9_written 15 = .ok (.iload_n 1, 1) := by decide +kernel
theorem dX9_written_16 : decode cX9_written 16 = .ok (.invokevirtual 343, 3) := by decide +kernel
theorem dX9_written_19 : decode cX9_written 19 = .ok (.ireturn, 1) := by decide +kernel

set_option maxHeartbeats 4000000 in
set_option maxRecDepth 100000 in
/-- Preconditions.checkIndex within -/
theorem c_pchk_null (l : Launch) (D : va_G) (cA : Nat → ClassId) (sa : Nat → Nat) (i n : Nat) (sz : Nat) (hi : i < n) (hn : n < 2 ^ 31) : Met l yJ3_checkIndex_8e157 wsJ3_checkIndex_8e157 ({ frames := 0, cells := 0, slots := 0, locals := 0 }) (va_Pc [.int (nI i), .int (nI n), .null] (Wd D cA sa [] sz)) (va_Qi (fun (r : Int32) (_ : Unit) => r = (nI i)) (fun (_ : Unit) t => Wq D (va_A [] sz) [] t) (va_A [] sz)) 0 0 (va_A [] sz) := by
  refine Met.ofW (cc := cJ3_checkIndex_8e157) (maxL := 3) (ret := (some .int)) (by decide) rfl ?_
  intro p e s m args below meth c s₁ B hml hv
  obtain ⟨rfl, hsz, hP, hK, hD0, hC, hZ⟩ := hv
  have hx := B.exec
  have hb := B.bytes
  have hr := B.returns
  have hts := atoms_spec (ws := wsJ3_checkIndex_8e157) B.pre
  have hown : s.vm.findClass RJ3 = some m.cls := findClass_of_methodNamed B.named
  have hlocks := B.notSynchronized
  subst hsz
  have hD := hD0.self (sz := s.heap.size)
  generalize hAe : va_A [] s.heap.size = A at hD hZ ⊢
  have hA : ∀ q : Nat, s.heap.size ≤ q → A q := fun q h => by rw [← hAe]; exact Or.inr h
  have hS : va_S A s.heap s.heap [] := va_S.rf
  have hP : va_P D vwCl [] s.heap := hP
  have hl := lv_entry ([.int (nI i), .int (nI n), .null]) (n := 3) (Nat.le_of_ble_eq_true rfl)
  rw [lg_entry_eq]
  generalize (lg_sl ([.int (nI i), .int (nI n), .null]) ++ List.replicate (3 - (lg_sl ([.int (nI i), .int (nI n), .null])).length) Slot.unset).toArray = ls at hl ⊢
  have hl : lv_has ls 3 [(0, .int (nI i)), (1, .int (nI n)), (2, .null)] := hl
  refine lv_iload_n hx hb dJ3_checkIndex_8e157_0 rfl (lv_at hl 0 rfl) ?_
  refine lv_if_lt (tgt := 9) hx hb dJ3_checkIndex_8e157_1 (by decide) (fun c9 => absurd c9 (nI_pos (Nat.lt_trans hi hn))) (fun c1 => ?_)
  refine lv_iload_n hx hb dJ3_checkIndex_8e157_4 rfl (lv_at hl 0 rfl) ?_
  refine lv_iload_n hx hb dJ3_checkIndex_8e157_5 rfl (lv_at hl 1 rfl) ?_
  refine lv_icmp_lt (tgt := 16) hx hb dJ3_checkIndex_8e157_6 (by decide) (fun c2 => ?_) (fun c9 => absurd c9 (fun h3 => h3 (nI_lt hi hn)))
  refine lv_iload_n hx hb dJ3_checkIndex_8e157_16 rfl (lv_at hl 0 rfl) ?_
  have hP9 := hP.sub (ws' := []) [] rfl
  have hD9 := hD.sub (ws' := []) [] (by decide) rfl
  refine W.widen (k := 0) (n := 0) (Nat.le_of_ble_eq_true rfl) (Nat.le_of_ble_eq_true rfl) ?_
  exact W.iret (v := (nI i)) hx hb hr (fun t ht hW => ⟨⟨(nI i), (), rfl, rfl, by rw [ht]; exact hP9, hD9⟩, hS.F ht⟩) hS.2.2 dJ3_checkIndex_8e157_17

set_option maxHeartbeats 4000000 in
set_option maxRecDepth 100000 in
/-- Preconditions.checkIndex within -/
theorem c_pchk_ref (l : Launch) (D : va_G) (cA : Nat → ClassId) (sa : Nat → Nat) (i n t : Nat) (sz : Nat) (hi : i < n) (hn : n < 2 ^ 31) : Met l yJ3_checkIndex_8e157 wsJ3_checkIndex_8e157 ({ frames := 0, cells := 0, slots := 0, locals := 0 }) (va_Pc [.int (nI i), .int (nI n), .ref t] (Wd D cA sa [] sz)) (va_Qi (fun (r : Int32) (_ : Unit) => r = (nI i)) (fun (_ : Unit) t => Wq D (va_A [] sz) [] t) (va_A [] sz)) 0 0 (va_A [] sz) := by
  refine Met.ofW (cc := cJ3_checkIndex_8e157) (maxL := 3) (ret := (some .int)) (by decide) rfl ?_
  intro p e s m args below meth c s₁ B hml hv
  obtain ⟨rfl, hsz, hP, hK, hD0, hC, hZ⟩ := hv
  have hx := B.exec
  have hb := B.bytes
  have hr := B.returns
  have hts := atoms_spec (ws := wsJ3_checkIndex_8e157) B.pre
  have hown : s.vm.findClass RJ3 = some m.cls := findClass_of_methodNamed B.named
  have hlocks := B.notSynchronized
  subst hsz
  have hD := hD0.self (sz := s.heap.size)
  generalize hAe : va_A [] s.heap.size = A at hD hZ ⊢
  have hA : ∀ q : Nat, s.heap.size ≤ q → A q := fun q h => by rw [← hAe]; exact Or.inr h
  have hS : va_S A s.heap s.heap [] := va_S.rf
  have hP : va_P D vwCl [] s.heap := hP
  have hl := lv_entry ([.int (nI i), .int (nI n), .ref t]) (n := 3) (Nat.le_of_ble_eq_true rfl)
  rw [lg_entry_eq]
  generalize (lg_sl ([.int (nI i), .int (nI n), .ref t]) ++ List.replicate (3 - (lg_sl ([.int (nI i), .int (nI n), .ref t])).length) Slot.unset).toArray = ls at hl ⊢
  have hl : lv_has ls 3 [(0, .int (nI i)), (1, .int (nI n)), (2, .ref t)] := hl
  refine lv_iload_n hx hb dJ3_checkIndex_8e157_0 rfl (lv_at hl 0 rfl) ?_
  refine lv_if_lt (tgt := 9) hx hb dJ3_checkIndex_8e157_1 (by decide) (fun c9 => absurd c9 (nI_pos (Nat.lt_trans hi hn))) (fun c1 => ?_)
  refine lv_iload_n hx hb dJ3_checkIndex_8e157_4 rfl (lv_at hl 0 rfl) ?_
  refine lv_iload_n hx hb dJ3_checkIndex_8e157_5 rfl (lv_at hl 1 rfl) ?_
  refine lv_icmp_lt (tgt := 16) hx hb dJ3_checkIndex_8e157_6 (by decide) (fun c2 => ?_) (fun c9 => absurd c9 (fun h3 => h3 (nI_lt hi hn)))
  refine lv_iload_n hx hb dJ3_checkIndex_8e157_16 rfl (lv_at hl 0 rfl) ?_
  have hP9 := hP.sub (ws' := []) [] rfl
  have hD9 := hD.sub (ws' := []) [] (by decide) rfl
  refine W.widen (k := 0) (n := 0) (Nat.le_of_ble_eq_true rfl) (Nat.le_of_ble_eq_true rfl) ?_
  exact W.iret (v := (nI i)) hx hb hr (fun t ht hW => ⟨⟨(nI i), (), rfl, rfl, by rw [ht]; exact hP9, hD9⟩, hS.F ht⟩) hS.2.2 dJ3_checkIndex_8e157_17

set_option maxHeartbeats 4000000 in
set_option maxRecDepth 100000 in
/-- String.checkIndex within -/
theorem c_schk (l : Launch) (D : va_G) (cA : Nat → ClassId) (sa : Nat → Nat) (i n : Nat) (sz : Nat) (hi : i < n) (hn : n < 2 ^ 31) : Met l yJ0_checkIndex_df160 wsJ0_checkIndex_df160 ({ frames := 1, cells := 0, slots := 0, locals := 22 }) (va_Pc [.int (nI i), .int (nI n)] (Wd D cA sa [] sz)) (va_Qv (fun _ : Unit => True) (fun (_ : Unit) t => Wq D (va_A [] sz) [] t) (va_A [] sz)) 0 0 (va_A [] sz) := by
  refine Met.ofW (cc := cJ0_checkIndex_df160) (maxL := 2) (ret := none) (by decide) rfl ?_
  intro p e s m args below meth c s₁ B hml hv
  obtain ⟨rfl, hsz, hP, hK, hD0, hC, hZ⟩ := hv
  have hx := B.exec
  have hb := B.bytes
  have hr := B.returns
  have hts := atoms_spec (ws := wsJ0_checkIndex_df160) B.pre
  have hown : s.vm.findClass RJ0 = some m.cls := findClass_of_methodNamed B.named
  have hlocks := B.notSynchronized
  subst hsz
  have hD := hD0.self (sz := s.heap.size)
  generalize hAe : va_A [] s.heap.size = A at hD hZ ⊢
  have hA : ∀ q : Nat, s.heap.size ≤ q → A q := fun q h => by rw [← hAe]; exact Or.inr h
  have hS : va_S A s.heap s.heap [] := va_S.rf
  have hP : va_P D vwCl [] s.heap := hP
  have hl := lv_entry ([.int (nI i), .int (nI n)]) (n := 2) (Nat.le_of_ble_eq_true rfl)
  rw [lg_entry_eq]
  generalize (lg_sl ([.int (nI i), .int (nI n)]) ++ List.replicate (2 - (lg_sl ([.int (nI i), .int (nI n)])).length) Slot.unset).toArray = ls at hl ⊢
  have hl : lv_has ls 2 [(0, .int (nI i)), (1, .int (nI n))] := hl
  refine lv_iload_n hx hb dJ0_checkIndex_df160_0 rfl (lv_at hl 0 rfl) ?_
  refine lv_iload_n hx hb dJ0_checkIndex_df160_1 rfl (lv_at hl 1 rfl) ?_
  rcases hZ.2.2.2.1 with hz9 | ⟨t9, hz9⟩
  · skip
    refine va_gets hx hb hz9 hS hown (hts (.fieldLink RJ0 1053 "jdk/internal/util/Preconditions" "SIOOBE_FORMATTER" "Ljava/util/function/BiFunction;") (by decide +kernel)) (fun _ h9 => h9) dJ0_checkIndex_df160_2 ?_
    have hPc := hP.sub (ws' := []) [] rfl
    have hDc := hD.sub (ws' := []) [] (by decide) rfl
    have hFc := va_free (wc := []) hD hS hA [] rfl
    refine va_calli (va_runS (As := [.int (nI i), .int (nI n), .null]) (rest := []) ⟨hx, hb, hml, hown, hts⟩ (c_pchk_null l D cA sa i n s.heap.size hi hn) (va_cwS 3 hts gJ0_checkIndex_df160_J3_checkIndex_8e157 rfl rfl rfl (by decide +kernel) ⟨(Nat.le_of_ble_eq_true rfl), (Nat.le_of_ble_eq_true rfl)⟩) ⟨Wd.blind, fun U hU hW => ⟨rfl, Wd.call hPc hDc hK hC hZ hS hFc U hU hW⟩⟩ rfl rfl hl.1 rfl (lv_room (Nat.le_of_ble_eq_true rfl)) dJ0_checkIndex_df160_5 ⟨(Nat.le_of_ble_eq_true rfl), (Nat.le_of_ble_eq_true rfl)⟩) hS (fun q _ h => hFc q h) hFc (fun rn1 u t H1 locs ht hvm hw hB hz1 hk1 hS => ?_)
    obtain ⟨hP1, hD1⟩ := hB
    rw [ht] at hP1
    obtain ⟨hP, hD⟩ := va_join (wr := []) (w1 := []) hP hD [] [] rfl rfl (by decide) (by decide) hk1 hFc hP1 hD1
    generalize H1 = H at hP hS ⊢
    have hP : va_P D vwCl [] H := hP
    have hD : va_D A [] := hD
    obtain rfl : rn1 = (nI i) := hw
    refine lv_pop hx hb dJ0_checkIndex_df160_8 rfl ?_
    have hP9 := hP.sub (ws' := []) [] rfl
    have hD9 := hD.sub (ws' := []) [] (by decide) rfl
    refine W.widen (k := 0) (n := 0) (Nat.le_of_ble_eq_true rfl) (Nat.le_of_ble_eq_true rfl) ?_
    exact W.vret hx hb hr (fun t ht hW => ⟨⟨(), rfl, trivial, by rw [ht]; exact hP9, hD9⟩, hS.F ht⟩) hS.2.2 dJ0_checkIndex_df160_9
  · skip
    refine va_gets hx hb hz9 hS hown (hts (.fieldLink RJ0 1053 "jdk/internal/util/Preconditions" "SIOOBE_FORMATTER" "Ljava/util/function/BiFunction;") (by decide +kernel)) (fun _ h9 => h9) dJ0_checkIndex_df160_2 ?_
    have hPc := hP.sub (ws' := []) [] rfl
    have hDc := hD.sub (ws' := []) [] (by decide) rfl
    have hFc := va_free (wc := []) hD hS hA [] rfl
    refine va_calli (va_runS (As := [.int (nI i), .int (nI n), .ref t9]) (rest := []) ⟨hx, hb, hml, hown, hts⟩ (c_pchk_ref l D cA sa i n t9 s.heap.size hi hn) (va_cwS 3 hts gJ0_checkIndex_df160_J3_checkIndex_8e157 rfl rfl rfl (by decide +kernel) ⟨(Nat.le_of_ble_eq_true rfl), (Nat.le_of_ble_eq_true rfl)⟩) ⟨Wd.blind, fun U hU hW => ⟨rfl, Wd.call hPc hDc hK hC hZ hS hFc U hU hW⟩⟩ rfl rfl hl.1 rfl (lv_room (Nat.le_of_ble_eq_true rfl)) dJ0_checkIndex_df160_5 ⟨(Nat.le_of_ble_eq_true rfl), (Nat.le_of_ble_eq_true rfl)⟩) hS (fun q _ h => hFc q h) hFc (fun rn2 u t H1 locs ht hvm hw hB hz1 hk1 hS => ?_)
    obtain ⟨hP1, hD1⟩ := hB
    rw [ht] at hP1
    obtain ⟨hP, hD⟩ := va_join (wr := []) (w1 := []) hP hD [] [] rfl rfl (by decide) (by decide) hk1 hFc hP1 hD1
    generalize H1 = H at hP hS ⊢
    have hP : va_P D vwCl [] H := hP
    have hD : va_D A [] := hD
    obtain rfl : rn2 = (nI i) := hw
    refine lv_pop hx hb dJ0_checkIndex_df160_8 rfl ?_
    have hP9 := hP.sub (ws' := []) [] rfl
    have hD9 := hD.sub (ws' := []) [] (by decide) rfl
    refine W.widen (k := 0) (n := 0) (Nat.le_of_ble_eq_true rfl) (Nat.le_of_ble_eq_true rfl) ?_
    exact W.vret hx hb hr (fun t ht hW => ⟨⟨(), rfl, trivial, by rw [ht]; exact hP9, hD9⟩, hS.F ht⟩) hS.2.2 dJ0_checkIndex_df160_9

set_option maxHeartbeats 4000000 in
set_option maxRecDepth 100000 in
/-- StringLatin1.charAt -/
theorem c_lcharAt (l : Launch) (D : va_G) (cA : Nat → ClassId) (sa : Nat → Nat) (k i : Nat) (bs : List Int32) (sz : Nat) (hq : (k, bs) ∈ sbL) (hi : i < bs.length) : Met l yJ1_charAt_3b067 wsJ1_charAt_3b067 ({ frames := 2, cells := 0, slots := 0, locals := 43 }) (va_Pc [.ref (sa (1000 + k)), .int (nI i)] (Wd D cA sa [] sz)) (va_Qi (fun (r : Int32) (_ : Unit) => r = bs.getD i 0) (fun (_ : Unit) t => Wq D (va_A [] sz) [] t) (va_A [] sz)) 0 0 (va_A [] sz) := by
  refine Met.ofW (cc := cJ1_charAt_3b067) (maxL := 2) (ret := (some .char)) (by decide) rfl ?_
  intro p e s m args below meth c s₁ B hml hv
  obtain ⟨rfl, hsz, hP, hK, hD0, hC, hZ⟩ := hv
  have hx := B.exec
  have hb := B.bytes
  have hr := B.returns
  have hts := atoms_spec (ws := wsJ1_charAt_3b067) B.pre
  have hown : s.vm.findClass RJ1 = some m.cls := findClass_of_methodNamed B.named
  have hlocks := B.notSynchronized
  subst hsz
  have hD := hD0.self (sz := s.heap.size)
  generalize hAe : va_A [] s.heap.size = A at hD hZ ⊢
  have hA : ∀ q : Nat, s.heap.size ≤ q → A q := fun q h => by rw [← hAe]; exact Or.inr h
  have hS : va_S A s.heap s.heap [] := va_S.rf
  have hP : va_P D vwCl [] s.heap := hP
  have hl := lv_entry ([.ref (sa (1000 + k)), .int (nI i)]) (n := 2) (Nat.le_of_ble_eq_true rfl)
  rw [lg_entry_eq]
  generalize (lg_sl ([.ref (sa (1000 + k)), .int (nI i)]) ++ List.replicate (2 - (lg_sl ([.ref (sa (1000 + k)), .int (nI i)])).length) Slot.unset).toArray = ls at hl ⊢
  have hl : lv_has ls 2 [(0, .ref (sa (1000 + k))), (1, .int (nI i))] := hl
  have hso := hZ.2.2.2.2 (k, bs) hq
  have hsC : va_OF "java/lang/String" "coder" "B" (.int 0) (sa k) A s s.heap := hso.2.1
  have hsV : va_OF "java/lang/String" "value" "[B" (.ref (sa (1000 + k))) (sa k) A s s.heap := hso.2.2.1
  have hsT : va_T .byte (sa (1000 + k)) bs.length (fun j => .int (bs.getD j 0)) A s s.heap := hso.2.2.2
  refine lv_iload_n hx hb dJ1_charAt_3b067_0 rfl (lv_at hl 1 rfl) ?_
  refine lv_aload_n hx hb dJ1_charAt_3b067_1 rfl (lv_at hl 0 rfl) ?_
  refine va_tlen (v := nI bs.length) hx hb hsT hS rfl dJ1_charAt_3b067_2 ?_
  have hPc := hP.sub (ws' := []) [] rfl
  have hDc := hD.sub (ws' := []) [] (by decide) rfl
  have hFc := va_free (wc := []) hD hS hA [] rfl
  refine va_callv (va_runS (As := [.int (nI i), .int (nI bs.length)]) (rest := []) ⟨hx, hb, hml, hown, hts⟩ (c_schk l D cA sa i bs.length s.heap.size hi (sb_lt hq)) (va_cwS 2 hts gJ1_charAt_3b067_J0_checkIndex_df160 rfl rfl rfl (by decide +kernel) ⟨(Nat.le_of_ble_eq_true rfl), (Nat.le_of_ble_eq_true rfl)⟩) ⟨Wd.blind, fun U hU hW => ⟨rfl, Wd.call hPc hDc hK hC hZ hS hFc U hU hW⟩⟩ rfl rfl hl.1 rfl (lv_room (Nat.le_of_ble_eq_true rfl)) dJ1_charAt_3b067_3 ⟨(Nat.le_of_ble_eq_true rfl), (Nat.le_of_ble_eq_true rfl)⟩) hS (fun q _ h => hFc q h) hFc (fun u t H1 locs ht hvm hw hB hz1 hk1 hS => ?_)
  obtain ⟨hP1, hD1⟩ := hB
  rw [ht] at hP1
  obtain ⟨hP, hD⟩ := va_join (wr := []) (w1 := []) hP hD [] [] rfl rfl (by decide) (by decide) hk1 hFc hP1 hD1
  generalize H1 = H at hP hS ⊢
  have hP : va_P D vwCl [] H := hP
  have hD : va_D A [] := hD
  refine lv_aload_n hx hb dJ1_charAt_3b067_6 rfl (lv_at hl 0 rfl) ?_
  refine lv_iload_n hx hb dJ1_charAt_3b067_7 rfl (lv_at hl 1 rfl) ?_
  refine va_tb (v := .int (bs.getD i 0)) hx hb hsT hS (vp_in_nI hi (sb_lt hq)) (by rw [nI_clamp (Nat.lt_trans hi (sb_lt hq))]) dJ1_charAt_3b067_8 ?_
  refine lv_sipush (v := 255) hx hb dJ1_charAt_3b067_9 (by decide) ?_
  refine lv_iand hx hb dJ1_charAt_3b067_12 ?_
  refine lv_i2c hx hb dJ1_charAt_3b067_13 rfl ?_
  refine lv_topi (fun yn2 eyn2 => ?_)
  obtain rfl : yn2 = bs.getD i 0 := eyn2.trans (sb_c2 hq hi)
  have hP9 := hP.sub (ws' := []) [] rfl
  have hD9 := hD.sub (ws' := []) [] (by decide) rfl
  refine W.widen (k := 0) (n := 0) (Nat.le_of_ble_eq_true rfl) (Nat.le_of_ble_eq_true rfl) ?_
  exact W.zret (v := (bs.getD i 0)) hx hb hr (sb_nar hq hi) (fun t ht hW => ⟨⟨(bs.getD i 0), (), rfl, rfl, by rw [ht]; exact hP9, hD9⟩, hS.F ht⟩) hS.2.2 dJ1_charAt_3b067_14

set_option maxHeartbeats 4000000 in
set_option maxRecDepth 100000 in
/-- isLatin1: yes -/
theorem c_isLatin1 (l : Launch) (D : va_G) (cA : Nat → ClassId) (sa : Nat → Nat) (k : Nat) (bs : List Int32) (sz : Nat) (hq : (k, bs) ∈ sbL) : Met l yJ0_isLatin1_aae02 wsJ0_isLatin1_aae02 ({ frames := 0, cells := 0, slots := 0, locals := 0 }) (va_Pc [.ref (sa k)] (Wd D cA sa [] sz)) (va_Qi (fun (r : Int32) (_ : Unit) => r = 1) (fun (_ : Unit) t => Wq D (va_A [] sz) [] t) (va_A [] sz)) 0 0 (va_A [] sz) := by
  refine Met.ofW (cc := cJ0_isLatin1_aae02) (maxL := 1) (ret := (some .boolean)) (by decide) rfl ?_
  intro p e s m args below meth c s₁ B hml hv
  obtain ⟨rfl, hsz, hP, hK, hD0, hC, hZ⟩ := hv
  have hx := B.exec
  have hb := B.bytes
  have hr := B.returns
  have hts := atoms_spec (ws := wsJ0_isLatin1_aae02) B.pre
  have hown : s.vm.findClass RJ0 = some m.cls := findClass_of_methodNamed B.named
  have hlocks := B.notSynchronized
  subst hsz
  have hD := hD0.self (sz := s.heap.size)
  generalize hAe : va_A [] s.heap.size = A at hD hZ ⊢
  have hA : ∀ q : Nat, s.heap.size ≤ q → A q := fun q h => by rw [← hAe]; exact Or.inr h
  have hS : va_S A s.heap s.heap [] := va_S.rf
  have hP : va_P D vwCl [] s.heap := hP
  have hl := lv_entry ([.ref (sa k)]) (n := 1) (Nat.le_of_ble_eq_true rfl)
  rw [lg_entry_eq]
  generalize (lg_sl ([.ref (sa k)]) ++ List.replicate (1 - (lg_sl ([.ref (sa k)])).length) Slot.unset).toArray = ls at hl ⊢
  have hl : lv_has ls 1 [(0, .ref (sa k))] := hl
  have hso := hZ.2.2.2.2 (k, bs) hq
  have hsC : va_OF "java/lang/String" "coder" "B" (.int 0) (sa k) A s s.heap := hso.2.1
  have hsV : va_OF "java/lang/String" "value" "[B" (.ref (sa (1000 + k))) (sa k) A s s.heap := hso.2.2.1
  have hsT : va_T .byte (sa (1000 + k)) bs.length (fun j => .int (bs.getD j 0)) A s s.heap := hso.2.2.2
  refine va_gets hx hb hZ.2.2.1 hS hown (hts (.fieldLink RJ0 38 "java/lang/String" "COMPACT_STRINGS" "Z") (by decide +kernel)) (fun _ h9 => h9) dJ0_isLatin1_aae02_0 ?_
  refine lv_if_eq (tgt := 17) hx hb dJ0_isLatin1_aae02_3 (by decide) (fun c9 => absurd c9 (by decide)) (fun c1 => ?_)
  refine lv_aload_n hx hb dJ0_isLatin1_aae02_6 rfl (lv_at hl 0 rfl) ?_
  refine vk_getf hx hb hsC hS hown (hts (.fieldLink RJ0 15 "java/lang/String" "coder" "B") (by decide +kernel)) (fun _ h9 => h9) dJ0_isLatin1_aae02_7 ?_
  refine lv_if_ne (tgt := 17) hx hb dJ0_isLatin1_aae02_10 (by decide) (fun c9 => absurd c9 (by decide)) (fun c2 => ?_)
  refine lv_iconst (v := 1) hx hb dJ0_isLatin1_aae02_13 (by decide) ?_
  refine lv_goto (tgt := 18) hx hb dJ0_isLatin1_aae02_14 (by decide) ?_
  have hP9 := hP.sub (ws' := []) [] rfl
  have hD9 := hD.sub (ws' := []) [] (by decide) rfl
  refine W.widen (k := 0) (n := 0) (Nat.le_of_ble_eq_true rfl) (Nat.le_of_ble_eq_true rfl) ?_
  exact W.zret (v := 1) hx hb hr (by first | rfl | decide) (fun t ht hW => ⟨⟨1, (), rfl, rfl, by rw [ht]; exact hP9, hD9⟩, hS.F ht⟩) hS.2.2 dJ0_isLatin1_aae02_18

set_option maxHeartbeats 4000000 in
set_option maxRecDepth 100000 in
/-- coder: 0 -/
theorem c_coder (l : Launch) (D : va_G) (cA : Nat → ClassId) (sa : Nat → Nat) (k : Nat) (bs : List Int32) (sz : Nat) (hq : (k, bs) ∈ sbL) : Met l yJ0_coder_7d493 wsJ0_coder_7d493 ({ frames := 0, cells := 0, slots := 0, locals := 0 }) (va_Pc [.ref (sa k)] (Wd D cA sa [] sz)) (va_Qi (fun (r : Int32) (_ : Unit) => r = 0) (fun (_ : Unit) t => Wq D (va_A [] sz) [] t) (va_A [] sz)) 0 0 (va_A [] sz) := by
  refine Met.ofW (cc := cJ0_coder_7d493) (maxL := 1) (ret := (some .byte)) (by decide) rfl ?_
  intro p e s m args below meth c s₁ B hml hv
  obtain ⟨rfl, hsz, hP, hK, hD0, hC, hZ⟩ := hv
  have hx := B.exec
  have hb := B.bytes
  have hr := B.returns
  have hts := atoms_spec (ws := wsJ0_coder_7d493) B.pre
  have hown : s.vm.findClass RJ0 = some m.cls := findClass_of_methodNamed B.named
  have hlocks := B.notSynchronized
  subst hsz
  have hD := hD0.self (sz := s.heap.size)
  generalize hAe : va_A [] s.heap.size = A at hD hZ ⊢
  have hA : ∀ q : Nat, s.heap.size ≤ q → A q := fun q h => by rw [← hAe]; exact Or.inr h
  have hS : va_S A s.heap s.heap [] := va_S.rf
  have hP : va_P D vwCl [] s.heap := hP
  have hl := lv_entry ([.ref (sa k)]) (n := 1) (Nat.le_of_ble_eq_true rfl)
  rw [lg_entry_eq]
  generalize (lg_sl ([.ref (sa k)]) ++ List.replicate (1 - (lg_sl ([.ref (sa k)])).length) Slot.unset).toArray = ls at hl ⊢
  have hl : lv_has ls 1 [(0, .ref (sa k))] := hl
  have hso := hZ.2.2.2.2 (k, bs) hq
  have hsC : va_OF "java/lang/String" "coder" "B" (.int 0) (sa k) A s s.heap := hso.2.1
  have hsV : va_OF "java/lang/String" "value" "[B" (.ref (sa (1000 + k))) (sa k) A s s.heap := hso.2.2.1
  have hsT : va_T .byte (sa (1000 + k)) bs.length (fun j => .int (bs.getD j 0)) A s s.heap := hso.2.2.2
  refine va_gets hx hb hZ.2.2.1 hS hown (hts (.fieldLink RJ0 38 "java/lang/String" "COMPACT_STRINGS" "Z") (by decide +kernel)) (fun _ h9 => h9) dJ0_coder_7d493_0 ?_
  refine lv_if_eq (tgt := 13) hx hb dJ0_coder_7d493_3 (by decide) (fun c9 => absurd c9 (by decide)) (fun c1 => ?_)
  refine lv_aload_n hx hb dJ0_coder_7d493_6 rfl (lv_at hl 0 rfl) ?_
  refine vk_getf hx hb hsC hS hown (hts (.fieldLink RJ0 15 "java/lang/String" "coder" "B") (by decide +kernel)) (fun _ h9 => h9) dJ0_coder_7d493_7 ?_
  refine lv_goto (tgt := 14) hx hb dJ0_coder_7d493_10 (by decide) ?_
  have hP9 := hP.sub (ws' := []) [] rfl
  have hD9 := hD.sub (ws' := []) [] (by decide) rfl
  refine W.widen (k := 0) (n := 0) (Nat.le_of_ble_eq_true rfl) (Nat.le_of_ble_eq_true rfl) ?_
  exact W.zret (v := 0) hx hb hr (by first | rfl | decide) (fun t ht hW => ⟨⟨0, (), rfl, rfl, by rw [ht]; exact hP9, hD9⟩, hS.F ht⟩) hS.2.2 dJ0_coder_7d493_14

set_option maxHeartbeats 4000000 in
set_option maxRecDepth 100000 in
/-- String.charAt -/
theorem c_charAt (l : Launch) (D : va_G) (cA : Nat → ClassId) (sa : Nat → Nat) (k i : Nat) (bs : List Int32) (sz : Nat) (hq : (k, bs) ∈ sbL) (hi : i < bs.length) : Met l yJ0_charAt_5068e wsJ0_charAt_5068e ({ frames := 3, cells := 0, slots := 0, locals := 64 }) (va_Pc [.ref (sa k), .int (nI i)] (Wd D cA sa [] sz)) (va_Qi (fun (r : Int32) (_ : Unit) => r = bs.getD i 0) (fun (_ : Unit) t => Wq D (va_A [] sz) [] t) (va_A [] sz)) 0 0 (va_A [] sz) := by
  refine Met.ofW (cc := cJ0_charAt_5068e) (maxL := 2) (ret := (some .char)) (by decide) rfl ?_
  intro p e s m args below meth c s₁ B hml hv
  obtain ⟨rfl, hsz, hP, hK, hD0, hC, hZ⟩ := hv
  have hx := B.exec
  have hb := B.bytes
  have hr := B.returns
  have hts := atoms_spec (ws := wsJ0_charAt_5068e) B.pre
  have hown : s.vm.findClass RJ0 = some m.cls := findClass_of_methodNamed B.named
  have hlocks := B.notSynchronized
  subst hsz
  have hD := hD0.self (sz := s.heap.size)
  generalize hAe : va_A [] s.heap.size = A at hD hZ ⊢
  have hA : ∀ q : Nat, s.heap.size ≤ q → A q := fun q h => by rw [← hAe]; exact Or.inr h
  have hS : va_S A s.heap s.heap [] := va_S.rf
  have hP : va_P D vwCl [] s.heap := hP
  have hl := lv_entry ([.ref (sa k), .int (nI i)]) (n := 2) (Nat.le_of_ble_eq_true rfl)
  rw [lg_entry_eq]
  generalize (lg_sl ([.ref (sa k), .int (nI i)]) ++ List.replicate (2 - (lg_sl ([.ref (sa k), .int (nI i)])).length) Slot.unset).toArray = ls at hl ⊢
  have hl : lv_has ls 2 [(0, .ref (sa k)), (1, .int (nI i))] := hl
  have hso := hZ.2.2.2.2 (k, bs) hq
  have hsC : va_OF "java/lang/String" "coder" "B" (.int 0) (sa k) A s s.heap := hso.2.1
  have hsV : va_OF "java/lang/String" "value" "[B" (.ref (sa (1000 + k))) (sa k) A s s.heap := hso.2.2.1
  have hsT : va_T .byte (sa (1000 + k)) bs.length (fun j => .int (bs.getD j 0)) A s s.heap := hso.2.2.2
  refine lv_aload_n hx hb dJ0_charAt_5068e_0 rfl (lv_at hl 0 rfl) ?_
  have hPc := hP.sub (ws' := []) [] rfl
  have hDc := hD.sub (ws' := []) [] (by decide) rfl
  have hFc := va_free (wc := []) hD hS hA [] rfl
  refine va_calli (va_runV (As := []) (rest := []) ⟨hx, hb, hml, hown, hts⟩ (c_isLatin1 l D cA sa k bs s.heap.size hq) (cwV 0 hts gJ0_charAt_5068e_J0_isLatin1_aae02 rfl rfl rfl (by decide +kernel) ⟨(Nat.le_of_ble_eq_true rfl), (Nat.le_of_ble_eq_true rfl)⟩) ⟨Wd.blind, SO.recv hso hS, fun U hU hW => ⟨rfl, Wd.call hPc hDc hK hC hZ hS hFc U hU hW⟩⟩ rfl rfl hl.1 rfl (lv_room (Nat.le_of_ble_eq_true rfl)) dJ0_charAt_5068e_1 ⟨(Nat.le_of_ble_eq_true rfl), (Nat.le_of_ble_eq_true rfl)⟩) hS (fun q _ h => hFc q h) hFc (fun rn1 u t H1 locs ht hvm hw hB hz1 hk1 hS => ?_)
  obtain ⟨hP1, hD1⟩ := hB
  rw [ht] at hP1
  obtain ⟨hP, hD⟩ := va_join (wr := []) (w1 := []) hP hD [] [] rfl rfl (by decide) (by decide) hk1 hFc hP1 hD1
  generalize H1 = H at hP hS ⊢
  have hP : va_P D vwCl [] H := hP
  have hD : va_D A [] := hD
  obtain rfl : rn1 = 1 := hw
  refine lv_if_eq (tgt := 16) hx hb dJ0_charAt_5068e_4 (by decide) (fun c9 => absurd c9 (by decide)) (fun c2 => ?_)
  refine lv_aload_n hx hb dJ0_charAt_5068e_7 rfl (lv_at hl 0 rfl) ?_
  refine vk_getf hx hb hsV hS hown (hts (.fieldLink RJ0 9 "java/lang/String" "value" "[B") (by decide +kernel)) (fun _ h9 => h9) dJ0_charAt_5068e_8 ?_
  refine lv_iload_n hx hb dJ0_charAt_5068e_11 rfl (lv_at hl 1 rfl) ?_
  have hPc := hP.sub (ws' := []) [] rfl
  have hDc := hD.sub (ws' := []) [] (by decide) rfl
  have hFc := va_free (wc := []) hD hS hA [] rfl
  refine va_calli (va_runS (As := [.ref (sa (1000 + k)), .int (nI i)]) (rest := []) ⟨hx, hb, hml, hown, hts⟩ (c_lcharAt l D cA sa k i bs H.size hq hi) (va_cwS 2 hts gJ0_charAt_5068e_J1_charAt_3b067 rfl rfl rfl (by decide +kernel) ⟨(Nat.le_of_ble_eq_true rfl), (Nat.le_of_ble_eq_true rfl)⟩) ⟨Wd.blind, fun U hU hW => ⟨rfl, Wd.call hPc hDc hK hC hZ hS hFc U hU hW⟩⟩ rfl rfl hl.1 rfl (lv_room (Nat.le_of_ble_eq_true rfl)) dJ0_charAt_5068e_12 ⟨(Nat.le_of_ble_eq_true rfl), (Nat.le_of_ble_eq_true rfl)⟩) hS (fun q _ h => hFc q h) hFc (fun rn3 u t H1 locs ht hvm hw hB hz1 hk1 hS => ?_)
  obtain ⟨hP1, hD1⟩ := hB
  rw [ht] at hP1
  obtain ⟨hP, hD⟩ := va_join (wr := []) (w1 := []) hP hD [] [] rfl rfl (by decide) (by decide) hk1 hFc hP1 hD1
  generalize H1 = H at hP hS ⊢
  have hP : va_P D vwCl [] H := hP
  have hD : va_D A [] := hD
  obtain rfl : rn3 = (bs.getD i 0) := hw
  have hP9 := hP.sub (ws' := []) [] rfl
  have hD9 := hD.sub (ws' := []) [] (by decide) rfl
  refine W.widen (k := 0) (n := 0) (Nat.le_of_ble_eq_true rfl) (Nat.le_of_ble_eq_true rfl) ?_
  exact W.zret (v := (bs.getD i 0)) hx hb hr (sb_nar hq hi) (fun t ht hW => ⟨⟨(bs.getD i 0), (), rfl, rfl, by rw [ht]; exact hP9, hD9⟩, hS.F ht⟩) hS.2.2 dJ0_charAt_5068e_15

set_option maxHeartbeats 4000000 in
set_option maxRecDepth 100000 in
/-- String.length -/
theorem c_slength (l : Launch) (D : va_G) (cA : Nat → ClassId) (sa : Nat → Nat) (k : Nat) (bs : List Int32) (sz : Nat) (hq : (k, bs) ∈ sbL) : Met l yJ0_length_8abf5 wsJ0_length_8abf5 ({ frames := 1, cells := 0, slots := 0, locals := 20 }) (va_Pc [.ref (sa k)] (Wd D cA sa [] sz)) (va_Qi (fun (r : Int32) (_ : Unit) => r = (nI bs.length)) (fun (_ : Unit) t => Wq D (va_A [] sz) [] t) (va_A [] sz)) 0 0 (va_A [] sz) := by
  refine Met.ofW (cc := cJ0_length_8abf5) (maxL := 1) (ret := (some .int)) (by decide) rfl ?_
  intro p e s m args below meth c s₁ B hml hv
  obtain ⟨rfl, hsz, hP, hK, hD0, hC, hZ⟩ := hv
  have hx := B.exec
  have hb := B.bytes
  have hr := B.returns
  have hts := atoms_spec (ws := wsJ0_length_8abf5) B.pre
  have hown : s.vm.findClass RJ0 = some m.cls := findClass_of_methodNamed B.named
  have hlocks := B.notSynchronized
  subst hsz
  have hD := hD0.self (sz := s.heap.size)
  generalize hAe : va_A [] s.heap.size = A at hD hZ ⊢
  have hA : ∀ q : Nat, s.heap.size ≤ q → A q := fun q h => by rw [← hAe]; exact Or.inr h
  have hS : va_S A s.heap s.heap [] := va_S.rf
  have hP : va_P D vwCl [] s.heap := hP
  have hl := lv_entry ([.ref (sa k)]) (n := 1) (Nat.le_of_ble_eq_true rfl)
  rw [lg_entry_eq]
  generalize (lg_sl ([.ref (sa k)]) ++ List.replicate (1 - (lg_sl ([.ref (sa k)])).length) Slot.unset).toArray = ls at hl ⊢
  have hl : lv_has ls 1 [(0, .ref (sa k))] := hl
  have hso := hZ.2.2.2.2 (k, bs) hq
  have hsC : va_OF "java/lang/String" "coder" "B" (.int 0) (sa k) A s s.heap := hso.2.1
  have hsV : va_OF "java/lang/String" "value" "[B" (.ref (sa (1000 + k))) (sa k) A s s.heap := hso.2.2.1
  have hsT : va_T .byte (sa (1000 + k)) bs.length (fun j => .int (bs.getD j 0)) A s s.heap := hso.2.2.2
  refine lv_aload_n hx hb dJ0_length_8abf5_0 rfl (lv_at hl 0 rfl) ?_
  refine vk_getf hx hb hsV hS hown (hts (.fieldLink RJ0 9 "java/lang/String" "value" "[B") (by decide +kernel)) (fun _ h9 => h9) dJ0_length_8abf5_1 ?_
  refine va_tlen (v := nI bs.length) hx hb hsT hS rfl dJ0_length_8abf5_4 ?_
  refine lv_aload_n hx hb dJ0_length_8abf5_5 rfl (lv_at hl 0 rfl) ?_
  have hPc := hP.sub (ws' := []) [] rfl
  have hDc := hD.sub (ws' := []) [] (by decide) rfl
  have hFc := va_free (wc := []) hD hS hA [] rfl
  refine va_calli (va_runV (As := []) (rest := [.int (nI bs.length)]) ⟨hx, hb, hml, hown, hts⟩ (c_coder l D cA sa k bs s.heap.size hq) (cwV 0 hts gJ0_length_8abf5_J0_coder_7d493 rfl rfl rfl (by decide +kernel) ⟨(Nat.le_of_ble_eq_true rfl), (Nat.le_of_ble_eq_true rfl)⟩) ⟨Wd.blind, SO.recv hso hS, fun U hU hW => ⟨rfl, Wd.call hPc hDc hK hC hZ hS hFc U hU hW⟩⟩ rfl rfl hl.1 rfl (lv_room (Nat.le_of_ble_eq_true rfl)) dJ0_length_8abf5_6 ⟨(Nat.le_of_ble_eq_true rfl), (Nat.le_of_ble_eq_true rfl)⟩) hS (fun q _ h => hFc q h) hFc (fun rn1 u t H1 locs ht hvm hw hB hz1 hk1 hS => ?_)
  obtain ⟨hP1, hD1⟩ := hB
  rw [ht] at hP1
  obtain ⟨hP, hD⟩ := va_join (wr := []) (w1 := []) hP hD [] [] rfl rfl (by decide) (by decide) hk1 hFc hP1 hD1
  generalize H1 = H at hP hS ⊢
  have hP : va_P D vwCl [] H := hP
  have hD : va_D A [] := hD
  obtain rfl : rn1 = 0 := hw
  refine lv_ishr hx hb dJ0_length_8abf5_9 ?_
  refine lv_topi (fun yn2 eyn2 => ?_)
  obtain rfl : yn2 = nI bs.length := eyn2.trans (sc_shr0 (sb_lt hq))
  have hP9 := hP.sub (ws' := []) [] rfl
  have hD9 := hD.sub (ws' := []) [] (by decide) rfl
  refine W.widen (k := 0) (n := 0) (Nat.le_of_ble_eq_true rfl) (Nat.le_of_ble_eq_true rfl) ?_
  exact W.iret (v := (nI bs.length)) hx hb hr (fun t ht hW => ⟨⟨(nI bs.length), (), rfl, rfl, by rw [ht]; exact hP9, hD9⟩, hS.F ht⟩) hS.2.2 dJ0_length_8abf5_10

set_option maxHeartbeats 4000000 in
set_option maxRecDepth 100000 in
/-- withLetter: some long -/
theorem c_withLetter (l : Launch) (D : va_G) (cA : Nat → ClassId) (sa : Nat → Nat) (w : Int64) (c0 : Int32) (sz : Nat) : Met l yX8_withLetter wsX8_withLetter ({ frames := 0, cells := 0, slots := 0, locals := 0 }) (va_Pc [.long w, .int c0] (Wd D cA sa [] sz)) (va_Ql (fun (r : Int64) (_ : Unit) => True) (fun (_ : Unit) t => Wq D (va_A [] sz) [] t) (va_A [] sz)) 0 0 (va_A [] sz) := by
  refine Met.ofW (cc := cX8_withLetter) (maxL := 3) (ret := (some .long)) (by decide) rfl ?_
  intro p e s m args below meth c s₁ B hml hv
  obtain ⟨rfl, hsz, hP, hK, hD0, hC, hZ⟩ := hv
  have hx := B.exec
  have hb := B.bytes
  have hr := B.returns
  have hts := atoms_spec (ws := wsX8_withLetter) B.pre
  have hown : s.vm.findClass RX8 = some m.cls := findClass_of_methodNamed B.named
  have hlocks := B.notSynchronized
  subst hsz
  have hD := hD0.self (sz := s.heap.size)
  generalize hAe : va_A [] s.heap.size = A at hD hZ ⊢
  have hA : ∀ q : Nat, s.heap.size ≤ q → A q := fun q h => by rw [← hAe]; exact Or.inr h
  have hS : va_S A s.heap s.heap [] := va_S.rf
  have hP : va_P D vwCl [] s.heap := hP
  have hl := lv_entry ([.long w, .int c0]) (n := 3) (Nat.le_of_ble_eq_true rfl)
  rw [lg_entry_eq]
  generalize (lg_sl ([.long w, .int c0]) ++ List.replicate (3 - (lg_sl ([.long w, .int c0])).length) Slot.unset).toArray = ls at hl ⊢
  have hl : lv_has ls 3 [(0, .long w), (2, .int c0)] := hl
  refine lv_lload_n hx hb dX8_withLetter_0 rfl (lv_at hl 0 rfl) ?_
  refine lv_iconst (v := 5) hx hb dX8_withLetter_1 (by decide) ?_
  refine lv_lshl hx hb dX8_withLetter_2 rfl ?_
  refine lv_topl (fun yn1 _ => ?_)
  refine lv_iload_n hx hb dX8_withLetter_3 rfl (lv_at hl 1 rfl) ?_
  refine lv_bipush (v := 97) hx hb dX8_withLetter_4 (by decide) ?_
  refine lv_isub hx hb dX8_withLetter_6 ?_
  refine lv_iconst (v := 1) hx hb dX8_withLetter_7 (by decide) ?_
  refine lv_iadd hx hb dX8_withLetter_8 ?_
  refine lv_i2l (v := (((c0 - 97) + 1).toInt64)) hx hb dX8_withLetter_9 rfl ?_
  refine lv_lor hx hb dX8_withLetter_10 ?_
  refine lv_topl (fun yn4 _ => ?_)
  have hP9 := hP.sub (ws' := []) [] rfl
  have hD9 := hD.sub (ws' := []) [] (by decide) rfl
  refine W.widen (k := 0) (n := 0) (Nat.le_of_ble_eq_true rfl) (Nat.le_of_ble_eq_true rfl) ?_
  exact W.lret (v := yn4) hx hb hr (fun t ht hW => ⟨⟨yn4, (), rfl, trivial, by rw [ht]; exact hP9, hD9⟩, hS.F ht⟩) hS.2.2 dX8_withLetter_11

set_option maxHeartbeats 4000000 in
set_option maxRecDepth 100000 in
/-- packed: some long -/
theorem c_packed (l : Launch) (D : va_G) (cA : Nat → ClassId) (sa : Nat → Nat) (k : Nat) (bs : List Int32) (sz : Nat) (hq : (k, bs) ∈ sbL) : Met l yX8_packed wsX8_packed ({ frames := 4, cells := 0, slots := 0, locals := 85 }) (va_Pc [.ref (sa k)] (Wd D cA sa [] sz)) (va_Ql (fun (r : Int64) (_ : Unit) => True) (fun (_ : Unit) t => Wq D (va_A [] sz) [] t) (va_A [] sz)) 0 0 (va_A [] sz) := by
  refine Met.ofW (cc := cX8_packed) (maxL := 4) (ret := (some .long)) (by decide) rfl ?_
  intro p e s m args below meth c s₁ B hml hv
  obtain ⟨rfl, hsz, hP, hK, hD0, hC, hZ⟩ := hv
  have hx := B.exec
  have hb := B.bytes
  have hr := B.returns
  have hts := atoms_spec (ws := wsX8_packed) B.pre
  have hown : s.vm.findClass RX8 = some m.cls := findClass_of_methodNamed B.named
  have hlocks := B.notSynchronized
  subst hsz
  have hD := hD0.self (sz := s.heap.size)
  generalize hAe : va_A [] s.heap.size = A at hD hZ ⊢
  have hA : ∀ q : Nat, s.heap.size ≤ q → A q := fun q h => by rw [← hAe]; exact Or.inr h
  have hS : va_S A s.heap s.heap [] := va_S.rf
  have hP : va_P D vwCl [] s.heap := hP
  have hl := lv_entry ([.ref (sa k)]) (n := 4) (Nat.le_of_ble_eq_true rfl)
  rw [lg_entry_eq]
  generalize (lg_sl ([.ref (sa k)]) ++ List.replicate (4 - (lg_sl ([.ref (sa k)])).length) Slot.unset).toArray = ls at hl ⊢
  have hl : lv_has ls 4 [(0, .ref (sa k))] := hl
  have hso := hZ.2.2.2.2 (k, bs) hq
  have hsC : va_OF "java/lang/String" "coder" "B" (.int 0) (sa k) A s s.heap := hso.2.1
  have hsV : va_OF "java/lang/String" "value" "[B" (.ref (sa (1000 + k))) (sa k) A s s.heap := hso.2.2.1
  have hsT : va_T .byte (sa (1000 + k)) bs.length (fun j => .int (bs.getD j 0)) A s s.heap := hso.2.2.2
  refine lv_lconst (v := 0) hx hb dX8_packed_0 (by decide) ?_
  refine lv_lstore_n (lv' := [(1, .long 0), (0, .ref (sa k))]) hx hb dX8_packed_1 rfl hl (by decide) rfl (fun ls hl => ?_)
  refine lv_iconst (v := 0) hx hb dX8_packed_2 (by decide) ?_
  refine lv_istore_n (lv' := [(3, .int 0), (1, .long 0), (0, .ref (sa k))]) hx hb dX8_packed_3 rfl hl (by decide) rfl (fun ls hl => ?_)
  have loop : ∀ (n i : Nat) (w : Int64) (H : Heap) (locs : List Loc) (ls : Array Slot), i + n = bs.length → va_P D vwCl [] H → va_D A [] → va_S A s.heap H locs → lv_has ls 4 [(3, .int (nI i)), (1, .long w), (0, .ref (sa k))] → W p l e (headSpec wsX8_packed ({ frames := 4, cells := 0, slots := 0, locals := 85 } : Room)).room s m ([.ref (sa k)] : List Value).toArray below meth c H locs 0 0 (MQ below (va_Ql (fun (r : Int64) (_ : Unit) => True) (fun (_ : Unit) t => Wq D A [] t) A) ([.ref (sa k)] : List Value).toArray s 0 0 A) (F0 m 4 ls []) := by
    intro n
    induction n with
    | zero =>
      intro i w H locs ls hi hP hD hS hl
      obtain rfl : bs.length = i := by omega
      refine lv_iload_n hx hb dX8_packed_4 rfl (lv_at hl 0 rfl) ?_
      refine lv_aload_n hx hb dX8_packed_5 rfl (lv_at hl 2 rfl) ?_
      have hPc := hP.sub (ws' := []) [] rfl
      have hDc := hD.sub (ws' := []) [] (by decide) rfl
      have hFc := va_free (wc := []) hD hS hA [] rfl
      refine va_calli (va_runV (As := []) (rest := [.int (nI bs.length)]) ⟨hx, hb, hml, hown, hts⟩ (c_slength l D cA sa k bs H.size hq) (cwV 0 hts gX8_packed_J0_length_8abf5 rfl rfl rfl (by decide +kernel) ⟨(Nat.le_of_ble_eq_true rfl), (Nat.le_of_ble_eq_true rfl)⟩) ⟨Wd.blind, SO.recv hso hS, fun U hU hW => ⟨rfl, Wd.call hPc hDc hK hC hZ hS hFc U hU hW⟩⟩ rfl rfl hl.1 rfl (lv_room (Nat.le_of_ble_eq_true rfl)) dX8_packed_6 ⟨(Nat.le_of_ble_eq_true rfl), (Nat.le_of_ble_eq_true rfl)⟩) hS (fun q _ h => hFc q h) hFc (fun rn1 u t H1 locs ht hvm hw hB hz1 hk1 hS => ?_)
      obtain ⟨hP1, hD1⟩ := hB
      rw [ht] at hP1
      obtain ⟨hP, hD⟩ := va_join (wr := []) (w1 := []) hP hD [] [] rfl rfl (by decide) (by decide) hk1 hFc hP1 hD1
      generalize H1 = H at hP hS ⊢
      have hP : va_P D vwCl [] H := hP
      have hD : va_D A [] := hD
      obtain rfl : rn1 = (nI bs.length) := hw
      refine lv_icmp_ge (tgt := 28) hx hb dX8_packed_9 (by decide) (fun c2 => ?_) (fun c9 => absurd c9 (fun h3 => h3 (nI_le (Nat.le_refl bs.length) (sb_lt hq))))
      refine lv_lload_n hx hb dX8_packed_28 rfl (lv_at hl 1 rfl) ?_
      have hP9 := hP.sub (ws' := []) [] rfl
      have hD9 := hD.sub (ws' := []) [] (by decide) rfl
      refine W.widen (k := 0) (n := 0) (Nat.le_of_ble_eq_true rfl) (Nat.le_of_ble_eq_true rfl) ?_
      exact W.lret (v := w) hx hb hr (fun t ht hW => ⟨⟨w, (), rfl, trivial, by rw [ht]; exact hP9, hD9⟩, hS.F ht⟩) hS.2.2 dX8_packed_29
    | succ n ih =>
      intro i w H locs ls hi hP hD hS hl
      refine lv_iload_n hx hb dX8_packed_4 rfl (lv_at hl 0 rfl) ?_
      refine lv_aload_n hx hb dX8_packed_5 rfl (lv_at hl 2 rfl) ?_
      have hPc := hP.sub (ws' := []) [] rfl
      have hDc := hD.sub (ws' := []) [] (by decide) rfl
      have hFc := va_free (wc := []) hD hS hA [] rfl
      refine va_calli (va_runV (As := []) (rest := [.int (nI i)]) ⟨hx, hb, hml, hown, hts⟩ (c_slength l D cA sa k bs H.size hq) (cwV 0 hts gX8_packed_J0_length_8abf5 rfl rfl rfl (by decide +kernel) ⟨(Nat.le_of_ble_eq_true rfl), (Nat.le_of_ble_eq_true rfl)⟩) ⟨Wd.blind, SO.recv hso hS, fun U hU hW => ⟨rfl, Wd.call hPc hDc hK hC hZ hS hFc U hU hW⟩⟩ rfl rfl hl.1 rfl (lv_room (Nat.le_of_ble_eq_true rfl)) dX8_packed_6 ⟨(Nat.le_of_ble_eq_true rfl), (Nat.le_of_ble_eq_true rfl)⟩) hS (fun q _ h => hFc q h) hFc (fun rn3 u t H1 locs ht hvm hw hB hz1 hk1 hS => ?_)
      obtain ⟨hP1, hD1⟩ := hB
      rw [ht] at hP1
      obtain ⟨hP, hD⟩ := va_join (wr := []) (w1 := []) hP hD [] [] rfl rfl (by decide) (by decide) hk1 hFc hP1 hD1
      generalize H1 = H at hP hS ⊢
      have hP : va_P D vwCl [] H := hP
      have hD : va_D A [] := hD
      obtain rfl : rn3 = (nI bs.length) := hw
      refine lv_icmp_ge (tgt := 28) hx hb dX8_packed_9 (by decide) (fun c9 => absurd c9 (nI_ge (show i < bs.length by omega) (sb_lt hq))) (fun c4 => ?_)
      refine lv_lload_n hx hb dX8_packed_12 rfl (lv_at hl 1 rfl) ?_
      refine lv_aload_n hx hb dX8_packed_13 rfl (lv_at hl 2 rfl) ?_
      refine lv_iload_n hx hb dX8_packed_14 rfl (lv_at hl 0 rfl) ?_
      have hPc := hP.sub (ws' := []) [] rfl
      have hDc := hD.sub (ws' := []) [] (by decide) rfl
      have hFc := va_free (wc := []) hD hS hA [] rfl
      refine va_calli (va_runV (As := [.int (nI i)]) (rest := [.long w]) ⟨hx, hb, hml, hown, hts⟩ (c_charAt l D cA sa k i bs H.size hq (show i < bs.length by omega)) (cwV 1 hts gX8_packed_J0_charAt_5068e rfl rfl rfl (by decide +kernel) ⟨(Nat.le_of_ble_eq_true rfl), (Nat.le_of_ble_eq_true rfl)⟩) ⟨Wd.blind, SO.recv hso hS, fun U hU hW => ⟨rfl, Wd.call hPc hDc hK hC hZ hS hFc U hU hW⟩⟩ rfl rfl hl.1 rfl (lv_room (Nat.le_of_ble_eq_true rfl)) dX8_packed_15 ⟨(Nat.le_of_ble_eq_true rfl), (Nat.le_of_ble_eq_true rfl)⟩) hS (fun q _ h => hFc q h) hFc (fun rn5 u t H1 locs ht hvm hw hB hz1 hk1 hS => ?_)
      obtain ⟨hP1, hD1⟩ := hB
      rw [ht] at hP1
      obtain ⟨hP, hD⟩ := va_join (wr := []) (w1 := []) hP hD [] [] rfl rfl (by decide) (by decide) hk1 hFc hP1 hD1
      generalize H1 = H at hP hS ⊢
      have hP : va_P D vwCl [] H := hP
      have hD : va_D A [] := hD
      obtain rfl : rn5 = (bs.getD i 0) := hw
      have hPc := hP.sub (ws' := []) [] rfl
      have hDc := hD.sub (ws' := []) [] (by decide) rfl
      have hFc := va_free (wc := []) hD hS hA [] rfl
      refine va_calll (va_runS (As := [.long w, .int (bs.getD i 0)]) (rest := []) ⟨hx, hb, hml, hown, hts⟩ (c_withLetter l D cA sa w (bs.getD i 0) H.size) (va_cwS 2 hts gX8_packed_X8_withLetter rfl rfl rfl (by decide +kernel) ⟨(Nat.le_of_ble_eq_true rfl), (Nat.le_of_ble_eq_true rfl)⟩) ⟨Wd.blind, fun U hU hW => ⟨rfl, Wd.call hPc hDc hK hC hZ hS hFc U hU hW⟩⟩ rfl rfl hl.1 rfl (lv_room (Nat.le_of_ble_eq_true rfl)) dX8_packed_18 ⟨(Nat.le_of_ble_eq_true rfl), (Nat.le_of_ble_eq_true rfl)⟩) hS (fun q _ h => hFc q h) hFc (fun rn6 u t H1 locs ht hvm hw hB hz1 hk1 hS => ?_)
      obtain ⟨hP1, hD1⟩ := hB
      rw [ht] at hP1
      obtain ⟨hP, hD⟩ := va_join (wr := []) (w1 := []) hP hD [] [] rfl rfl (by decide) (by decide) hk1 hFc hP1 hD1
      generalize H1 = H at hP hS ⊢
      have hP : va_P D vwCl [] H := hP
      have hD : va_D A [] := hD
      refine lv_lstore_n (lv' := [(1, .long rn6), (3, .int (nI i)), (0, .ref (sa k))]) hx hb dX8_packed_21 rfl hl (by decide) rfl (fun ls hl => ?_)
      refine lv_iinc (v := (nI (i + 1))) (lv' := [(3, .int (nI (i + 1))), (1, .long rn6), (0, .ref (sa k))]) hx hb dX8_packed_22 hl (k := 1) rfl (nI_1 _) (by decide) rfl (fun ls hl => ?_)
      refine lv_goto (tgt := 4) hx hb dX8_packed_25 (by decide) ?_
      exact ih (i + 1) rn6 H _ ls (by omega) (hP.sub [] rfl) (hD.sub [] (by decide) rfl) hS (lv_sub hl [0, 1, 2] rfl)
  exact loop bs.length 0 0 _ _ ls (by omega) (hP.sub [] rfl) (hD.sub [] (by decide) rfl) hS (lv_sub hl [0, 1, 2] rfl)

set_option maxHeartbeats 4000000 in
set_option maxRecDepth 100000 in
/-- spelling(8) -/
theorem c_spell_8 (l : Launch) (D : va_G) (cA : Nat → ClassId) (sa : Nat → Nat)  (sz : Nat) : Met l yX7_spelling wsX7_spelling ({ frames := 0, cells := 0, slots := 0, locals := 0 }) (va_Pc [.int 8] (Wd D cA sa [] sz)) (va_Qr (fun _ : Unit => True) (fun (_ : Unit) (a9 : Nat) t => a9 = (sa 1) ∧ Wq D (va_A [] sz) [] t) (va_A [] sz)) 0 0 (va_A [] sz) := by
  refine Met.ofW (cc := cX7_spelling) (maxL := 1) (ret := (some (.object "java/lang/String"))) (by decide) rfl ?_
  intro p e s m args below meth c s₁ B hml hv
  obtain ⟨rfl, hsz, hP, hK, hD0, hC, hZ⟩ := hv
  have hx := B.exec
  have hb := B.bytes
  have hr := B.returns
  have hts := atoms_spec (ws := wsX7_spelling) B.pre
  have hown : s.vm.findClass RX7 = some m.cls := findClass_of_methodNamed B.named
  have hlocks := B.notSynchronized
  subst hsz
  have hD := hD0.self (sz := s.heap.size)
  generalize hAe : va_A [] s.heap.size = A at hD hZ ⊢
  have hA : ∀ q : Nat, s.heap.size ≤ q → A q := fun q h => by rw [← hAe]; exact Or.inr h
  have hS : va_S A s.heap s.heap [] := va_S.rf
  have hP : va_P D vwCl [] s.heap := hP
  have hl := lv_entry ([.int 8]) (n := 1) (Nat.le_of_ble_eq_true rfl)
  rw [lg_entry_eq]
  generalize (lg_sl ([.int 8]) ++ List.replicate (1 - (lg_sl ([.int 8])).length) Slot.unset).toArray = ls at hl ⊢
  have hl : lv_has ls 1 [(0, .int 8)] := hl
  refine lv_iload_n hx hb dX7_spelling_0 rfl (lv_at hl 0 rfl) ?_
  refine lv_tableIn (off := 75) (tgt := 76) hx hb dX7_spelling_1 (by decide) (by decide) (by decide) (by decide) ?_
  refine va_ldcS hx hb hown (hC.str 1 rfl) dX7_spelling_76 ?_
  have hP9 := hP.sub (ws' := []) [] rfl
  have hD9 := hD.sub (ws' := []) [] (by decide) rfl
  refine W.widen (k := 0) (n := 0) (Nat.le_of_ble_eq_true rfl) (Nat.le_of_ble_eq_true rfl) ?_
  exact W.aret (v := .ref (sa 1)) hx hb hr (Or.inl ⟨_, rfl⟩) (Or.inr ⟨_, rfl⟩) (fun t ht hW => ⟨⟨(), (sa 1), rfl, trivial, rfl, by rw [ht]; exact hP9, hD9⟩, hS.F ht⟩) hS.2.2 dX7_spelling_78

set_option maxHeartbeats 4000000 in
set_option maxRecDepth 100000 in
/-- spelling(9) -/
theorem c_spell_9 (l : Launch) (D : va_G) (cA : Nat → ClassId) (sa : Nat → Nat)  (sz : Nat) : Met l yX7_spelling wsX7_spelling ({ frames := 0, cells := 0, slots := 0, locals := 0 }) (va_Pc [.int 9] (Wd D cA sa [] sz)) (va_Qr (fun _ : Unit => True) (fun (_ : Unit) (a9 : Nat) t => a9 = (sa 2) ∧ Wq D (va_A [] sz) [] t) (va_A [] sz)) 0 0 (va_A [] sz) := by
  refine Met.ofW (cc := cX7_spelling) (maxL := 1) (ret := (some (.object "java/lang/String"))) (by decide) rfl ?_
  intro p e s m args below meth c s₁ B hml hv
  obtain ⟨rfl, hsz, hP, hK, hD0, hC, hZ⟩ := hv
  have hx := B.exec
  have hb := B.bytes
  have hr := B.returns
  have hts := atoms_spec (ws := wsX7_spelling) B.pre
  have hown : s.vm.findClass RX7 = some m.cls := findClass_of_methodNamed B.named
  have hlocks := B.notSynchronized
  subst hsz
  have hD := hD0.self (sz := s.heap.size)
  generalize hAe : va_A [] s.heap.size = A at hD hZ ⊢
  have hA : ∀ q : Nat, s.heap.size ≤ q → A q := fun q h => by rw [← hAe]; exact Or.inr h
  have hS : va_S A s.heap s.heap [] := va_S.rf
  have hP : va_P D vwCl [] s.heap := hP
  have hl := lv_entry ([.int 9]) (n := 1) (Nat.le_of_ble_eq_true rfl)
  rw [lg_entry_eq]
  generalize (lg_sl ([.int 9]) ++ List.replicate (1 - (lg_sl ([.int 9])).length) Slot.unset).toArray = ls at hl ⊢
  have hl : lv_has ls 1 [(0, .int 9)] := hl
  refine lv_iload_n hx hb dX7_spelling_0 rfl (lv_at hl 0 rfl) ?_
  refine lv_tableIn (off := 78) (tgt := 79) hx hb dX7_spelling_1 (by decide) (by decide) (by decide) (by decide) ?_
  refine va_ldcS hx hb hown (hC.str 2 rfl) dX7_spelling_79 ?_
  have hP9 := hP.sub (ws' := []) [] rfl
  have hD9 := hD.sub (ws' := []) [] (by decide) rfl
  refine W.widen (k := 0) (n := 0) (Nat.le_of_ble_eq_true rfl) (Nat.le_of_ble_eq_true rfl) ?_
  exact W.aret (v := .ref (sa 2)) hx hb hr (Or.inl ⟨_, rfl⟩) (Or.inr ⟨_, rfl⟩) (fun t ht hW => ⟨⟨(), (sa 2), rfl, trivial, rfl, by rw [ht]; exact hP9, hD9⟩, hS.F ht⟩) hS.2.2 dX7_spelling_81

set_option maxHeartbeats 4000000 in
set_option maxRecDepth 100000 in
/-- spelling(10) -/
theorem c_spell_10 (l : Launch) (D : va_G) (cA : Nat → ClassId) (sa : Nat → Nat)  (sz : Nat) : Met l yX7_spelling wsX7_spelling ({ frames := 0, cells := 0, slots := 0, locals := 0 }) (va_Pc [.int 10] (Wd D cA sa [] sz)) (va_Qr (fun _ : Unit => True) (fun (_ : Unit) (a9 : Nat) t => a9 = (sa 3) ∧ Wq D (va_A [] sz) [] t) (va_A [] sz)) 0 0 (va_A [] sz) := by
  refine Met.ofW (cc := cX7_spelling) (maxL := 1) (ret := (some (.object "java/lang/String"))) (by decide) rfl ?_
  intro p e s m args below meth c s₁ B hml hv
  obtain ⟨rfl, hsz, hP, hK, hD0, hC, hZ⟩ := hv
  have hx := B.exec
  have hb := B.bytes
  have hr := B.returns
  have hts := atoms_spec (ws := wsX7_spelling) B.pre
  have hown : s.vm.findClass RX7 = some m.cls := findClass_of_methodNamed B.named
  have hlocks := B.notSynchronized
  subst hsz
  have hD := hD0.self (sz := s.heap.size)
  generalize hAe : va_A [] s.heap.size = A at hD hZ ⊢
  have hA : ∀ q : Nat, s.heap.size ≤ q → A q := fun q h => by rw [← hAe]; exact Or.inr h
  have hS : va_S A s.heap s.heap [] := va_S.rf
  have hP : va_P D vwCl [] s.heap := hP
  have hl := lv_entry ([.int 10]) (n := 1) (Nat.le_of_ble_eq_true rfl)
  rw [lg_entry_eq]
  generalize (lg_sl ([.int 10]) ++ List.replicate (1 - (lg_sl ([.int 10])).length) Slot.unset).toArray = ls at hl ⊢
  have hl : lv_has ls 1 [(0, .int 10)] := hl
  refine lv_iload_n hx hb dX7_spelling_0 rfl (lv_at hl 0 rfl) ?_
  refine lv_tableIn (off := 81) (tgt := 82) hx hb dX7_spelling_1 (by decide) (by decide) (by decide) (by decide) ?_
  refine va_ldcS hx hb hown (hC.str 3 rfl) dX7_spelling_82 ?_
  have hP9 := hP.sub (ws' := []) [] rfl
  have hD9 := hD.sub (ws' := []) [] (by decide) rfl
  refine W.widen (k := 0) (n := 0) (Nat.le_of_ble_eq_true rfl) (Nat.le_of_ble_eq_true rfl) ?_
  exact W.aret (v := .ref (sa 3)) hx hb hr (Or.inl ⟨_, rfl⟩) (Or.inr ⟨_, rfl⟩) (fun t ht hW => ⟨⟨(), (sa 3), rfl, trivial, rfl, by rw [ht]; exact hP9, hD9⟩, hS.F ht⟩) hS.2.2 dX7_spelling_84

set_option maxHeartbeats 4000000 in
set_option maxRecDepth 100000 in
/-- spelling(11) -/
theorem c_spell_11 (l : Launch) (D : va_G) (cA : Nat → ClassId) (sa : Nat → Nat)  (sz : Nat) : Met l yX7_spelling wsX7_spelling ({ frames := 0, cells := 0, slots := 0, locals := 0 }) (va_Pc [.int 11] (Wd D cA sa [] sz)) (va_Qr (fun _ : Unit => True) (fun (_ : Unit) (a9 : Nat) t => a9 = (sa 4) ∧ Wq D (va_A [] sz) [] t) (va_A [] sz)) 0 0 (va_A [] sz) := by
  refine Met.ofW (cc := cX7_spelling) (maxL := 1) (ret := (some (.object "java/lang/String"))) (by decide) rfl ?_
  intro p e s m args below meth c s₁ B hml hv
  obtain ⟨rfl, hsz, hP, hK, hD0, hC, hZ⟩ := hv
  have hx := B.exec
  have hb := B.bytes
  have hr := B.returns
  have hts := atoms_spec (ws := wsX7_spelling) B.pre
  have hown : s.vm.findClass RX7 = some m.cls := findClass_of_methodNamed B.named
  have hlocks := B.notSynchronized
  subst hsz
  have hD := hD0.self (sz := s.heap.size)
  generalize hAe : va_A [] s.heap.size = A at hD hZ ⊢
  have hA : ∀ q : Nat, s.heap.size ≤ q → A q := fun q h => by rw [← hAe]; exact Or.inr h
  have hS : va_S A s.heap s.heap [] := va_S.rf
  have hP : va_P D vwCl [] s.heap := hP
  have hl := lv_entry ([.int 11]) (n := 1) (Nat.le_of_ble_eq_true rfl)
  rw [lg_entry_eq]
  generalize (lg_sl ([.int 11]) ++ List.replicate (1 - (lg_sl ([.int 11])).length) Slot.unset).toArray = ls at hl ⊢
  have hl : lv_has ls 1 [(0, .int 11)] := hl
  refine lv_iload_n hx hb dX7_spelling_0 rfl (lv_at hl 0 rfl) ?_
  refine lv_tableIn (off := 84) (tgt := 85) hx hb dX7_spelling_1 (by decide) (by decide) (by decide) (by decide) ?_
  refine va_ldcS hx hb hown (hC.str 4 rfl) dX7_spelling_85 ?_
  have hP9 := hP.sub (ws' := []) [] rfl
  have hD9 := hD.sub (ws' := []) [] (by decide) rfl
  refine W.widen (k := 0) (n := 0) (Nat.le_of_ble_eq_true rfl) (Nat.le_of_ble_eq_true rfl) ?_
  exact W.aret (v := .ref (sa 4)) hx hb hr (Or.inl ⟨_, rfl⟩) (Or.inr ⟨_, rfl⟩) (fun t ht hW => ⟨⟨(), (sa 4), rfl, trivial, rfl, by rw [ht]; exact hP9, hD9⟩, hS.F ht⟩) hS.2.2 dX7_spelling_87

set_option maxHeartbeats 4000000 in
set_option maxRecDepth 100000 in
/-- spelling(12) -/
theorem c_spell_12 (l : Launch) (D : va_G) (cA : Nat → ClassId) (sa : Nat → Nat)  (sz : Nat) : Met l yX7_spelling wsX7_spelling ({ frames := 0, cells := 0, slots := 0, locals := 0 }) (va_Pc [.int 12] (Wd D cA sa [] sz)) (va_Qr (fun _ : Unit => True) (fun (_ : Unit) (a9 : Nat) t => a9 = (sa 5) ∧ Wq D (va_A [] sz) [] t) (va_A [] sz)) 0 0 (va_A [] sz) := by
  refine Met.ofW (cc := cX7_spelling) (maxL := 1) (ret := (some (.object "java/lang/String"))) (by decide) rfl ?_
  intro p e s m args below meth c s₁ B hml hv
  obtain ⟨rfl, hsz, hP, hK, hD0, hC, hZ⟩ := hv
  have hx := B.exec
  have hb := B.bytes
  have hr := B.returns
  have hts := atoms_spec (ws := wsX7_spelling) B.pre
  have hown : s.vm.findClass RX7 = some m.cls := findClass_of_methodNamed B.named
  have hlocks := B.notSynchronized
  subst hsz
  have hD := hD0.self (sz := s.heap.size)
  generalize hAe : va_A [] s.heap.size = A at hD hZ ⊢
  have hA : ∀ q : Nat, s.heap.size ≤ q → A q := fun q h => by rw [← hAe]; exact Or.inr h
  have hS : va_S A s.heap s.heap [] := va_S.rf
  have hP : va_P D vwCl [] s.heap := hP
  have hl := lv_entry ([.int 12]) (n := 1) (Nat.le_of_ble_eq_true rfl)
  rw [lg_entry_eq]
  generalize (lg_sl ([.int 12]) ++ List.replicate (1 - (lg_sl ([.int 12])).length) Slot.unset).toArray = ls at hl ⊢
  have hl : lv_has ls 1 [(0, .int 12)] := hl
  refine lv_iload_n hx hb dX7_spelling_0 rfl (lv_at hl 0 rfl) ?_
  refine lv_tableIn (off := 87) (tgt := 88) hx hb dX7_spelling_1 (by decide) (by decide) (by decide) (by decide) ?_
  refine va_ldcS hx hb hown (hC.str 5 rfl) dX7_spelling_88 ?_
  have hP9 := hP.sub (ws' := []) [] rfl
  have hD9 := hD.sub (ws' := []) [] (by decide) rfl
  refine W.widen (k := 0) (n := 0) (Nat.le_of_ble_eq_true rfl) (Nat.le_of_ble_eq_true rfl) ?_
  exact W.aret (v := .ref (sa 5)) hx hb hr (Or.inl ⟨_, rfl⟩) (Or.inr ⟨_, rfl⟩) (fun t ht hW => ⟨⟨(), (sa 5), rfl, trivial, rfl, by rw [ht]; exact hP9, hD9⟩, hS.F ht⟩) hS.2.2 dX7_spelling_90

set_option maxHeartbeats 4000000 in
set_option maxRecDepth 100000 in
/-- spelling(13) -/
theorem c_spell_13 (l : Launch) (D : va_G) (cA : Nat → ClassId) (sa : Nat → Nat)  (sz : Nat) : Met l yX7_spelling wsX7_spelling ({ frames := 0, cells := 0, slots := 0, locals := 0 }) (va_Pc [.int 13] (Wd D cA sa [] sz)) (va_Qr (fun _ : Unit => True) (fun (_ : Unit) (a9 : Nat) t => a9 = (sa 6) ∧ Wq D (va_A [] sz) [] t) (va_A [] sz)) 0 0 (va_A [] sz) := by
  refine Met.ofW (cc := cX7_spelling) (maxL := 1) (ret := (some (.object "java/lang/String"))) (by decide) rfl ?_
  intro p e s m args below meth c s₁ B hml hv
  obtain ⟨rfl, hsz, hP, hK, hD0, hC, hZ⟩ := hv
  have hx := B.exec
  have hb := B.bytes
  have hr := B.returns
  have hts := atoms_spec (ws := wsX7_spelling) B.pre
  have hown : s.vm.findClass RX7 = some m.cls := findClass_of_methodNamed B.named
  have hlocks := B.notSynchronized
  subst hsz
  have hD := hD0.self (sz := s.heap.size)
  generalize hAe : va_A [] s.heap.size = A at hD hZ ⊢
  have hA : ∀ q : Nat, s.heap.size ≤ q → A q := fun q h => by rw [← hAe]; exact Or.inr h
  have hS : va_S A s.heap s.heap [] := va_S.rf
  have hP : va_P D vwCl [] s.heap := hP
  have hl := lv_entry ([.int 13]) (n := 1) (Nat.le_of_ble_eq_true rfl)
  rw [lg_entry_eq]
  generalize (lg_sl ([.int 13]) ++ List.replicate (1 - (lg_sl ([.int 13])).length) Slot.unset).toArray = ls at hl ⊢
  have hl : lv_has ls 1 [(0, .int 13)] := hl
  refine lv_iload_n hx hb dX7_spelling_0 rfl (lv_at hl 0 rfl) ?_
  refine lv_tableIn (off := 90) (tgt := 91) hx hb dX7_spelling_1 (by decide) (by decide) (by decide) (by decide) ?_
  refine va_ldcS hx hb hown (hC.str 6 rfl) dX7_spelling_91 ?_
  have hP9 := hP.sub (ws' := []) [] rfl
  have hD9 := hD.sub (ws' := []) [] (by decide) rfl
  refine W.widen (k := 0) (n := 0) (Nat.le_of_ble_eq_true rfl) (Nat.le_of_ble_eq_true rfl) ?_
  exact W.aret (v := .ref (sa 6)) hx hb hr (Or.inl ⟨_, rfl⟩) (Or.inr ⟨_, rfl⟩) (fun t ht hW => ⟨⟨(), (sa 6), rfl, trivial, rfl, by rw [ht]; exact hP9, hD9⟩, hS.F ht⟩) hS.2.2 dX7_spelling_93

set_option maxHeartbeats 4000000 in
set_option maxRecDepth 100000 in
/-- spelling(14) -/
theorem c_spell_14 (l : Launch) (D : va_G) (cA : Nat → ClassId) (sa : Nat → Nat)  (sz : Nat) : Met l yX7_spelling wsX7_spelling ({ frames := 0, cells := 0, slots := 0, locals := 0 }) (va_Pc [.int 14] (Wd D cA sa [] sz)) (va_Qr (fun _ : Unit => True) (fun (_ : Unit) (a9 : Nat) t => a9 = (sa 7) ∧ Wq D (va_A [] sz) [] t) (va_A [] sz)) 0 0 (va_A [] sz) := by
  refine Met.ofW (cc := cX7_spelling) (maxL := 1) (ret := (some (.object "java/lang/String"))) (by decide) rfl ?_
  intro p e s m args below meth c s₁ B hml hv
  obtain ⟨rfl, hsz, hP, hK, hD0, hC, hZ⟩ := hv
  have hx := B.exec
  have hb := B.bytes
  have hr := B.returns
  have hts := atoms_spec (ws := wsX7_spelling) B.pre
  have hown : s.vm.findClass RX7 = some m.cls := findClass_of_methodNamed B.named
  have hlocks := B.notSynchronized
  subst hsz
  have hD := hD0.self (sz := s.heap.size)
  generalize hAe : va_A [] s.heap.size = A at hD hZ ⊢
  have hA : ∀ q : Nat, s.heap.size ≤ q → A q := fun q h => by rw [← hAe]; exact Or.inr h
  have hS : va_S A s.heap s.heap [] := va_S.rf
  have hP : va_P D vwCl [] s.heap := hP
  have hl := lv_entry ([.int 14]) (n := 1) (Nat.le_of_ble_eq_true rfl)
  rw [lg_entry_eq]
  generalize (lg_sl ([.int 14]) ++ List.replicate (1 - (lg_sl ([.int 14])).length) Slot.unset).toArray = ls at hl ⊢
  have hl : lv_has ls 1 [(0, .int 14)] := hl
  refine lv_iload_n hx hb dX7_spelling_0 rfl (lv_at hl 0 rfl) ?_
  refine lv_tableIn (off := 93) (tgt := 94) hx hb dX7_spelling_1 (by decide) (by decide) (by decide) (by decide) ?_
  refine va_ldcS hx hb hown (hC.str 7 rfl) dX7_spelling_94 ?_
  have hP9 := hP.sub (ws' := []) [] rfl
  have hD9 := hD.sub (ws' := []) [] (by decide) rfl
  refine W.widen (k := 0) (n := 0) (Nat.le_of_ble_eq_true rfl) (Nat.le_of_ble_eq_true rfl) ?_
  exact W.aret (v := .ref (sa 7)) hx hb hr (Or.inl ⟨_, rfl⟩) (Or.inr ⟨_, rfl⟩) (fun t ht hW => ⟨⟨(), (sa 7), rfl, trivial, rfl, by rw [ht]; exact hP9, hD9⟩, hS.F ht⟩) hS.2.2 dX7_spelling_96

set_option maxHeartbeats 4000000 in
set_option maxRecDepth 100000 in
/-- spelling(15) -/
theorem c_spell_15 (l : Launch) (D : va_G) (cA : Nat → ClassId) (sa : Nat → Nat)  (sz : Nat) : Met l yX7_spelling wsX7_spelling ({ frames := 0, cells := 0, slots := 0, locals := 0 }) (va_Pc [.int 15] (Wd D cA sa [] sz)) (va_Qr (fun _ : Unit => True) (fun (_ : Unit) (a9 : Nat) t => a9 = (sa 8) ∧ Wq D (va_A [] sz) [] t) (va_A [] sz)) 0 0 (va_A [] sz) := by
  refine Met.ofW (cc := cX7_spelling) (maxL := 1) (ret := (some (.object "java/lang/String"))) (by decide) rfl ?_
  intro p e s m args below meth c s₁ B hml hv
  obtain ⟨rfl, hsz, hP, hK, hD0, hC, hZ⟩ := hv
  have hx := B.exec
  have hb := B.bytes
  have hr := B.returns
  have hts := atoms_spec (ws := wsX7_spelling) B.pre
  have hown : s.vm.findClass RX7 = some m.cls := findClass_of_methodNamed B.named
  have hlocks := B.notSynchronized
  subst hsz
  have hD := hD0.self (sz := s.heap.size)
  generalize hAe : va_A [] s.heap.size = A at hD hZ ⊢
  have hA : ∀ q : Nat, s.heap.size ≤ q → A q := fun q h => by rw [← hAe]; exact Or.inr h
  have hS : va_S A s.heap s.heap [] := va_S.rf
  have hP : va_P D vwCl [] s.heap := hP
  have hl := lv_entry ([.int 15]) (n := 1) (Nat.le_of_ble_eq_true rfl)
  rw [lg_entry_eq]
  generalize (lg_sl ([.int 15]) ++ List.replicate (1 - (lg_sl ([.int 15])).length) Slot.unset).toArray = ls at hl ⊢
  have hl : lv_has ls 1 [(0, .int 15)] := hl
  refine lv_iload_n hx hb dX7_spelling_0 rfl (lv_at hl 0 rfl) ?_
  refine lv_tableIn (off := 96) (tgt := 97) hx hb dX7_spelling_1 (by decide) (by decide) (by decide) (by decide) ?_
  refine va_ldcS hx hb hown (hC.str 8 rfl) dX7_spelling_97 ?_
  have hP9 := hP.sub (ws' := []) [] rfl
  have hD9 := hD.sub (ws' := []) [] (by decide) rfl
  refine W.widen (k := 0) (n := 0) (Nat.le_of_ble_eq_true rfl) (Nat.le_of_ble_eq_true rfl) ?_
  exact W.aret (v := .ref (sa 8)) hx hb hr (Or.inl ⟨_, rfl⟩) (Or.inr ⟨_, rfl⟩) (fun t ht hW => ⟨⟨(), (sa 8), rfl, trivial, rfl, by rw [ht]; exact hP9, hD9⟩, hS.F ht⟩) hS.2.2 dX7_spelling_99

set_option maxHeartbeats 4000000 in
set_option maxRecDepth 100000 in
/-- spelling(16) -/
theorem c_spell_16 (l : Launch) (D : va_G) (cA : Nat → ClassId) (sa : Nat → Nat)  (sz : Nat) : Met l yX7_spelling wsX7_spelling ({ frames := 0, cells := 0, slots := 0, locals := 0 }) (va_Pc [.int 16] (Wd D cA sa [] sz)) (va_Qr (fun _ : Unit => True) (fun (_ : Unit) (a9 : Nat) t => a9 = (sa 9) ∧ Wq D (va_A [] sz) [] t) (va_A [] sz)) 0 0 (va_A [] sz) := by
  refine Met.ofW (cc := cX7_spelling) (maxL := 1) (ret := (some (.object "java/lang/String"))) (by decide) rfl ?_
  intro p e s m args below meth c s₁ B hml hv
  obtain ⟨rfl, hsz, hP, hK, hD0, hC, hZ⟩ := hv
  have hx := B.exec
  have hb := B.bytes
  have hr := B.returns
  have hts := atoms_spec (ws := wsX7_spelling) B.pre
  have hown : s.vm.findClass RX7 = some m.cls := findClass_of_methodNamed B.named
  have hlocks := B.notSynchronized
  subst hsz
  have hD := hD0.self (sz := s.heap.size)
  generalize hAe : va_A [] s.heap.size = A at hD hZ ⊢
  have hA : ∀ q : Nat, s.heap.size ≤ q → A q := fun q h => by rw [← hAe]; exact Or.inr h
  have hS : va_S A s.heap s.heap [] := va_S.rf
  have hP : va_P D vwCl [] s.heap := hP
  have hl := lv_entry ([.int 16]) (n := 1) (Nat.le_of_ble_eq_true rfl)
  rw [lg_entry_eq]
  generalize (lg_sl ([.int 16]) ++ List.replicate (1 - (lg_sl ([.int 16])).length) Slot.unset).toArray = ls at hl ⊢
  have hl : lv_has ls 1 [(0, .int 16)] := hl
  refine lv_iload_n hx hb dX7_spelling_0 rfl (lv_at hl 0 rfl) ?_
  refine lv_tableIn (off := 99) (tgt := 100) hx hb dX7_spelling_1 (by decide) (by decide) (by decide) (by decide) ?_
  refine va_ldcS hx hb hown (hC.str 9 rfl) dX7_spelling_100 ?_
  have hP9 := hP.sub (ws' := []) [] rfl
  have hD9 := hD.sub (ws' := []) [] (by decide) rfl
  refine W.widen (k := 0) (n := 0) (Nat.le_of_ble_eq_true rfl) (Nat.le_of_ble_eq_true rfl) ?_
  exact W.aret (v := .ref (sa 9)) hx hb hr (Or.inl ⟨_, rfl⟩) (Or.inr ⟨_, rfl⟩) (fun t ht hW => ⟨⟨(), (sa 9), rfl, trivial, rfl, by rw [ht]; exact hP9, hD9⟩, hS.F ht⟩) hS.2.2 dX7_spelling_102

set_option maxHeartbeats 4000000 in
set_option maxRecDepth 100000 in
/-- spelling(17) -/
theorem c_spell_17 (l : Launch) (D : va_G) (cA : Nat → ClassId) (sa : Nat → Nat)  (sz : Nat) : Met l yX7_spelling wsX7_spelling ({ frames := 0, cells := 0, slots := 0, locals := 0 }) (va_Pc [.int 17] (Wd D cA sa [] sz)) (va_Qr (fun _ : Unit => True) (fun (_ : Unit) (a9 : Nat) t => a9 = (sa 10) ∧ Wq D (va_A [] sz) [] t) (va_A [] sz)) 0 0 (va_A [] sz) := by
  refine Met.ofW (cc := cX7_spelling) (maxL := 1) (ret := (some (.object "java/lang/String"))) (by decide) rfl ?_
  intro p e s m args below meth c s₁ B hml hv
  obtain ⟨rfl, hsz, hP, hK, hD0, hC, hZ⟩ := hv
  have hx := B.exec
  have hb := B.bytes
  have hr := B.returns
  have hts := atoms_spec (ws := wsX7_spelling) B.pre
  have hown : s.vm.findClass RX7 = some m.cls := findClass_of_methodNamed B.named
  have hlocks := B.notSynchronized
  subst hsz
  have hD := hD0.self (sz := s.heap.size)
  generalize hAe : va_A [] s.heap.size = A at hD hZ ⊢
  have hA : ∀ q : Nat, s.heap.size ≤ q → A q := fun q h => by rw [← hAe]; exact Or.inr h
  have hS : va_S A s.heap s.heap [] := va_S.rf
  have hP : va_P D vwCl [] s.heap := hP
  have hl := lv_entry ([.int 17]) (n := 1) (Nat.le_of_ble_eq_true rfl)
  rw [lg_entry_eq]
  generalize (lg_sl ([.int 17]) ++ List.replicate (1 - (lg_sl ([.int 17])).length) Slot.unset).toArray = ls at hl ⊢
  have hl : lv_has ls 1 [(0, .int 17)] := hl
  refine lv_iload_n hx hb dX7_spelling_0 rfl (lv_at hl 0 rfl) ?_
  refine lv_tableIn (off := 102) (tgt := 103) hx hb dX7_spelling_1 (by decide) (by decide) (by decide) (by decide) ?_
  refine va_ldcS hx hb hown (hC.str 10 rfl) dX7_spelling_103 ?_
  have hP9 := hP.sub (ws' := []) [] rfl
  have hD9 := hD.sub (ws' := []) [] (by decide) rfl
  refine W.widen (k := 0) (n := 0) (Nat.le_of_ble_eq_true rfl) (Nat.le_of_ble_eq_true rfl) ?_
  exact W.aret (v := .ref (sa 10)) hx hb hr (Or.inl ⟨_, rfl⟩) (Or.inr ⟨_, rfl⟩) (fun t ht hW => ⟨⟨(), (sa 10), rfl, trivial, rfl, by rw [ht]; exact hP9, hD9⟩, hS.F ht⟩) hS.2.2 dX7_spelling_105

set_option maxHeartbeats 4000000 in
set_option maxRecDepth 100000 in
/-- spelling(18) -/
theorem c_spell_18 (l : Launch) (D : va_G) (cA : Nat → ClassId) (sa : Nat → Nat)  (sz : Nat) : Met l yX7_spelling wsX7_spelling ({ frames := 0, cells := 0, slots := 0, locals := 0 }) (va_Pc [.int 18] (Wd D cA sa [] sz)) (va_Qr (fun _ : Unit => True) (fun (_ : Unit) (a9 : Nat) t => a9 = (sa 11) ∧ Wq D (va_A [] sz) [] t) (va_A [] sz)) 0 0 (va_A [] sz) := by
  refine Met.ofW (cc := cX7_spelling) (maxL := 1) (ret := (some (.object "java/lang/String"))) (by decide) rfl ?_
  intro p e s m args below meth c s₁ B hml hv
  obtain ⟨rfl, hsz, hP, hK, hD0, hC, hZ⟩ := hv
  have hx := B.exec
  have hb := B.bytes
  have hr := B.returns
  have hts := atoms_spec (ws := wsX7_spelling) B.pre
  have hown : s.vm.findClass RX7 = some m.cls := findClass_of_methodNamed B.named
  have hlocks := B.notSynchronized
  subst hsz
  have hD := hD0.self (sz := s.heap.size)
  generalize hAe : va_A [] s.heap.size = A at hD hZ ⊢
  have hA : ∀ q : Nat, s.heap.size ≤ q → A q := fun q h => by rw [← hAe]; exact Or.inr h
  have hS : va_S A s.heap s.heap [] := va_S.rf
  have hP : va_P D vwCl [] s.heap := hP
  have hl := lv_entry ([.int 18]) (n := 1) (Nat.le_of_ble_eq_true rfl)
  rw [lg_entry_eq]
  generalize (lg_sl ([.int 18]) ++ List.replicate (1 - (lg_sl ([.int 18])).length) Slot.unset).toArray = ls at hl ⊢
  have hl : lv_has ls 1 [(0, .int 18)] := hl
  refine lv_iload_n hx hb dX7_spelling_0 rfl (lv_at hl 0 rfl) ?_
  refine lv_tableIn (off := 105) (tgt := 106) hx hb dX7_spelling_1 (by decide) (by decide) (by decide) (by decide) ?_
  refine va_ldcS hx hb hown (hC.str 11 rfl) dX7_spelling_106 ?_
  have hP9 := hP.sub (ws' := []) [] rfl
  have hD9 := hD.sub (ws' := []) [] (by decide) rfl
  refine W.widen (k := 0) (n := 0) (Nat.le_of_ble_eq_true rfl) (Nat.le_of_ble_eq_true rfl) ?_
  exact W.aret (v := .ref (sa 11)) hx hb hr (Or.inl ⟨_, rfl⟩) (Or.inr ⟨_, rfl⟩) (fun t ht hW => ⟨⟨(), (sa 11), rfl, trivial, rfl, by rw [ht]; exact hP9, hD9⟩, hS.F ht⟩) hS.2.2 dX7_spelling_108

set_option maxHeartbeats 4000000 in
set_option maxRecDepth 100000 in
/-- spelling(19) -/
theorem c_spell_19 (l : Launch) (D : va_G) (cA : Nat → ClassId) (sa : Nat → Nat)  (sz : Nat) : Met l yX7_spelling wsX7_spelling ({ frames := 0, cells := 0, slots := 0, locals := 0 }) (va_Pc [.int 19] (Wd D cA sa [] sz)) (va_Qr (fun _ : Unit => True) (fun (_ : Unit) (a9 : Nat) t => a9 = (sa 12) ∧ Wq D (va_A [] sz) [] t) (va_A [] sz)) 0 0 (va_A [] sz) := by
  refine Met.ofW (cc := cX7_spelling) (maxL := 1) (ret := (some (.object "java/lang/String"))) (by decide) rfl ?_
  intro p e s m args below meth c s₁ B hml hv
  obtain ⟨rfl, hsz, hP, hK, hD0, hC, hZ⟩ := hv
  have hx := B.exec
  have hb := B.bytes
  have hr := B.returns
  have hts := atoms_spec (ws := wsX7_spelling) B.pre
  have hown : s.vm.findClass RX7 = some m.cls := findClass_of_methodNamed B.named
  have hlocks := B.notSynchronized
  subst hsz
  have hD := hD0.self (sz := s.heap.size)
  generalize hAe : va_A [] s.heap.size = A at hD hZ ⊢
  have hA : ∀ q : Nat, s.heap.size ≤ q → A q := fun q h => by rw [← hAe]; exact Or.inr h
  have hS : va_S A s.heap s.heap [] := va_S.rf
  have hP : va_P D vwCl [] s.heap := hP
  have hl := lv_entry ([.int 19]) (n := 1) (Nat.le_of_ble_eq_true rfl)
  rw [lg_entry_eq]
  generalize (lg_sl ([.int 19]) ++ List.replicate (1 - (lg_sl ([.int 19])).length) Slot.unset).toArray = ls at hl ⊢
  have hl : lv_has ls 1 [(0, .int 19)] := hl
  refine lv_iload_n hx hb dX7_spelling_0 rfl (lv_at hl 0 rfl) ?_
  refine lv_tableIn (off := 108) (tgt := 109) hx hb dX7_spelling_1 (by decide) (by decide) (by decide) (by decide) ?_
  refine va_ldcS hx hb hown (hC.str 12 rfl) dX7_spelling_109 ?_
  have hP9 := hP.sub (ws' := []) [] rfl
  have hD9 := hD.sub (ws' := []) [] (by decide) rfl
  refine W.widen (k := 0) (n := 0) (Nat.le_of_ble_eq_true rfl) (Nat.le_of_ble_eq_true rfl) ?_
  exact W.aret (v := .ref (sa 12)) hx hb hr (Or.inl ⟨_, rfl⟩) (Or.inr ⟨_, rfl⟩) (fun t ht hW => ⟨⟨(), (sa 12), rfl, trivial, rfl, by rw [ht]; exact hP9, hD9⟩, hS.F ht⟩) hS.2.2 dX7_spelling_111

set_option maxHeartbeats 4000000 in
set_option maxRecDepth 100000 in
/-- spelling(20) -/
theorem c_spell_20 (l : Launch) (D : va_G) (cA : Nat → ClassId) (sa : Nat → Nat)  (sz : Nat) : Met l yX7_spelling wsX7_spelling ({ frames := 0, cells := 0, slots := 0, locals := 0 }) (va_Pc [.int 20] (Wd D cA sa [] sz)) (va_Qr (fun _ : Unit => True) (fun (_ : Unit) (a9 : Nat) t => a9 = (sa 13) ∧ Wq D (va_A [] sz) [] t) (va_A [] sz)) 0 0 (va_A [] sz) := by
  refine Met.ofW (cc := cX7_spelling) (maxL := 1) (ret := (some (.object "java/lang/String"))) (by decide) rfl ?_
  intro p e s m args below meth c s₁ B hml hv
  obtain ⟨rfl, hsz, hP, hK, hD0, hC, hZ⟩ := hv
  have hx := B.exec
  have hb := B.bytes
  have hr := B.returns
  have hts := atoms_spec (ws := wsX7_spelling) B.pre
  have hown : s.vm.findClass RX7 = some m.cls := findClass_of_methodNamed B.named
  have hlocks := B.notSynchronized
  subst hsz
  have hD := hD0.self (sz := s.heap.size)
  generalize hAe : va_A [] s.heap.size = A at hD hZ ⊢
  have hA : ∀ q : Nat, s.heap.size ≤ q → A q := fun q h => by rw [← hAe]; exact Or.inr h
  have hS : va_S A s.heap s.heap [] := va_S.rf
  have hP : va_P D vwCl [] s.heap := hP
  have hl := lv_entry ([.int 20]) (n := 1) (Nat.le_of_ble_eq_true rfl)
  rw [lg_entry_eq]
  generalize (lg_sl ([.int 20]) ++ List.replicate (1 - (lg_sl ([.int 20])).length) Slot.unset).toArray = ls at hl ⊢
  have hl : lv_has ls 1 [(0, .int 20)] := hl
  refine lv_iload_n hx hb dX7_spelling_0 rfl (lv_at hl 0 rfl) ?_
  refine lv_tableIn (off := 111) (tgt := 112) hx hb dX7_spelling_1 (by decide) (by decide) (by decide) (by decide) ?_
  refine va_ldcS hx hb hown (hC.str 13 rfl) dX7_spelling_112 ?_
  have hP9 := hP.sub (ws' := []) [] rfl
  have hD9 := hD.sub (ws' := []) [] (by decide) rfl
  refine W.widen (k := 0) (n := 0) (Nat.le_of_ble_eq_true rfl) (Nat.le_of_ble_eq_true rfl) ?_
  exact W.aret (v := .ref (sa 13)) hx hb hr (Or.inl ⟨_, rfl⟩) (Or.inr ⟨_, rfl⟩) (fun t ht hW => ⟨⟨(), (sa 13), rfl, trivial, rfl, by rw [ht]; exact hP9, hD9⟩, hS.F ht⟩) hS.2.2 dX7_spelling_114

set_option maxHeartbeats 4000000 in
set_option maxRecDepth 100000 in
/-- spelling(21) -/
theorem c_spell_21 (l : Launch) (D : va_G) (cA : Nat → ClassId) (sa : Nat → Nat)  (sz : Nat) : Met l yX7_spelling wsX7_spelling ({ frames := 0, cells := 0, slots := 0, locals := 0 }) (va_Pc [.int 21] (Wd D cA sa [] sz)) (va_Qr (fun _ : Unit => True) (fun (_ : Unit) (a9 : Nat) t => a9 = (sa 14) ∧ Wq D (va_A [] sz) [] t) (va_A [] sz)) 0 0 (va_A [] sz) := by
  refine Met.ofW (cc := cX7_spelling) (maxL := 1) (ret := (some (.object "java/lang/String"))) (by decide) rfl ?_
  intro p e s m args below meth c s₁ B hml hv
  obtain ⟨rfl, hsz, hP, hK, hD0, hC, hZ⟩ := hv
  have hx := B.exec
  have hb := B.bytes
  have hr := B.returns
  have hts := atoms_spec (ws := wsX7_spelling) B.pre
  have hown : s.vm.findClass RX7 = some m.cls := findClass_of_methodNamed B.named
  have hlocks := B.notSynchronized
  subst hsz
  have hD := hD0.self (sz := s.heap.size)
  generalize hAe : va_A [] s.heap.size = A at hD hZ ⊢
  have hA : ∀ q : Nat, s.heap.size ≤ q → A q := fun q h => by rw [← hAe]; exact Or.inr h
  have hS : va_S A s.heap s.heap [] := va_S.rf
  have hP : va_P D vwCl [] s.heap := hP
  have hl := lv_entry ([.int 21]) (n := 1) (Nat.le_of_ble_eq_true rfl)
  rw [lg_entry_eq]
  generalize (lg_sl ([.int 21]) ++ List.replicate (1 - (lg_sl ([.int 21])).length) Slot.unset).toArray = ls at hl ⊢
  have hl : lv_has ls 1 [(0, .int 21)] := hl
  refine lv_iload_n hx hb dX7_spelling_0 rfl (lv_at hl 0 rfl) ?_
  refine lv_tableIn (off := 114) (tgt := 115) hx hb dX7_spelling_1 (by decide) (by decide) (by decide) (by decide) ?_
  refine va_ldcS hx hb hown (hC.str 14 rfl) dX7_spelling_115 ?_
  have hP9 := hP.sub (ws' := []) [] rfl
  have hD9 := hD.sub (ws' := []) [] (by decide) rfl
  refine W.widen (k := 0) (n := 0) (Nat.le_of_ble_eq_true rfl) (Nat.le_of_ble_eq_true rfl) ?_
  exact W.aret (v := .ref (sa 14)) hx hb hr (Or.inl ⟨_, rfl⟩) (Or.inr ⟨_, rfl⟩) (fun t ht hW => ⟨⟨(), (sa 14), rfl, trivial, rfl, by rw [ht]; exact hP9, hD9⟩, hS.F ht⟩) hS.2.2 dX7_spelling_117

set_option maxHeartbeats 4000000 in
set_option maxRecDepth 100000 in
/-- spelling(22) -/
theorem c_spell_22 (l : Launch) (D : va_G) (cA : Nat → ClassId) (sa : Nat → Nat)  (sz : Nat) : Met l yX7_spelling wsX7_spelling ({ frames := 0, cells := 0, slots := 0, locals := 0 }) (va_Pc [.int 22] (Wd D cA sa [] sz)) (va_Qr (fun _ : Unit => True) (fun (_ : Unit) (a9 : Nat) t => a9 = (sa 15) ∧ Wq D (va_A [] sz) [] t) (va_A [] sz)) 0 0 (va_A [] sz) := by
  refine Met.ofW (cc := cX7_spelling) (maxL := 1) (ret := (some (.object "java/lang/String"))) (by decide) rfl ?_
  intro p e s m args below meth c s₁ B hml hv
  obtain ⟨rfl, hsz, hP, hK, hD0, hC, hZ⟩ := hv
  have hx := B.exec
  have hb := B.bytes
  have hr := B.returns
  have hts := atoms_spec (ws := wsX7_spelling) B.pre
  have hown : s.vm.findClass RX7 = some m.cls := findClass_of_methodNamed B.named
  have hlocks := B.notSynchronized
  subst hsz
  have hD := hD0.self (sz := s.heap.size)
  generalize hAe : va_A [] s.heap.size = A at hD hZ ⊢
  have hA : ∀ q : Nat, s.heap.size ≤ q → A q := fun q h => by rw [← hAe]; exact Or.inr h
  have hS : va_S A s.heap s.heap [] := va_S.rf
  have hP : va_P D vwCl [] s.heap := hP
  have hl := lv_entry ([.int 22]) (n := 1) (Nat.le_of_ble_eq_true rfl)
  rw [lg_entry_eq]
  generalize (lg_sl ([.int 22]) ++ List.replicate (1 - (lg_sl ([.int 22])).length) Slot.unset).toArray = ls at hl ⊢
  have hl : lv_has ls 1 [(0, .int 22)] := hl
  refine lv_iload_n hx hb dX7_spelling_0 rfl (lv_at hl 0 rfl) ?_
  refine lv_tableIn (off := 117) (tgt := 118) hx hb dX7_spelling_1 (by decide) (by decide) (by decide) (by decide) ?_
  refine va_ldcS hx hb hown (hC.str 15 rfl) dX7_spelling_118 ?_
  have hP9 := hP.sub (ws' := []) [] rfl
  have hD9 := hD.sub (ws' := []) [] (by decide) rfl
  refine W.widen (k := 0) (n := 0) (Nat.le_of_ble_eq_true rfl) (Nat.le_of_ble_eq_true rfl) ?_
  exact W.aret (v := .ref (sa 15)) hx hb hr (Or.inl ⟨_, rfl⟩) (Or.inr ⟨_, rfl⟩) (fun t ht hW => ⟨⟨(), (sa 15), rfl, trivial, rfl, by rw [ht]; exact hP9, hD9⟩, hS.F ht⟩) hS.2.2 dX7_spelling_120

/-- the spaces among the first n bytes -/
def sp (bs : List Int32) (n : Nat) : Nat := (bs.take n).countP (fun b => b == 32)
theorem sp_succ {bs : List Int32} {n : Nat} (h : n < bs.length) : sp bs (n + 1) = sp bs n + (if bs.getD n 0 = 32 then 1 else 0) := by
  have e : bs.getD n 0 = bs[n] := by rw [List.getD_eq_getElem?_getD, List.getElem?_eq_getElem h]; rfl
  unfold sp
  rw [List.take_succ_eq_append_getElem h, List.countP_append, e]
  congr 1
  by_cases q : bs[n] = 32
  · rw [if_pos q]; simp [List.countP_cons, q]
  · rw [if_neg q]; simp [List.countP_cons, q]
theorem sp_le (bs : List Int32) (n : Nat) : sp bs n ≤ bs.length := Nat.le_trans List.countP_le_length (by rw [List.length_take]; omega)
theorem sp_no {bs : List Int32} {n : Nat} (h : n < bs.length) (c : ¬ bs.getD n 0 = 32) : sp bs (n + 1) = sp bs n := by rw [sp_succ h, if_neg c]; rfl
theorem sp_yes {bs : List Int32} {n : Nat} (h : n < bs.length) (c : bs.getD n 0 = 32) : sp bs (n + 1) = sp bs n + 1 := by rw [sp_succ h, if_pos c]
theorem sp_noI {bs : List Int32} {n : Nat} (h : n < bs.length) (c : ¬ bs.getD n 0 = 32) : nI (sp bs n) + 0 = nI (sp bs (n + 1)) := by rw [sp_no h c, Int32.add_zero]
theorem sp_yesI {bs : List Int32} {n : Nat} (h : n < bs.length) (c : bs.getD n 0 = 32) : nI (sp bs n) + 1 = nI (sp bs (n + 1)) := by rw [sp_yes h c]; exact nI_1 _
theorem sp_eq {a b : Nat} (h : a ≤ b) (hb : b < 2 ^ 31) (c : nI b ≤ nI a) : a = b := by
  rcases Nat.lt_or_ge a b with q | q
  · exact absurd c (Int32.not_le.mpr (nI_lt q hb))
  · exact Nat.le_antisymm h q
theorem sp_lt {a b : Nat} (h : a ≤ b) (c : ¬ nI b ≤ nI a) : a < b := by
  rcases Nat.lt_or_ge a b with q | q
  · exact q
  · exact absurd (by rw [Nat.le_antisymm h q]; exact Int32.le_refl _) c
set_option maxRecDepth 20000 in
theorem ggX10_init_X10_wordAt : GoodIn wsX10_init wsX10_wordAt := goodIn_r _ [29, 30, 31, 32, 33, 34, 35, 36, 37, 38, 39, 40, 41, 42, 43, 44, 45, 46, 47, 48, 49, 50, 51, 52, 53, 54, 55, 56, 57, 58, 59, 60, 61, 62, 63, 64, 65, 66, 67, 68, 69, 70, 71, 72, 115, 116, 117, 118] rfl (by decide +kernel)
set_option maxRecDepth 20000 in
theorem gX10_init_X10_wordAt : GoodIn wsX10_init (va_wsS RX10 72 yX10_wordAt wsX10_wordAt) := goodIn_app (goodIn_r _ [26, 27, 28] rfl (by decide +kernel)) ggX10_init_X10_wordAt
set_option maxRecDepth 20000 in
theorem ggX10_init_X10_reset : GoodIn wsX10_init wsX10_reset := goodIn_r _ [75] rfl (by decide +kernel)
set_option maxRecDepth 20000 in
theorem gX10_init_X10_reset : GoodIn wsX10_init (va_wsS RX10 76 yX10_reset wsX10_reset) := goodIn_app (goodIn_r _ [73, 74, 28] rfl (by decide +kernel)) ggX10_init_X10_reset
set_option maxRecDepth 20000 in
theorem ggX10_wordAt_J0_charAt_5068e : GoodIn wsX10_wordAt wsJ0_charAt_5068e := goodIn_r _ [7, 8, 9, 10, 11, 6, 12, 13, 14, 15, 16, 17, 18, 19, 20, 21, 22, 23, 24, 25, 26, 27, 28, 29, 30, 31, 32, 33, 34, 35, 36, 37, 38, 39, 40, 41, 42, 43, 44, 45, 46, 47] rfl (by decide +kernel)
set_option maxRecDepth 20000 in
theorem gX10_wordAt_J0_charAt_5068e : GoodIn wsX10_wordAt (wsV RX10 97 RJ0 yJ0_charAt_5068e wsJ0_charAt_5068e) := goodIn_app (goodIn_r _ [3, 4, 5, 6] rfl (by decide +kernel)) ggX10_wordAt_J0_charAt_5068e
set_option maxRecDepth 20000 in
theorem ggX10_advance_X10_byteAt : GoodIn wsX10_advance wsX10_byteAt := goodIn_r _ [13, 14, 15, 27, 28, 29, 30, 31, 32, 33, 34, 35, 36, 37, 38, 39, 40, 41, 42, 43, 44, 45, 46, 47, 48, 49, 50, 51, 52, 53, 54, 55, 56, 57, 58, 59, 60, 61, 62, 63, 64, 65] rfl (by decide +kernel)
set_option maxRecDepth 20000 in
theorem gX10_advance_X10_byteAt : GoodIn wsX10_advance (wsV RX10 113 RX10 yX10_byteAt wsX10_byteAt) := goodIn_app (goodIn_r _ [9, 10, 11, 12] rfl (by decide +kernel)) ggX10_advance_X10_byteAt
set_option maxRecDepth 20000 in
theorem ggX10_takeOver_X10_copy : GoodIn wsX10_takeOver wsX10_copy := goodIn_r _ [17] rfl (by decide +kernel)
set_option maxRecDepth 20000 in
theorem gX10_takeOver_X10_copy : GoodIn wsX10_takeOver (va_wsS RX10 245 yX10_copy wsX10_copy) := goodIn_app (goodIn_r _ [14, 15, 16] rfl (by decide +kernel)) ggX10_takeOver_X10_copy
set_option maxRecDepth 20000 in
theorem ggX10_load_X10_between : GoodIn wsX10_load wsX10_between := goodIn_r _ [18] rfl (by decide +kernel)
set_option maxRecDepth 20000 in
theorem gX10_load_X10_between : GoodIn wsX10_load (va_wsS RX10 152 yX10_between wsX10_between) := goodIn_app (goodIn_r _ [15, 16, 17] rfl (by decide +kernel)) ggX10_load_X10_between
set_option maxRecDepth 20000 in
theorem ggX10_load_X10_reset : GoodIn wsX10_load wsX10_reset := goodIn_r _ [21] rfl (by decide +kernel)
set_option maxRecDepth 20000 in
theorem gX10_load_X10_reset : GoodIn wsX10_load (va_wsS RX10 76 yX10_reset wsX10_reset) := goodIn_app (goodIn_r _ [19, 20, 17] rfl (by decide +kernel)) ggX10_load_X10_reset
set_option maxRecDepth 20000 in
theorem ggX10_load_X10_advance : GoodIn wsX10_load wsX10_advance := goodIn_r _ [25, 4, 26, 27, 28, 11, 29, 30, 31, 32, 33, 34, 17, 35, 3, 36, 37, 38, 39, 40, 41, 42, 43, 44, 45, 46, 47, 167, 168, 169, 170, 171, 172, 173, 174, 175, 176, 177, 178, 179, 180, 181, 182, 183, 184, 185, 186, 187, 188, 189, 190, 191, 192, 193, 194, 195, 196, 197, 198, 199, 200, 201, 202, 203, 204, 205] rfl (by decide +kernel)
set_option maxRecDepth 20000 in
theorem gX10_load_X10_advance : GoodIn wsX10_load (wsV RX10 159 RX10 yX10_advance wsX10_advance) := goodIn_app (goodIn_r _ [22, 23, 24, 17] rfl (by decide +kernel)) ggX10_load_X10_advance
set_option maxRecDepth 20000 in
theorem ggX10_load_X10_takeOver : GoodIn wsX10_load wsX10_takeOver := goodIn_r _ [157, 10, 14, 158, 85, 159, 139, 160, 86, 9, 161, 109, 162, 163, 164, 165, 17, 166, 167, 168, 169, 170, 171, 172, 173, 174, 175, 176, 177, 178, 179, 180, 181, 182, 183, 184, 185, 186, 187, 188, 189, 190, 191, 192, 193, 194, 195, 196, 197, 198, 199, 200, 201, 202, 203, 204, 205] rfl (by decide +kernel)
set_option maxRecDepth 20000 in
theorem gX10_load_X10_takeOver : GoodIn wsX10_load (wsV RX10 258 RX10 yX10_takeOver wsX10_takeOver) := goodIn_app (goodIn_r _ [154, 155, 156, 17] rfl (by decide +kernel)) ggX10_load_X10_takeOver
theorem dX10_advance_0 : decode cX10_advance 0 = .ok (.aload_n 0, 1) := by decide +kernel
theorem dX10_advance_1 : decode cX10_advance 1 = .ok (.aload_n 0, 1) := by decide +kernel
theorem dX10_advance_2 : decode cX10_advance 2 = .ok (.getfield 110, 3) := by decide +kernel
theorem dX10_advance_5 : decode cX10_advance 5 = .ok (.invokevirtual 113, 3) := by decide +kernel
theorem dX10_advance_8 : decode cX10_advance 8 = .ok (.bipush 32, 2) := by decide +kernel
theorem dX10_advance_10 : decode cX10_advance 10 = .ok (.if_icmp .eq 16, 3) := by decide +kernel
theorem dX10_advance_13 : decode cX10_advance 13 = .ok (.aload_n 0, 1) := by decide +kernel
theorem dX10_advance_14 : decode cX10_advance 14 = .ok (.aload_n 0, 1) := by decide +kernel
theorem dX10_advance_15 : decode cX10_advance 15 = .ok (.getfield 110, 3) := by decide +kernel
theorem dX10_advance_18 : decode cX10_advance 18 = .ok (.invokevirtual 113, 3) := by decide +kernel
theorem dX10_advance_21 : decode cX10_advance 21 = .ok (.bipush 10, 2) := by decide +kernel
theorem dX10_advance_23 : decode cX10_advance 23 = .ok (.if_icmp .ne 16, 3) := by decide +kernel
theorem dX10_advance_26 : decode cX10_advance 26 = .ok (.aload_n 0, 1) := by decide +kernel
theorem dX10_advance_27 : decode cX10_advance 27 = .ok (.dup, 1) := by decide +kernel
theorem dX10_advance_28 : decode cX10_advance 28 = .ok (.getfield 110, 3) := by decide +kernel
theorem dX10_advance_31 : decode cX10_advance 31 = .ok (.iconst 1, 1) := by decide +kernel
theorem dX10_advance_32 : decode cX10_advance 32 = .ok (.iadd, 1) := by decide +kernel
theorem dX10_advance_33 : decode cX10_advance 33 = .ok (.putfield 110, 3) := by decide +kernel
theorem dX10_advance_36 : decode cX10_advance 36 = .ok (.goto (-36), 3) := by decide +kernel
theorem dX10_advance_39 : decode cX10_advance 39 = .ok (.aload_n 0, 1) := by decide +kernel
theorem dX10_advance_40 : decode cX10_advance 40 = .ok (.aload_n 0, 1) := by decide +kernel
theorem dX10_advance_41 : decode cX10_advance 41 = .ok (.getfield 110, 3) := by decide +kernel
theorem dX10_advance_44 : decode cX10_advance 44 = .ok (.putfield 117, 3) := by decide +kernel
theorem dX10_advance_47 : decode cX10_advance 47 = .ok (.aload_n 0, 1) := by decide +kernel
theorem dX10_advance_48 : decode cX10_advance 48 = .ok (.iconst (-1), 1) := by decide +kernel
theorem dX10_advance_49 : decode cX10_advance 49 = .ok (.putfield 120, 3) := by decide +kernel
theorem dX10_advance_52 : decode cX10_advance 52 = .ok (.aload_n 0, 1) := by decide +kernel
theorem dX10_advance_53 : decode cX10_advance 53 = .ok (.lconst 0, 1) := by decide +kernel
theorem dX10_advance_54 : decode cX10_advance 54 = .ok (.putfield 123, 3) := by decide +kernel
theorem dX10_advance_57 : decode cX10_advance 57 = .ok (.aload_n 0, 1) := by decide +kernel
theorem dX10_advance_58 : decode cX10_advance 58 = .ok (.aload_n 0, 1) := by decide +kernel
theorem dX10_advance_59 : decode cX10_advance 59 = .ok (.getfield 110, 3) := by decide +kernel
theorem dX10_advance_62 : decode cX10_advance 62 = .ok (.invokevirtual 113, 3) := by decide +kernel
theorem dX10_advance_65 : decode cX10_advance 65 = .ok (.istore_n 1, 1) := by decide +kernel
theorem dX10_advance_66 : decode cX10_advance 66 = .ok (.iload_n 1, 1) := by decide +kernel
theorem dX10_advance_67 : decode cX10_advance 67 = .ok (.iconst (-1), 1) := by decide +kernel
theorem dX10_advance_68 : decode cX10_advance 68 = .ok (.if_icmp .ne 11, 3) := by decide +kernel
theorem dX10_advance_71 : decode cX10_advance 71 = .ok (.aload_n 0, 1) := by decide +kernel
theorem dX10_advance_72 : decode cX10_advance 72 = .ok (.iconst 0, 1) := by decide +kernel
theorem dX10_advance_73 : decode cX10_advance 73 = .ok (.putfield 126, 3) := by decide +kernel
theorem dX10_advance_76 : decode cX10_advance 76 = .ok (.goto 278, 3) := by decide +kernel
theorem dX10_advance_79 : decode cX10_advance 79 = .ok (.iload_n 1, 1) := by decide +kernel
theorem dX10_advance_80 : decode cX10_advance 80 = .ok (.invokestatic 129, 3) := by decide +kernel
theorem dX10_advance_83 : decode cX10_advance 83 = .ok (.ifCond .eq 127, 3) := by decide +kernel
theorem dX10_advance_86 : decode cX10_advance 86 = .ok (.aload_n 0, 1) := by decide +kernel
theorem dX10_advance_87 : decode cX10_advance 87 = .ok (.aload_n 0, 1) := by decide +kernel
theorem dX10_advance_88 : decode cX10_advance 88 = .ok (.getfield 110, 3) := by decide +kernel
theorem dX10_advance_91 : decode cX10_advance 91 = .ok (.invokevirtual 113, 3) := by decide +kernel
theorem dX10_advance_94 : decode cX10_advance 94 = .ok (.invokestatic 129, 3) := by decide +kernel
theorem dX10_advance_97 : decode cX10_advance 97 = .ok (.ifCond .eq 63, 3) := by decide +kernel
theorem dX10_advance_100 : decode cX10_advance 100 = .ok (.aload_n 0, 1) := by decide +kernel
theorem dX10_advance_101 : decode cX10_advance 101 = .ok (.aload_n 0, 1) := by decide +kernel
theorem dX10_advance_102 : decode cX10_advance 102 = .ok (.getfield 110, 3) := by decide +kernel
theorem dX10_advance_105 : decode cX10_advance 105 = .ok (.aload_n 0, 1) := by decide +kernel
theorem dX10_advance_106 : decode cX10_advance 106 = .ok (.getfield 117, 3) := by decide +kernel
theorem dX10_advance_109 : decode cX10_advance 109 = .ok (.isub, 1) := by decide +kernel
theorem dX10_advance_110 : decode cX10_advance 110 = .ok (.bipush 9, 2) := by decide +kernel
theorem dX10_advance_112 : decode cX10_advance 112 = .ok (.if_icmp .ge 28, 3) := by decide +kernel
theorem dX10_advance_115 : decode cX10_advance 115 = .ok (.ldc2_w 103, 3) := by decide +kernel
theorem dX10_advance_118 : decode cX10_advance 118 = .ok (.aload_n 0, 1) := by decide +kernel
theorem dX10_advance_119 : decode cX10_advance 119 = .ok (.getfield 123, 3) := by decide +kernel
theorem dX10_advance_122 : decode cX10_advance 122 = .ok (.lmul, 1) := by decide +kernel
theorem dX10_advance_123 : decode cX10_advance 123 = .ok (.aload_n 0, 1) := by decide +kernel
theorem dX10_advance_124 : decode cX10_advance 124 = .ok (.aload_n 0, 1) := by decide +kernel
theorem dX10_advance_125 : decode cX10_advance 125 = .ok (.getfield 110, 3) := by decide +kernel
theorem dX10_advance_128 : decode cX10_advance 128 = .ok (.invokevirtual 113, 3) := by decide +kernel
theorem dX10_advance_131 : decode cX10_advance 131 = .ok (.i2l, 1) := by decide +kernel
theorem dX10_advance_132 : decode cX10_advance 132 = .ok (.ladd, 1) := by decide +kernel
theorem dX10_advance_133 : decode cX10_advance 133 = .ok (.ldc2_w 105, 3) := by decide +kernel
theorem dX10_advance_136 : decode cX10_advance 136 = .ok (.lsub, 1) := by decide +kernel
theorem dX10_advance_137 : decode cX10_advance 137 = .ok (.goto 7, 3) := by decide +kernel
theorem dX10_advance_140 : decode cX10_advance 140 = .ok (.aload_n 0, 1) := by decide +kernel
theorem dX10_advance_141 : decode cX10_advance 141 = .ok (.getfield 123, 3) := by decide +kernel
theorem dX10_advance_144 : decode cX10_advance 144 = .ok (.putfield 123, 3) := by decide +kernel
theorem dX10_advance_147 : decode cX10_advance 147 = .ok (.aload_n 0, 1) := by decide +kernel
theorem dX10_advance_148 : decode cX10_advance 148 = .ok (.dup, 1) := by decide +kernel
theorem dX10_advance_149 : decode cX10_advance 149 = .ok (.getfield 110, 3) := by decide +kernel
theorem dX10_advance_152 : decode cX10_advance 152 = .ok (.iconst 1, 1) := by decide +kernel
theorem dX10_advance_153 : decode cX10_advance 153 = .ok (.iadd, 1) := by decide +kernel
theorem dX10_advance_154 : decode cX10_advance 154 = .ok (.putfield 110, 3) := by decide +kernel
theorem dX10_advance_157 : decode cX10_advance 157 = .ok (.goto (-71), 3) := by decide +kernel
theorem dX10_advance_160 : decode cX10_advance 160 = .ok (.aload_n 0, 1) := by decide +kernel
theorem dX10_advance_161 : decode cX10_advance 161 = .ok (.aload_n 0, 1) := by decide +kernel
theorem dX10_advance_162 : decode cX10_advance 162 = .ok (.getfield 110, 3) := by decide +kernel
theorem dX10_advance_165 : decode cX10_advance 165 = .ok (.aload_n 0, 1) := by decide +kernel
theorem dX10_advance_166 : decode cX10_advance 166 = .ok (.getfield 117, 3) := by decide +kernel
theorem dX10_advance_169 : decode cX10_advance 169 = .ok (.isub, 1) := by decide +kernel
theorem dX10_advance_170 : decode cX10_advance 170 = .ok (.bipush 9, 2) := by decide +kernel
theorem dX10_advance_172 : decode cX10_advance 172 = .ok (.if_icmp .le 7, 3) := by decide +kernel
theorem dX10_advance_175 : decode cX10_advance 175 = .ok (.iconst 1, 1) := by decide +kernel
theorem dX10_advance_176 : decode cX10_advance 176 = .ok (.goto 4, 3) := by decide +kernel
theorem dX10_advance_179 : decode cX10_advance 179 = .ok (.iconst 2, 1) := by decide +kernel
theorem dX10_advance_180 : decode cX10_advance 180 = .ok (.putfield 126, 3) := by decide +kernel
theorem dX10_advance_183 : decode cX10_advance 183 = .ok (.aload_n 0, 1) := by decide +kernel
theorem dX10_advance_184 : decode cX10_advance 184 = .ok (.aload_n 0, 1) := by decide +kernel
theorem dX10_advance_185 : decode cX10_advance 185 = .ok (.getfield 126, 3) := by decide +kernel
theorem dX10_advance_188 : decode cX10_advance 188 = .ok (.iconst 2, 1) := by decide +kernel
theorem dX10_advance_189 : decode cX10_advance 189 = .ok (.if_icmp .ne 14, 3) := by decide +kernel
theorem dX10_advance_192 : decode cX10_advance 192 = .ok (.aload_n 0, 1) := by decide +kernel
theorem dX10_advance_193 : decode cX10_advance 193 = .ok (.aload_n 0, 1) := by decide +kernel
theorem dX10_advance_194 : decode cX10_advance 194 = .ok (.getfield 123, 3) := by decide +kernel
theorem dX10_advance_197 : decode cX10_advance 197 = .ok (.invokevirtual 133, 3) := by decide +kernel
theorem dX10_advance_200 : decode cX10_advance 200 = .ok (.goto 4, 3) := by decide +kernel
theorem dX10_advance_203 : decode cX10_advance 203 = .ok (.iconst (-1), 1) := by decide +kernel
theorem dX10_advance_204 : decode cX10_advance 204 = .ok (.putfield 120, 3) := by decide +kernel
theorem dX10_advance_207 : decode cX10_advance 207 = .ok (.goto 147, 3) := by decide +kernel
theorem dX10_advance_210 : decode cX10_advance 210 = .ok (.iload_n 1, 1) := by decide +kernel
theorem dX10_advance_211 : decode cX10_advance 211 = .ok (.invokestatic 137, 3) := by decide +kernel
theorem dX10_advance_214 : decode cX10_advance 214 = .ok (.ifCond .eq 103, 3) := by decide +kernel
theorem dX10_advance_217 : decode cX10_advance 217 = .ok (.aload_n 0, 1) := by decide +kernel
theorem dX10_advance_218 : decode cX10_advance 218 = .ok (.iconst 0, 1) := by decide +kernel
theorem dX10_advance_219 : decode cX10_advance 219 = .ok (.putfield 140, 3) := by decide +kernel
theorem dX10_advance_222 : decode cX10_advance 222 = .ok (.aload_n 0, 1) := by decide +kernel
theorem dX10_advance_223 : decode cX10_advance 223 = .ok (.aload_n 0, 1) := by decide +kernel
theorem dX10_advance_224 : decode cX10_advance 224 = .ok (.getfield 110, 3) := by decide +kernel
theorem dX10_advance_227 : decode cX10_advance 227 = .ok (.invokevirtual 113, 3) := by decide +kernel
theorem dX10_advance_230 : decode cX10_advance 230 = .ok (.invokestatic 137, 3) := by decide +kernel
theorem dX10_advance_233 : decode cX10_advance 233 = .ok (.ifCond .eq 59, 3) := by decide +kernel
theorem dX10_advance_236 : decode cX10_advance 236 = .ok (.aload_n 0, 1) := by decide +kernel
theorem dX10_advance_237 : decode cX10_advance 237 = .ok (.aload_n 0, 1) := by decide +kernel
theorem dX10_advance_238 : decode cX10_advance 238 = .ok (.getfield 110, 3) := by decide +kernel
theorem dX10_advance_241 : decode cX10_advance 241 = .ok (.aload_n 0, 1) := by decide +kernel
theorem dX10_advance_242 : decode cX10_advance 242 = .ok (.getfield 117, 3) := by decide +kernel
theorem dX10_advance_245 : decode cX10_advance 245 = .ok (.isub, 1) := by decide +kernel
theorem dX10_advance_246 : decode cX10_advance 246 = .ok (.iconst 5, 1) := by decide +kernel
theorem dX10_advance_247 : decode cX10_advance 247 = .ok (.if_icmp .ge 25, 3) := by decide +kernel
theorem dX10_advance_250 : decode cX10_advance 250 = .ok (.bipush 10, 2) := by decide +kernel
theorem dX10_advance_252 : decode cX10_advance 252 = .ok (.aload_n 0, 1) := by decide +kernel
theorem dX10_advance_253 : decode cX10_advance 253 = .ok (.getfield 140, 3) := by decide +kernel
theorem dX10_advance_256 : decode cX10_advance 256 = .ok (.imul, 1) := by decide +kernel
theorem dX10_advance_257 : decode cX10_advance 257 = .ok (.aload_n 0, 1) := by decide +kernel
theorem dX10_advance_258 : decode cX10_advance 258 = .ok (.aload_n 0, 1) := by decide +kernel
theorem dX10_advance_259 : decode cX10_advance 259 = .ok (.getfield 110, 3) := by decide +kernel
theorem dX10_advance_262 : decode cX10_advance 262 = .ok (.invokevirtual 113, 3) := by decide +kernel
theorem dX10_advance_265 : decode cX10_advance 265 = .ok (.iadd, 1) := by decide +kernel
theorem dX10_advance_266 : decode cX10_advance 266 = .ok (.bipush 48, 2) := by decide +kernel
theorem dX10_advance_268 : decode cX10_advance 268 = .ok (.isub, 1) := by decide +kernel
theorem dX10_advance_269 : decode cX10_advance 269 = .ok (.goto 7, 3) := by decide +kernel
theorem dX10_advance_272 : decode cX10_advance 272 = .ok (.aload_n 0, 1) := by decide +kernel
theorem dX10_advance_273 : decode cX10_advance 273 = .ok (.getfield 140, 3) := by decide +kernel
theorem dX10_advance_276 : decode cX10_advance 276 = .ok (.putfield 140, 3) := by decide +kernel
theorem dX10_advance_279 : decode cX10_advance 279 = .ok (.aload_n 0, 1) := by decide +kernel
theorem dX10_advance_280 : decode cX10_advance 280 = .ok (.dup, 1) := by decide +kernel
theorem dX10_advance_281 : decode cX10_advance 281 = .ok (.getfield 110, 3) := by decide +kernel
theorem dX10_advance_284 : decode cX10_advance 284 = .ok (.iconst 1, 1) := by decide +kernel
theorem dX10_advance_285 : decode cX10_advance 285 = .ok (.iadd, 1) := by decide +kernel
theorem dX10_advance_286 : decode cX10_advance 286 = .ok (.putfield 110, 3) := by decide +kernel
theorem dX10_advance_289 : decode cX10_advance 289 = .ok (.goto (-67), 3) := by decide +kernel
theorem dX10_advance_292 : decode cX10_advance 292 = .ok (.aload_n 0, 1) := by decide +kernel
theorem dX10_advance_293 : decode cX10_advance 293 = .ok (.aload_n 0, 1) := by decide +kernel
theorem dX10_advance_294 : decode cX10_advance 294 = .ok (.getfield 110, 3) := by decide +kernel
theorem dX10_advance_297 : decode cX10_advance 297 = .ok (.aload_n 0, 1) := by decide +kernel
theorem dX10_advance_298 : decode cX10_advance 298 = .ok (.getfield 117, 3) := by decide +kernel
theorem dX10_advance_301 : decode cX10_advance 301 = .ok (.isub, 1) := by decide +kernel
theorem dX10_advance_302 : decode cX10_advance 302 = .ok (.iconst 5, 1) := by decide +kernel
theorem dX10_advance_303 : decode cX10_advance 303 = .ok (.if_icmp .le 7, 3) := by decide +kernel
theorem dX10_advance_306 : decode cX10_advance 306 = .ok (.iconst 1, 1) := by decide +kernel
theorem dX10_advance_307 : decode cX10_advance 307 = .ok (.goto 4, 3) := by decide +kernel
theorem dX10_advance_310 : decode cX10_advance 310 = .ok (.iconst 3, 1) := by decide +kernel
theorem dX10_advance_311 : decode cX10_advance 311 = .ok (.putfield 126, 3) := by decide +kernel
theorem dX10_advance_314 : decode cX10_advance 314 = .ok (.goto 40, 3) := by decide +kernel
theorem dX10_advance_317 : decode cX10_advance 317 = .ok (.aload_n 0, 1) := by decide +kernel
theorem dX10_advance_318 : decode cX10_advance 318 = .ok (.dup, 1) := by decide +kernel
theorem dX10_advance_319 : decode cX10_advance 319 = .ok (.getfield 110, 3) := by decide +kernel
theorem dX10_advance_322 : decode cX10_advance 322 = .ok (.iconst 1, 1) := by decide +kernel
theorem dX10_advance_323 : decode cX10_advance 323 = .ok (.iadd, 1) := by decide +kernel
theorem dX10_advance_324 : decode cX10_advance 324 = .ok (.putfield 110, 3) := by decide +kernel
theorem dX10_advance_327 : decode cX10_advance 327 = .ok (.aload_n 0, 1) := by decide +kernel
theorem dX10_advance_328 : decode cX10_advance 328 = .ok (.iload_n 1, 1) := by decide +kernel
theorem dX10_advance_329 : decode cX10_advance 329 = .ok (.bipush 59, 2) := by decide +kernel
theorem dX10_advance_331 : decode cX10_advance 331 = .ok (.if_icmp .eq 15, 3) := by decide +kernel
theorem dX10_advance_334 : decode cX10_advance 334 = .ok (.iload_n 1, 1) := by decide +kernel
theorem dX10_advance_335 : decode cX10_advance 335 = .ok (.bipush 40, 2) := by decide +kernel
theorem dX10_advance_337 : decode cX10_advance 337 = .ok (.if_icmp .eq 9, 3) := by decide +kernel
theorem dX10_advance_340 : decode cX10_advance 340 = .ok (.iload_n 1, 1) := by decide +kernel
theorem dX10_advance_341 : decode cX10_advance 341 = .ok (.bipush 41, 2) := by decide +kernel
theorem dX10_advance_343 : decode cX10_advance 343 = .ok (.if_icmp .ne 7, 3) := by decide +kernel
theorem dX10_advance_346 : decode cX10_advance 346 = .ok (.iconst 4, 1) := by decide +kernel
theorem dX10_advance_347 : decode cX10_advance 347 = .ok (.goto 4, 3) := by decide +kernel
theorem dX10_advance_350 : decode cX10_advance 350 = .ok (.iconst 1, 1) := by decide +kernel
theorem dX10_advance_351 : decode cX10_advance 351 = .ok (.putfield 126, 3) := by decide +kernel
theorem dX10_advance_354 : decode cX10_advance 354 = .ok (.iconst 1, 1) := by decide +kernel
theorem dX10_advance_355 : decode cX10_advance 355 = .ok (.ireturn, 1) := by decide +kernel
theorem dX10_byteAt_0 : decode cX10_byteAt 0 = .ok (.iload_n 1, 1) := by decide +kernel
theorem dX10_byteAt_1 : decode cX10_byteAt 1 = .ok (.aload_n 0, 1) := by decide +kernel
theorem dX10_byteAt_2 : decode cX10_byteAt 2 = .ok (.getfield 107, 3) := by decide +kernel
theorem dX10_byteAt_5 : decode cX10_byteAt 5 = .ok (.if_icmp .ge 12, 3) := by decide +kernel
theorem dX10_byteAt_8 : decode cX10_byteAt 8 = .ok (.aload_n 0, 1) := by decide +kernel
theorem dX10_byteAt_9 : decode cX10_byteAt 9 = .ok (.getfield 26, 3) := by decide +kernel
theorem dX10_byteAt_12 : decode cX10_byteAt 12 = .ok (.iload_n 1, 1) := by decide +kernel
theorem dX10_byteAt_13 : decode cX10_byteAt 13 = .ok (.iaload, 1) := by decide +kernel
theorem dX10_byteAt_14 : decode cX10_byteAt 14 = .ok (.goto 4, 3) := by decide +kernel
theorem dX10_byteAt_17 : decode cX10_byteAt 17 = .ok (.iconst (-1), 1) := by decide +kernel
theorem dX10_byteAt_18 : decode cX10_byteAt 18 = .ok (.ireturn, 1) := by decide +kernel
theorem dX10_init_0 : decode cX10_init 0 = .ok (.aload_n 0, 1) := by decide +kernel
theorem dX10_init_1 : decode cX10_init 1 = .ok (.invokespecial 1, 3) := by decide +kernel
theorem dX10_init_4 : decode cX10_init 4 = .ok (.aload_n 0, 1) := by decide +kernel
theorem dX10_init_5 : decode cX10_init 5 = .ok (.sipush 326, 3) := by decide +kernel
theorem dX10_init_8 : decode cX10_init 8 = .ok (.newarray .int, 2) := by decide +kernel
theorem dX10_init_10 : decode cX10_init 10 = .ok (.putfield 7, 3) := by decide +kernel
theorem dX10_init_13 : decode cX10_init 13 = .ok (.aload_n 0, 1) := by decide +kernel
theorem dX10_init_14 : decode cX10_init 14 = .ok (.sipush 326, 3) := by decide +kernel
theorem dX10_init_17 : decode cX10_init 17 = .ok (.newarray .int, 2) := by decide +kernel
theorem dX10_init_19 : decode cX10_init 19 = .ok (.putfield 13, 3) := by decide +kernel
theorem dX10_init_22 : decode cX10_init 22 = .ok (.aload_n 0, 1) := by decide +kernel
theorem dX10_init_23 : decode cX10_init 23 = .ok (.sipush 326, 3) := by decide +kernel
theorem dX10_init_26 : decode cX10_init 26 = .ok (.newarray .int, 2) := by decide +kernel
theorem dX10_init_28 : decode cX10_init 28 = .ok (.putfield 16, 3) := by decide +kernel
theorem dX10_init_31 : decode cX10_init 31 = .ok (.aload_n 0, 1) := by decide +kernel
theorem dX10_init_32 : decode cX10_init 32 = .ok (.sipush 3260, 3) := by decide +kernel
theorem dX10_init_35 : decode cX10_init 35 = .ok (.newarray .int, 2) := by decide +kernel
theorem dX10_init_37 : decode cX10_init 37 = .ok (.putfield 19, 3) := by decide +kernel
theorem dX10_init_40 : decode cX10_init 40 = .ok (.aload_n 0, 1) := by decide +kernel
theorem dX10_init_41 : decode cX10_init 41 = .ok (.bipush 10, 2) := by decide +kernel
theorem dX10_init_43 : decode cX10_init 43 = .ok (.newarray .long, 2) := by decide +kernel
theorem dX10_init_45 : decode cX10_init 45 = .ok (.putfield 22, 3) := by decide +kernel
theorem dX10_init_48 : decode cX10_init 48 = .ok (.aload_n 0, 1) := by decide +kernel
theorem dX10_init_49 : decode cX10_init 49 = .ok (.sipush 700, 3) := by decide +kernel
theorem dX10_init_52 : decode cX10_init 52 = .ok (.newarray .int, 2) := by decide +kernel
theorem dX10_init_54 : decode cX10_init 54 = .ok (.putfield 26, 3) := by decide +kernel
theorem dX10_init_57 : decode cX10_init 57 = .ok (.aload_n 0, 1) := by decide +kernel
theorem dX10_init_58 : decode cX10_init 58 = .ok (.iconst (-1), 1) := by decide +kernel
theorem dX10_init_59 : decode cX10_init 59 = .ok (.putfield 29, 3) := by decide +kernel
theorem dX10_init_62 : decode cX10_init 62 = .ok (.aload_n 0, 1) := by decide +kernel
theorem dX10_init_63 : decode cX10_init 63 = .ok (.bipush 15, 2) := by decide +kernel
theorem dX10_init_65 : decode cX10_init 65 = .ok (.newarray .long, 2) := by decide +kernel
theorem dX10_init_67 : decode cX10_init 67 = .ok (.putfield 33, 3) := by decide +kernel
theorem dX10_init_70 : decode cX10_init 70 = .ok (.aload_n 0, 1) := by decide +kernel
theorem dX10_init_71 : decode cX10_init 71 = .ok (.bipush 10, 2) := by decide +kernel
theorem dX10_init_73 : decode cX10_init 73 = .ok (.newarray .long, 2) := by decide +kernel
theorem dX10_init_75 : decode cX10_init 75 = .ok (.putfield 36, 3) := by decide +kernel
theorem dX10_init_78 : decode cX10_init 78 = .ok (.aload_n 0, 1) := by decide +kernel
theorem dX10_init_79 : decode cX10_init 79 = .ok (.bipush 10, 2) := by decide +kernel
theorem dX10_init_81 : decode cX10_init 81 = .ok (.newarray .long, 2) := by decide +kernel
theorem dX10_init_83 : decode cX10_init 83 = .ok (.putfield 39, 3) := by decide +kernel
theorem dX10_init_86 : decode cX10_init 86 = .ok (.aload_n 0, 1) := by decide +kernel
theorem dX10_init_87 : decode cX10_init 87 = .ok (.bipush 8, 2) := by decide +kernel
theorem dX10_init_89 : decode cX10_init 89 = .ok (.newarray .long, 2) := by decide +kernel
theorem dX10_init_91 : decode cX10_init 91 = .ok (.putfield 42, 3) := by decide +kernel
theorem dX10_init_94 : decode cX10_init 94 = .ok (.aload_n 0, 1) := by decide +kernel
theorem dX10_init_95 : decode cX10_init 95 = .ok (.bipush 8, 2) := by decide +kernel
theorem dX10_init_97 : decode cX10_init 97 = .ok (.newarray .long, 2) := by decide +kernel
theorem dX10_init_99 : decode cX10_init 99 = .ok (.putfield 45, 3) := by decide +kernel
theorem dX10_init_102 : decode cX10_init 102 = .ok (.aload_n 0, 1) := by decide +kernel
theorem dX10_init_103 : decode cX10_init 103 = .ok (.sipush 400, 3) := by decide +kernel
theorem dX10_init_106 : decode cX10_init 106 = .ok (.newarray .int, 2) := by decide +kernel
theorem dX10_init_108 : decode cX10_init 108 = .ok (.putfield 48, 3) := by decide +kernel
theorem dX10_init_111 : decode cX10_init 111 = .ok (.aload_n 0, 1) := by decide +kernel
theorem dX10_init_112 : decode cX10_init 112 = .ok (.sipush 400, 3) := by decide +kernel
theorem dX10_init_115 : decode cX10_init 115 = .ok (.newarray .int, 2) := by decide +kernel
theorem dX10_init_117 : decode cX10_init 117 = .ok (.putfield 51, 3) := by decide +kernel
theorem dX10_init_120 : decode cX10_init 120 = .ok (.aload_n 0, 1) := by decide +kernel
theorem dX10_init_121 : decode cX10_init 121 = .ok (.bipush 11, 2) := by decide +kernel
theorem dX10_init_123 : decode cX10_init 123 = .ok (.newarray .int, 2) := by decide +kernel
theorem dX10_init_125 : decode cX10_init 125 = .ok (.putfield 54, 3) := by decide +kernel
theorem dX10_init_128 : decode cX10_init 128 = .ok (.aload_n 0, 1) := by decide +kernel
theorem dX10_init_129 : decode cX10_init 129 = .ok (.bipush 11, 2) := by decide +kernel
theorem dX10_init_131 : decode cX10_init 131 = .ok (.newarray .int, 2) := by decide +kernel
theorem dX10_init_133 : decode cX10_init 133 = .ok (.putfield 57, 3) := by decide +kernel
theorem dX10_init_136 : decode cX10_init 136 = .ok (.aload_n 0, 1) := by decide +kernel
theorem dX10_init_137 : decode cX10_init 137 = .ok (.sipush 400, 3) := by decide +kernel
theorem dX10_init_140 : decode cX10_init 140 = .ok (.newarray .boolean, 2) := by decide +kernel
theorem dX10_init_142 : decode cX10_init 142 = .ok (.putfield 60, 3) := by decide +kernel
theorem dX10_init_145 : decode cX10_init 145 = .ok (.aload_n 0, 1) := by decide +kernel
theorem dX10_init_146 : decode cX10_init 146 = .ok (.bipush 10, 2) := by decide +kernel
theorem dX10_init_148 : decode cX10_init 148 = .ok (.newarray .int, 2) := by decide +kernel
theorem dX10_init_150 : decode cX10_init 150 = .ok (.putfield 64, 3) := by decide +kernel
theorem dX10_init_153 : decode cX10_init 153 = .ok (.aload_n 0, 1) := by decide +kernel
theorem dX10_init_154 : decode cX10_init 154 = .ok (.bipush 100, 2) := by decide +kernel
theorem dX10_init_156 : decode cX10_init 156 = .ok (.newarray .int, 2) := by decide +kernel
theorem dX10_init_158 : decode cX10_init 158 = .ok (.putfield 67, 3) := by decide +kernel
theorem dX10_init_161 : decode cX10_init 161 = .ok (.iconst 0, 1) := by decide +kernel
theorem dX10_init_162 : decode cX10_init 162 = .ok (.istore_n 1, 1) := by decide +kernel
theorem dX10_init_163 : decode cX10_init 163 = .ok (.iload_n 1, 1) := by decide +kernel
theorem dX10_init_164 : decode cX10_init 164 = .ok (.bipush 15, 2) := by decide +kernel
theorem dX10_init_166 : decode cX10_init 166 = .ok (.if_icmp .ge 21, 3) := by decide +kernel
theorem dX10_init_169 : decode cX10_init 169 = .ok (.aload_n 0, 1) := by decide +kernel
theorem dX10_init_170 : decode cX10_init 170 = .ok (.getfield 33, 3) := by decide +kernel
theorem dX10_init_173 : decode cX10_init 173 = .ok (.iload_n 1, 1) := by decide +kernel
theorem dX10_init_174 : decode cX10_init 174 = .ok (.ldc 70, 2) := by decide +kernel
theorem dX10_init_176 : decode cX10_init 176 = .ok (.iload_n 1, 1) := by decide +kernel
theorem dX10_init_177 : decode cX10_init 177 = .ok (.invokestatic 72, 3) := by decide +kernel
theorem dX10_init_180 : decode cX10_init 180 = .ok (.lastore, 1) := by decide +kernel
theorem dX10_init_181 : decode cX10_init 181 = .ok (.iinc 1 1, 3) := by decide +kernel
theorem dX10_init_184 : decode cX10_init 184 = .ok (.goto (-21), 3) := by decide +kernel
theorem dX10_init_187 : decode cX10_init 187 = .ok (.aload_n 0, 1) := by decide +kernel
theorem dX10_init_188 : decode cX10_init 188 = .ok (.getfield 7, 3) := by decide +kernel
theorem dX10_init_191 : decode cX10_init 191 = .ok (.invokestatic 76, 3) := by decide +kernel
theorem dX10_init_194 : decode cX10_init 194 = .ok (.return_, 1) := by decide +kernel
theorem dX10_load_0 : decode cX10_load 0 = .ok (.aload_n 0, 1) := by decide +kernel
theorem dX10_load_1 : decode cX10_load 1 = .ok (.iload_n 1, 1) := by decide +kernel
theorem dX10_load_2 : decode cX10_load 2 = .ok (.i2l, 1) := by decide +kernel
theorem dX10_load_3 : decode cX10_load 3 = .ok (.lconst 0, 1) := by decide +kernel
theorem dX10_load_4 : decode cX10_load 4 = .ok (.aload_n 0, 1) := by decide +kernel
theorem dX10_load_5 : decode cX10_load 5 = .ok (.getfield 90, 3) := by decide +kernel
theorem dX10_load_8 : decode cX10_load 8 = .ok (.i2l, 1) := by decide +kernel
theorem dX10_load_9 : decode cX10_load 9 = .ok (.invokestatic 152, 3) := by decide +kernel
theorem dX10_load_12 : decode cX10_load 12 = .ok (.ifCond .eq 7, 3) := by decide +kernel
theorem dX10_load_15 : decode cX10_load 15 = .ok (.iconst 0, 1) := by decide +kernel
theorem dX10_load_16 : decode cX10_load 16 = .ok (.goto 4, 3) := by decide +kernel
theorem dX10_load_19 : decode cX10_load 19 = .ok (.iconst 1, 1) := by decide +kernel
theorem dX10_load_20 : decode cX10_load 20 = .ok (.putfield 80, 3) := by decide +kernel
theorem dX10_load_23 : decode cX10_load 23 = .ok (.aload_n 0, 1) := by decide +kernel
theorem dX10_load_24 : decode cX10_load 24 = .ok (.getfield 80, 3) := by decide +kernel
theorem dX10_load_27 : decode cX10_load 27 = .ok (.ifCond .le 5, 3) := by decide +kernel
theorem dX10_load_30 : decode cX10_load 30 = .ok (.iconst 0, 1) := by decide +kernel
theorem dX10_load_31 : decode cX10_load 31 = .ok (.ireturn, 1) := by decide +kernel
theorem dX10_load_32 : decode cX10_load 32 = .ok (.aload_n 0, 1) := by decide +kernel
theorem dX10_load_33 : decode cX10_load 33 = .ok (.iload_n 1, 1) := by decide +kernel
theorem dX10_load_34 : decode cX10_load 34 = .ok (.putfield 107, 3) := by decide +kernel
theorem dX10_load_37 : decode cX10_load 37 = .ok (.aload_n 0, 1) := by decide +kernel
theorem dX10_load_38 : decode cX10_load 38 = .ok (.iconst 0, 1) := by decide +kernel
theorem dX10_load_39 : decode cX10_load 39 = .ok (.putfield 90, 3) := by decide +kernel
theorem dX10_load_42 : decode cX10_load 42 = .ok (.aload_n 0, 1) := by decide +kernel
theorem dX10_load_43 : decode cX10_load 43 = .ok (.iconst 0, 1) := by decide +kernel
theorem dX10_load_44 : decode cX10_load 44 = .ok (.putfield 110, 3) := by decide +kernel
theorem dX10_load_47 : decode cX10_load 47 = .ok (.aload_n 0, 1) := by decide +kernel
theorem dX10_load_48 : decode cX10_load 48 = .ok (.iconst 0, 1) := by decide +kernel
theorem dX10_load_49 : decode cX10_load 49 = .ok (.putfield 143, 3) := by decide +kernel
theorem dX10_load_52 : decode cX10_load 52 = .ok (.aload_n 0, 1) := by decide +kernel
theorem dX10_load_53 : decode cX10_load 53 = .ok (.iconst (-1), 1) := by decide +kernel
theorem dX10_load_54 : decode cX10_load 54 = .ok (.putfield 146, 3) := by decide +kernel
theorem dX10_load_57 : decode cX10_load 57 = .ok (.aload_n 0, 1) := by decide +kernel
theorem dX10_load_58 : decode cX10_load 58 = .ok (.iconst 0, 1) := by decide +kernel
theorem dX10_load_59 : decode cX10_load 59 = .ok (.putfield 182, 3) := by decide +kernel
theorem dX10_load_62 : decode cX10_load 62 = .ok (.aload_n 0, 1) := by decide +kernel
theorem dX10_load_63 : decode cX10_load 63 = .ok (.iconst 0, 1) := by decide +kernel
theorem dX10_load_64 : decode cX10_load 64 = .ok (.putfield 226, 3) := by decide +kernel
theorem dX10_load_67 : decode cX10_load 67 = .ok (.aload_n 0, 1) := by decide +kernel
theorem dX10_load_68 : decode cX10_load 68 = .ok (.iconst 0, 1) := by decide +kernel
theorem dX10_load_69 : decode cX10_load 69 = .ok (.putfield 167, 3) := by decide +kernel
theorem dX10_load_72 : decode cX10_load 72 = .ok (.aload_n 0, 1) := by decide +kernel
theorem dX10_load_73 : decode cX10_load 73 = .ok (.getfield 13, 3) := by decide +kernel
theorem dX10_load_76 : decode cX10_load 76 = .ok (.invokestatic 76, 3) := by decide +kernel
theorem dX10_load_79 : decode cX10_load 79 = .ok (.aload_n 0, 1) := by decide +kernel
theorem dX10_load_80 : decode cX10_load 80 = .ok (.invokevirtual 159, 3) := by decide +kernel
theorem dX10_load_83 : decode cX10_load 83 = .ok (.pop, 1) := by decide +kernel
theorem dX10_load_84 : decode cX10_load 84 = .ok (.iconst 1, 1) := by decide +kernel
theorem dX10_load_85 : decode cX10_load 85 = .ok (.istore_n 2, 1) := by decide +kernel
theorem dX10_load_86 : decode cX10_load 86 = .ok (.iload_n 2, 1) := by decide +kernel
theorem dX10_load_87 : decode cX10_load 87 = .ok (.ifCond .eq 33, 3) := by decide +kernel
theorem dX10_load_90 : decode cX10_load 90 = .ok (.aload_n 0, 1) := by decide +kernel
theorem dX10_load_91 : decode cX10_load 91 = .ok (.getfield 126, 3) := by decide +kernel
theorem dX10_load_94 : decode cX10_load 94 = .ok (.ifCond .eq 26, 3) := by decide +kernel
theorem dX10_load_97 : decode cX10_load 97 = .ok (.aload_n 0, 1) := by decide +kernel
theorem dX10_load_98 : decode cX10_load 98 = .ok (.invokevirtual 249, 3) := by decide +kernel
theorem dX10_load_101 : decode cX10_load 101 = .ok (.ifCond .eq 14, 3) := by decide +kernel
theorem dX10_load_104 : decode cX10_load 104 = .ok (.aload_n 0, 1) := by decide +kernel
theorem dX10_load_105 : decode cX10_load 105 = .ok (.invokevirtual 252, 3) := by decide +kernel
theorem dX10_load_108 : decode cX10_load 108 = .ok (.ifCond .eq 7, 3) := by decide +kernel
theorem dX10_load_111 : decode cX10_load 111 = .ok (.iconst 1, 1) := by decide +kernel
theorem dX10_load_112 : decode cX10_load 112 = .ok (.goto 4, 3) := by decide +kernel
theorem dX10_load_115 : decode cX10_load 115 = .ok (.iconst 0, 1) := by decide +kernel
theorem dX10_load_116 : decode cX10_load 116 = .ok (.istore_n 2, 1) := by decide +kernel
theorem dX10_load_117 : decode cX10_load 117 = .ok (.goto (-31), 3) := by decide +kernel
theorem dX10_load_120 : decode cX10_load 120 = .ok (.aload_n 0, 1) := by decide +kernel
theorem dX10_load_121 : decode cX10_load 121 = .ok (.aload_n 0, 1) := by decide +kernel
theorem dX10_load_122 : decode cX10_load 122 = .ok (.getfield 143, 3) := by decide +kernel
theorem dX10_load_125 : decode cX10_load 125 = .ok (.putfield 255, 3) := by decide +kernel
theorem dX10_load_128 : decode cX10_load 128 = .ok (.aload_n 0, 1) := by decide +kernel
theorem dX10_load_129 : decode cX10_load 129 = .ok (.aload_n 0, 1) := by decide +kernel
theorem dX10_load_130 : decode cX10_load 130 = .ok (.getfield 146, 3) := by decide +kernel
theorem dX10_load_133 : decode cX10_load 133 = .ok (.putfield 29, 3) := by decide +kernel
theorem dX10_load_136 : decode cX10_load 136 = .ok (.iload_n 2, 1) := by decide +kernel
theorem dX10_load_137 : decode cX10_load 137 = .ok (.ifCond .ne 6, 3) := by decide +kernel
theorem dX10_load_140 : decode cX10_load 140 = .ok (.bipush (-3), 2) := by decide +kernel
theorem dX10_load_142 : decode cX10_load 142 = .ok (.ireturn, 1) := by decide +kernel
theorem dX10_load_143 : decode cX10_load 143 = .ok (.aload_n 0, 1) := by decide +kernel
theorem dX10_load_144 : decode cX10_load 144 = .ok (.invokevirtual 258, 3) := by decide +kernel
theorem dX10_load_147 : decode cX10_load 147 = .ok (.aload_n 0, 1) := by decide +kernel
theorem dX10_load_148 : decode cX10_load 148 = .ok (.getfield 7, 3) := by decide +kernel
theorem dX10_load_151 : decode cX10_load 151 = .ok (.bipush 13, 2) := by decide +kernel
theorem dX10_load_153 : decode cX10_load 153 = .ok (.iaload, 1) := by decide +kernel
theorem dX10_load_154 : decode cX10_load 154 = .ok (.ireturn, 1) := by decide +kernel
theorem dX10_takeOver_0 : decode cX10_takeOver 0 = .ok (.aload_n 0, 1) := by decide +kernel
theorem dX10_takeOver_1 : decode cX10_takeOver 1 = .ok (.getfield 13, 3) := by decide +kernel
theorem dX10_takeOver_4 : decode cX10_takeOver 4 = .ok (.aload_n 0, 1) := by decide +kernel
theorem dX10_takeOver_5 : decode cX10_takeOver 5 = .ok (.getfield 7, 3) := by decide +kernel
theorem dX10_takeOver_8 : decode cX10_takeOver 8 = .ok (.invokestatic 245, 3) := by decide +kernel
theorem dX10_takeOver_11 : decode cX10_takeOver 11 = .ok (.iconst 0, 1) := by decide +kernel
theorem dX10_takeOver_12 : decode cX10_takeOver 12 = .ok (.istore_n 1, 1) := by decide +kernel
theorem dX10_takeOver_13 : decode cX10_takeOver 13 = .ok (.iload_n 1, 1) := by decide +kernel
theorem dX10_takeOver_14 : decode cX10_takeOver 14 = .ok (.bipush 10, 2) := by decide +kernel
theorem dX10_takeOver_16 : decode cX10_takeOver 16 = .ok (.if_icmp .ge 21, 3) := by decide +kernel
theorem dX10_takeOver_19 : decode cX10_takeOver 19 = .ok (.aload_n 0, 1) := by decide +kernel
theorem dX10_takeOver_20 : decode cX10_takeOver 20 = .ok (.getfield 36, 3) := by decide +kernel
theorem dX10_takeOver_23 : decode cX10_takeOver 23 = .ok (.iload_n 1, 1) := by decide +kernel
theorem dX10_takeOver_24 : decode cX10_takeOver 24 = .ok (.aload_n 0, 1) := by decide +kernel
theorem dX10_takeOver_25 : decode cX10_takeOver 25 = .ok (.getfield 39, 3) := by decide +kernel
theorem dX10_takeOver_28 : decode cX10_takeOver 28 = .ok (.iload_n 1, 1) := by decide +kernel
theorem dX10_takeOver_29 : decode cX10_takeOver 29 = .ok (.laload, 1) := by decide +kernel
theorem dX10_takeOver_30 : decode cX10_takeOver 30 = .ok (.lastore, 1) := by decide +kernel
theorem dX10_takeOver_31 : decode cX10_takeOver 31 = .ok (.iinc 1 1, 3) := by decide +kernel
theorem dX10_takeOver_34 : decode cX10_takeOver 34 = .ok (.goto (-21), 3) := by decide +kernel
theorem dX10_takeOver_37 : decode cX10_takeOver 37 = .ok (.iconst 0, 1) := by decide +kernel
theorem dX10_takeOver_38 : decode cX10_takeOver 38 = .ok (.istore_n 1, 1) := by decide +kernel
theorem dX10_takeOver_39 : decode cX10_takeOver 39 = .ok (.iload_n 1, 1) := by decide +kernel
theorem dX10_takeOver_40 : decode cX10_takeOver 40 = .ok (.bipush 8, 2) := by decide +kernel
theorem dX10_takeOver_42 : decode cX10_takeOver 42 = .ok (.if_icmp .ge 21, 3) := by decide +kernel
theorem dX10_takeOver_45 : decode cX10_takeOver 45 = .ok (.aload_n 0, 1) := by decide +kernel
theorem dX10_takeOver_46 : decode cX10_takeOver 46 = .ok (.getfield 42, 3) := by decide +kernel
theorem dX10_takeOver_49 : decode cX10_takeOver 49 = .ok (.iload_n 1, 1) := by decide +kernel
theorem dX10_takeOver_50 : decode cX10_takeOver 50 = .ok (.aload_n 0, 1) := by decide +kernel
theorem dX10_takeOver_51 : decode cX10_takeOver 51 = .ok (.getfield 45, 3) := by decide +kernel
theorem dX10_takeOver_54 : decode cX10_takeOver 54 = .ok (.iload_n 1, 1) := by decide +kernel
theorem dX10_takeOver_55 : decode cX10_takeOver 55 = .ok (.laload, 1) := by decide +kernel
theorem dX10_takeOver_56 : decode cX10_takeOver 56 = .ok (.lastore, 1) := by decide +kernel
theorem dX10_takeOver_57 : decode cX10_takeOver 57 = .ok (.iinc 1 1, 3) := by decide +kernel
theorem dX10_takeOver_60 : decode cX10_takeOver 60 = .ok (.goto (-21), 3) := by decide +kernel
theorem dX10_takeOver_63 : decode cX10_takeOver 63 = .ok (.iconst 0, 1) := by decide +kernel
theorem dX10_takeOver_64 : decode cX10_takeOver 64 = .ok (.istore_n 1, 1) := by decide +kernel
theorem dX10_takeOver_65 : decode cX10_takeOver 65 = .ok (.iload_n 1, 1) := by decide +kernel
theorem dX10_takeOver_66 : decode cX10_takeOver 66 = .ok (.bipush 10, 2) := by decide +kernel
theorem dX10_takeOver_68 : decode cX10_takeOver 68 = .ok (.if_icmp .gt 21, 3) := by decide +kernel
theorem dX10_takeOver_71 : decode cX10_takeOver 71 = .ok (.aload_n 0, 1) := by decide +kernel
theorem dX10_takeOver_72 : decode cX10_takeOver 72 = .ok (.getfield 54, 3) := by decide +kernel
theorem dX10_takeOver_75 : decode cX10_takeOver 75 = .ok (.iload_n 1, 1) := by decide +kernel
theorem dX10_takeOver_76 : decode cX10_takeOver 76 = .ok (.aload_n 0, 1) := by decide +kernel
theorem dX10_takeOver_77 : decode cX10_takeOver 77 = .ok (.getfield 57, 3) := by decide +kernel
theorem dX10_takeOver_80 : decode cX10_takeOver 80 = .ok (.iload_n 1, 1) := by decide +kernel
theorem dX10_takeOver_81 : decode cX10_takeOver 81 = .ok (.iaload, 1) := by decide +kernel
theorem dX10_takeOver_82 : decode cX10_takeOver 82 = .ok (.iastore, 1) := by decide +kernel
theorem dX10_takeOver_83 : decode cX10_takeOver 83 = .ok (.iinc 1 1, 3) := by decide +kernel
theorem dX10_takeOver_86 : decode cX10_takeOver 86 = .ok (.goto (-21), 3) := by decide +kernel
theorem dX10_takeOver_89 : decode cX10_takeOver 89 = .ok (.iconst 0, 1) := by decide +kernel
theorem dX10_takeOver_90 : decode cX10_takeOver 90 = .ok (.istore_n 1, 1) := by decide +kernel
theorem dX10_takeOver_91 : decode cX10_takeOver 91 = .ok (.iload_n 1, 1) := by decide +kernel
theorem dX10_takeOver_92 : decode cX10_takeOver 92 = .ok (.aload_n 0, 1) := by decide +kernel
theorem dX10_takeOver_93 : decode cX10_takeOver 93 = .ok (.getfield 167, 3) := by decide +kernel
theorem dX10_takeOver_96 : decode cX10_takeOver 96 = .ok (.if_icmp .ge 21, 3) := by decide +kernel
theorem dX10_takeOver_99 : decode cX10_takeOver 99 = .ok (.aload_n 0, 1) := by decide +kernel
theorem dX10_takeOver_100 : decode cX10_takeOver 100 = .ok (.getfield 48, 3) := by decide +kernel
theorem dX10_takeOver_103 : decode cX10_takeOver 103 = .ok (.iload_n 1, 1) := by decide +kernel
theorem dX10_takeOver_104 : decode cX10_takeOver 104 = .ok (.aload_n 0, 1) := by decide +kernel
theorem dX10_takeOver_105 : decode cX10_takeOver 105 = .ok (.getfield 51, 3) := by decide +kernel
theorem dX10_takeOver_108 : decode cX10_takeOver 108 = .ok (.iload_n 1, 1) := by decide +kernel
theorem dX10_takeOver_109 : decode cX10_takeOver 109 = .ok (.iaload, 1) := by decide +kernel
theorem dX10_takeOver_110 : decode cX10_takeOver 110 = .ok (.iastore, 1) := by decide +kernel
theorem dX10_takeOver_111 : decode cX10_takeOver 111 = .ok (.iinc 1 1, 3) := by decide +kernel
theorem dX10_takeOver_114 : decode cX10_takeOver 114 = .ok (.goto (-23), 3) := by decide +kernel
theorem dX10_takeOver_117 : decode cX10_takeOver 117 = .ok (.aload_n 0, 1) := by decide +kernel
theorem dX10_takeOver_118 : decode cX10_takeOver 118 = .ok (.lconst 0, 1) := by decide +kernel
theorem dX10_takeOver_119 : decode cX10_takeOver 119 = .ok (.putfield 86, 3) := by decide +kernel
theorem dX10_takeOver_122 : decode cX10_takeOver 122 = .ok (.aload_n 0, 1) := by decide +kernel
theorem dX10_takeOver_123 : decode cX10_takeOver 123 = .ok (.iconst 0, 1) := by decide +kernel
theorem dX10_takeOver_124 : decode cX10_takeOver 124 = .ok (.putfield 83, 3) := by decide +kernel
theorem dX10_takeOver_127 : decode cX10_takeOver 127 = .ok (.return_, 1) := by decide +kernel
theorem dX10_wordAt_0 : decode cX10_wordAt 0 = .ok (.iconst 0, 1) := by decide +kernel
theorem dX10_wordAt_1 : decode cX10_wordAt 1 = .ok (.istore_n 2, 1) := by decide +kernel
theorem dX10_wordAt_2 : decode cX10_wordAt 2 = .ok (.iconst 0, 1) := by decide +kernel
theorem dX10_wordAt_3 : decode cX10_wordAt 3 = .ok (.istore_n 3, 1) := by decide +kernel
theorem dX10_wordAt_4 : decode cX10_wordAt 4 = .ok (.iload_n 3, 1) := by decide +kernel
theorem dX10_wordAt_5 : decode cX10_wordAt 5 = .ok (.iload_n 1, 1) := by decide +kernel
theorem dX10_wordAt_6 : decode cX10_wordAt 6 = .ok (.if_icmp .ge 27, 3) := by decide +kernel
theorem dX10_wordAt_9 : decode cX10_wordAt 9 = .ok (.iload_n 3, 1) := by decide +kernel
theorem dX10_wordAt_10 : decode cX10_wordAt 10 = .ok (.aload_n 0, 1) := by decide +kernel
theorem dX10_wordAt_11 : decode cX10_wordAt 11 = .ok (.iload_n 2, 1) := by decide +kernel
theorem dX10_wordAt_12 : decode cX10_wordAt 12 = .ok (.invokevirtual 97, 3) := by decide +kernel
theorem dX10_wordAt_15 : decode cX10_wordAt 15 = .ok (.bipush 32, 2) := by decide +kernel
theorem dX10_wordAt_17 : decode cX10_wordAt 17 = .ok (.if_icmp .ne 7, 3) := by decide +kernel
theorem dX10_wordAt_20 : decode cX10_wordAt 20 = .ok (.iconst 1, 1) := by decide +kernel
theorem dX10_wordAt_21 : decode cX10_wordAt 21 = .ok (.goto 4, 3) := by decide +kernel
theorem dX10_wordAt_24 : decode cX10_wordAt 24 = .ok (.iconst 0, 1) := by decide +kernel
theorem dX10_wordAt_25 : decode cX10_wordAt 25 = .ok (.iadd, 1) := by decide +kernel
theorem dX10_wordAt_26 : decode cX10_wordAt 26 = .ok (.istore_n 3, 1) := by decide +kernel
theorem dX10_wordAt_27 : decode cX10_wordAt 27 = .ok (.iinc 2 1, 3) := by decide +kernel
theorem dX10_wordAt_30 : decode cX10_wordAt 30 = .ok (.goto (-26), 3) := by decide +kernel
theorem dX10_wordAt_33 : decode cX10_wordAt 33 = .ok (.lconst 0, 1) := by decide +kernel
theorem dX10_wordAt_34 : decode cX10_wordAt 34 = .ok (.lstore_n 3, 1) := by decide +kernel
theorem dX10_wordAt_35 : decode cX10_wordAt 35 = .ok (.iload_n 2, 1) := by decide +kernel
theorem dX10_wordAt_36 : decode cX10_wordAt 36 = .ok (.istore 5, 2) := by decide +kernel
theorem dX10_wordAt_38 : decode cX10_wordAt 38 = .ok (.aload_n 0, 1) := by decide +kernel
theorem dX10_wordAt_39 : decode cX10_wordAt 39 = .ok (.iload 5, 2) := by decide +kernel
theorem dX10_wordAt_41 : decode cX10_wordAt 41 = .ok (.invokevirtual 97, 3) := by decide +kernel
theorem dX10_wordAt_44 : decode cX10_wordAt 44 = .ok (.bipush 32, 2) := by decide +kernel
theorem dX10_wordAt_46 : decode cX10_wordAt 46 = .ok (.if_icmp .eq 27, 3) := by decide +kernel
theorem dX10_wordAt_49 : decode cX10_wordAt 49 = .ok (.ldc2_w 103, 3) := by decide +kernel
theorem dX10_wordAt_52 : decode cX10_wordAt 52 = .ok (.lload_n 3, 1) := by decide +kernel
theorem dX10_wordAt_53 : decode cX10_wordAt 53 = .ok (.lmul, 1) := by decide +kernel
theorem dX10_wordAt_54 : decode cX10_wordAt 54 = .ok (.aload_n 0, 1) := by decide +kernel
theorem dX10_wordAt_55 : decode cX10_wordAt 55 = .ok (.iload 5, 2) := by decide +kernel
theorem dX10_wordAt_57 : decode cX10_wordAt 57 = .ok (.invokevirtual 97, 3) := by decide +kernel
theorem dX10_wordAt_60 : decode cX10_wordAt 60 = .ok (.i2l, 1) := by decide +kernel
theorem dX10_wordAt_61 : decode cX10_wordAt 61 = .ok (.ladd, 1) := by decide +kernel
theorem dX10_wordAt_62 : decode cX10_wordAt 62 = .ok (.ldc2_w 105, 3) := by decide +kernel
theorem dX10_wordAt_65 : decode cX10_wordAt 65 = .ok (.lsub, 1) := by decide +kernel
theorem dX10_wordAt_66 : decode cX10_wordAt 66 = .ok (.lstore_n 3, 1) := by decide +kernel
theorem dX10_wordAt_67 : decode cX10_wordAt 67 = .ok (.iinc 5 1, 3) := by decide +kernel
theorem dX10_wordAt_70 : decode cX10_wordAt 70 = .ok (.goto (-32), 3) := by decide +kernel
theorem dX10_wordAt_73 : decode cX10_wordAt 73 = .ok (.lload_n 3, 1) := by decide +kernel
theorem dX10_wordAt_74 : decode cX10_wordAt 74 = .ok (.lreturn, 1) := by decide +kernel

set_option maxHeartbeats 4000000 in
set_option maxRecDepth 100000 in
/-- wordAt: some long -/
theorem c_m_wordAt (l : Launch) (D : va_G) (cA : Nat → ClassId) (sa : Nat → Nat) (k ix : Nat) (bs : List Int32) (sz : Nat) (hq : (k, bs) ∈ sbL) (hs : ix < sp bs bs.length) : Met l yX10_wordAt wsX10_wordAt ({ frames := 4, cells := 0, slots := 0, locals := 85 }) (va_Pc [.ref (sa k), .int (nI ix)] (Wd D cA sa [] sz)) (va_Ql (fun (r : Int64) (_ : Unit) => True) (fun (_ : Unit) t => Wq D (va_A [] sz) [] t) (va_A [] sz)) 0 0 (va_A [] sz) := by
  refine Met.ofW (cc := cX10_wordAt) (maxL := 6) (ret := (some .long)) (by decide) rfl ?_
  intro p e s m args below meth c s₁ B hml hv
  obtain ⟨rfl, hsz, hP, hK, hD0, hC, hZ⟩ := hv
  have hx := B.exec
  have hb := B.bytes
  have hr := B.returns
  have hts := atoms_spec (ws := wsX10_wordAt) B.pre
  have hown : s.vm.findClass RX10 = some m.cls := findClass_of_methodNamed B.named
  have hlocks := B.notSynchronized
  subst hsz
  have hD := hD0.self (sz := s.heap.size)
  generalize hAe : va_A [] s.heap.size = A at hD hZ ⊢
  have hA : ∀ q : Nat, s.heap.size ≤ q → A q := fun q h => by rw [← hAe]; exact Or.inr h
  have hS : va_S A s.heap s.heap [] := va_S.rf
  have hP : va_P D vwCl [] s.heap := hP
  have hl := lv_entry ([.ref (sa k), .int (nI ix)]) (n := 6) (Nat.le_of_ble_eq_true rfl)
  rw [lg_entry_eq]
  generalize (lg_sl ([.ref (sa k), .int (nI ix)]) ++ List.replicate (6 - (lg_sl ([.ref (sa k), .int (nI ix)])).length) Slot.unset).toArray = ls at hl ⊢
  have hl : lv_has ls 6 [(0, .ref (sa k)), (1, .int (nI ix))] := hl
  have hso := hZ.2.2.2.2 (k, bs) hq
  have hsC : va_OF "java/lang/String" "coder" "B" (.int 0) (sa k) A s s.heap := hso.2.1
  have hsV : va_OF "java/lang/String" "value" "[B" (.ref (sa (1000 + k))) (sa k) A s s.heap := hso.2.2.1
  have hsT : va_T .byte (sa (1000 + k)) bs.length (fun j => .int (bs.getD j 0)) A s s.heap := hso.2.2.2
  refine lv_iconst (v := 0) hx hb dX10_wordAt_0 (by decide) ?_
  refine lv_istore_n (lv' := [(2, .int 0), (0, .ref (sa k)), (1, .int (nI ix))]) hx hb dX10_wordAt_1 rfl hl (by decide) rfl (fun ls hl => ?_)
  refine lv_iconst (v := 0) hx hb dX10_wordAt_2 (by decide) ?_
  refine lv_istore_n (lv' := [(3, .int 0), (2, .int 0), (0, .ref (sa k)), (1, .int (nI ix))]) hx hb dX10_wordAt_3 rfl hl (by decide) rfl (fun ls hl => ?_)
  have hL := sb_lt hq
  have hsL := sp_le bs bs.length
  have loop2 : ∀ (n i : Nat) (v : Int64) (H : Heap) (locs : List Loc) (ls : Array Slot), i + n = bs.length → sp bs i = ix → va_P D vwCl [] H → va_D A [] → va_S A s.heap H locs → lv_has ls 6 [(5, .int (nI i)), (3, .long v), (0, .ref (sa k))] → W p l e (headSpec wsX10_wordAt ({ frames := 4, cells := 0, slots := 0, locals := 85 } : Room)).room s m ([.ref (sa k), .int (nI ix)] : List Value).toArray below meth c H locs 0 0 (MQ below (va_Ql (fun (r : Int64) (_ : Unit) => True) (fun (_ : Unit) t => Wq D A [] t) A) ([.ref (sa k), .int (nI ix)] : List Value).toArray s 0 0 A) (F0 m 38 ls []) := by
    intro n
    induction n with
    | zero =>
      intro i v H locs ls hi hs9 hP hD hS hl
      exfalso
      obtain rfl : bs.length = i := by omega
      omega
    | succ n ih =>
      intro i v H locs ls hi hs9 hP hD hS hl
      have hi9 : i < bs.length := by omega
      refine lv_aload_n hx hb dX10_wordAt_38 rfl (lv_at hl 2 rfl) ?_
      refine lv_iload hx hb dX10_wordAt_39 (lv_at hl 0 rfl) ?_
      have hPc := hP.sub (ws' := []) [] rfl
      have hDc := hD.sub (ws' := []) [] (by decide) rfl
      have hFc := va_free (wc := []) hD hS hA [] rfl
      refine va_calli (va_runV (As := [.int (nI i)]) (rest := []) ⟨hx, hb, hml, hown, hts⟩ (c_charAt l D cA sa k i bs H.size hq hi9) (cwV 1 hts gX10_wordAt_J0_charAt_5068e rfl rfl rfl (by decide +kernel) ⟨(Nat.le_of_ble_eq_true rfl), (Nat.le_of_ble_eq_true rfl)⟩) ⟨Wd.blind, SO.recv hso hS, fun U hU hW => ⟨rfl, Wd.call hPc hDc hK hC hZ hS hFc U hU hW⟩⟩ rfl rfl hl.1 rfl (lv_room (Nat.le_of_ble_eq_true rfl)) dX10_wordAt_41 ⟨(Nat.le_of_ble_eq_true rfl), (Nat.le_of_ble_eq_true rfl)⟩) hS (fun q _ h => hFc q h) hFc (fun rn1 u t H1 locs ht hvm hw hB hz1 hk1 hS => ?_)
      obtain ⟨hP1, hD1⟩ := hB
      rw [ht] at hP1
      obtain ⟨hP, hD⟩ := va_join (wr := []) (w1 := []) hP hD [] [] rfl rfl (by decide) (by decide) hk1 hFc hP1 hD1
      generalize H1 = H at hP hS ⊢
      have hP : va_P D vwCl [] H := hP
      have hD : va_D A [] := hD
      obtain rfl : rn1 = (bs.getD i 0) := hw
      refine lv_bipush (v := 32) hx hb dX10_wordAt_44 (by decide) ?_
      refine lv_icmp_eq (tgt := 73) hx hb dX10_wordAt_46 (by decide) (fun c2 => ?_) (fun c2 => ?_)
      · skip
        refine lv_lload_n hx hb dX10_wordAt_73 rfl (lv_at hl 1 rfl) ?_
        have hP9 := hP.sub (ws' := []) [] rfl
        have hD9 := hD.sub (ws' := []) [] (by decide) rfl
        refine W.widen (k := 0) (n := 0) (Nat.le_of_ble_eq_true rfl) (Nat.le_of_ble_eq_true rfl) ?_
        exact W.lret (v := v) hx hb hr (fun t ht hW => ⟨⟨v, (), rfl, trivial, by rw [ht]; exact hP9, hD9⟩, hS.F ht⟩) hS.2.2 dX10_wordAt_74
      · skip
        refine lv_ldc2 (v := 32) hx hb hown (hts (.constantLong RX10 103 32) (by decide +kernel)) dX10_wordAt_49 ?_
        refine lv_lload_n hx hb dX10_wordAt_52 rfl (lv_at hl 1 rfl) ?_
        refine lv_lmul hx hb dX10_wordAt_53 ?_
        refine lv_aload_n hx hb dX10_wordAt_54 rfl (lv_at hl 2 rfl) ?_
        refine lv_iload hx hb dX10_wordAt_55 (lv_at hl 0 rfl) ?_
        have hPc := hP.sub (ws' := []) [] rfl
        have hDc := hD.sub (ws' := []) [] (by decide) rfl
        have hFc := va_free (wc := []) hD hS hA [] rfl
        refine va_calli (va_runV (As := [.int (nI i)]) (rest := [.long (32 * v)]) ⟨hx, hb, hml, hown, hts⟩ (c_charAt l D cA sa k i bs H.size hq hi9) (cwV 1 hts gX10_wordAt_J0_charAt_5068e rfl rfl rfl (by decide +kernel) ⟨(Nat.le_of_ble_eq_true rfl), (Nat.le_of_ble_eq_true rfl)⟩) ⟨Wd.blind, SO.recv hso hS, fun U hU hW => ⟨rfl, Wd.call hPc hDc hK hC hZ hS hFc U hU hW⟩⟩ rfl rfl hl.1 rfl (lv_room (Nat.le_of_ble_eq_true rfl)) dX10_wordAt_57 ⟨(Nat.le_of_ble_eq_true rfl), (Nat.le_of_ble_eq_true rfl)⟩) hS (fun q _ h => hFc q h) hFc (fun rn4 u t H1 locs ht hvm hw hB hz1 hk1 hS => ?_)
        obtain ⟨hP1, hD1⟩ := hB
        rw [ht] at hP1
        obtain ⟨hP, hD⟩ := va_join (wr := []) (w1 := []) hP hD [] [] rfl rfl (by decide) (by decide) hk1 hFc hP1 hD1
        generalize H1 = H at hP hS ⊢
        have hP : va_P D vwCl [] H := hP
        have hD : va_D A [] := hD
        obtain rfl : rn4 = (bs.getD i 0) := hw
        refine lv_i2l (v := ((bs.getD i 0).toInt64)) hx hb dX10_wordAt_60 rfl ?_
        refine lv_ladd hx hb dX10_wordAt_61 ?_
        refine lv_ldc2 (v := 96) hx hb hown (hts (.constantLong RX10 105 96) (by decide +kernel)) dX10_wordAt_62 ?_
        refine lv_lsub hx hb dX10_wordAt_65 ?_
        refine lv_lstore_n (lv' := [(3, .long (((32 * v) + ((bs.getD i 0).toInt64)) - 96)), (5, .int (nI i)), (0, .ref (sa k))]) hx hb dX10_wordAt_66 rfl hl (by decide) rfl (fun ls hl => ?_)
        refine lv_iinc (v := (nI (i + 1))) (lv' := [(5, .int (nI (i + 1))), (3, .long (((32 * v) + ((bs.getD i 0).toInt64)) - 96)), (0, .ref (sa k))]) hx hb dX10_wordAt_67 hl (k := 1) rfl (nI_1 _) (by decide) rfl (fun ls hl => ?_)
        refine lv_goto (tgt := 38) hx hb dX10_wordAt_70 (by decide) ?_
        exact ih (i + 1) (((32 * v) + ((bs.getD i 0).toInt64)) - 96) H _ ls (by omega) ((sp_no hi9 c2).trans hs9) (hP.sub [] rfl) (hD.sub [] (by decide) rfl) hS (lv_sub hl [0, 1, 2] rfl)
  have loop1 : ∀ (n i : Nat) (H : Heap) (locs : List Loc) (ls : Array Slot), i + n = bs.length → sp bs i ≤ ix → va_P D vwCl [] H → va_D A [] → va_S A s.heap H locs → lv_has ls 6 [(3, .int (nI (sp bs i))), (2, .int (nI i)), (0, .ref (sa k)), (1, .int (nI ix))] → W p l e (headSpec wsX10_wordAt ({ frames := 4, cells := 0, slots := 0, locals := 85 } : Room)).room s m ([.ref (sa k), .int (nI ix)] : List Value).toArray below meth c H locs 0 0 (MQ below (va_Ql (fun (r : Int64) (_ : Unit) => True) (fun (_ : Unit) t => Wq D A [] t) A) ([.ref (sa k), .int (nI ix)] : List Value).toArray s 0 0 A) (F0 m 4 ls []) := by
    intro n
    induction n with
    | zero =>
      intro i H locs ls hi hs9 hP hD hS hl
      exfalso
      obtain rfl : bs.length = i := by omega
      omega
    | succ n ih =>
      intro i H locs ls hi hs9 hP hD hS hl
      have hi9 : i < bs.length := by omega
      refine lv_iload_n hx hb dX10_wordAt_4 rfl (lv_at hl 0 rfl) ?_
      refine lv_iload_n hx hb dX10_wordAt_5 rfl (lv_at hl 3 rfl) ?_
      refine lv_icmp_ge (tgt := 33) hx hb dX10_wordAt_6 (by decide) (fun c7 => ?_) (fun c7 => ?_)
      · skip
        refine lv_lconst (v := 0) hx hb dX10_wordAt_33 (by decide) ?_
        refine lv_lstore_n (lv' := [(3, .long 0), (2, .int (nI i)), (0, .ref (sa k)), (1, .int (nI ix))]) hx hb dX10_wordAt_34 rfl hl (by decide) rfl (fun ls hl => ?_)
        refine lv_iload_n hx hb dX10_wordAt_35 rfl (lv_at hl 1 rfl) ?_
        refine lv_istore (lv' := [(5, .int (nI i)), (3, .long 0), (2, .int (nI i)), (0, .ref (sa k)), (1, .int (nI ix))]) hx hb dX10_wordAt_36 hl (by decide) rfl (fun ls hl => ?_)
        exact loop2 (n + 1) i 0 H _ ls hi (sp_eq hs9 (by omega) c7) (hP.sub [] rfl) (hD.sub [] (by decide) rfl) hS (lv_sub hl [0, 1, 3] rfl)
      · skip
        refine lv_iload_n hx hb dX10_wordAt_9 rfl (lv_at hl 0 rfl) ?_
        refine lv_aload_n hx hb dX10_wordAt_10 rfl (lv_at hl 2 rfl) ?_
        refine lv_iload_n hx hb dX10_wordAt_11 rfl (lv_at hl 1 rfl) ?_
        have hPc := hP.sub (ws' := []) [] rfl
        have hDc := hD.sub (ws' := []) [] (by decide) rfl
        have hFc := va_free (wc := []) hD hS hA [] rfl
        refine va_calli (va_runV (As := [.int (nI i)]) (rest := [.int (nI (sp bs i))]) ⟨hx, hb, hml, hown, hts⟩ (c_charAt l D cA sa k i bs H.size hq hi9) (cwV 1 hts gX10_wordAt_J0_charAt_5068e rfl rfl rfl (by decide +kernel) ⟨(Nat.le_of_ble_eq_true rfl), (Nat.le_of_ble_eq_true rfl)⟩) ⟨Wd.blind, SO.recv hso hS, fun U hU hW => ⟨rfl, Wd.call hPc hDc hK hC hZ hS hFc U hU hW⟩⟩ rfl rfl hl.1 rfl (lv_room (Nat.le_of_ble_eq_true rfl)) dX10_wordAt_12 ⟨(Nat.le_of_ble_eq_true rfl), (Nat.le_of_ble_eq_true rfl)⟩) hS (fun q _ h => hFc q h) hFc (fun rn8 u t H1 locs ht hvm hw hB hz1 hk1 hS => ?_)
        obtain ⟨hP1, hD1⟩ := hB
        rw [ht] at hP1
        obtain ⟨hP, hD⟩ := va_join (wr := []) (w1 := []) hP hD [] [] rfl rfl (by decide) (by decide) hk1 hFc hP1 hD1
        generalize H1 = H at hP hS ⊢
        have hP : va_P D vwCl [] H := hP
        have hD : va_D A [] := hD
        obtain rfl : rn8 = (bs.getD i 0) := hw
        refine lv_bipush (v := 32) hx hb dX10_wordAt_15 (by decide) ?_
        refine lv_icmp_ne (tgt := 24) hx hb dX10_wordAt_17 (by decide) (fun c9 => ?_) (fun c9 => ?_)
        · skip
          refine lv_iconst (v := 0) hx hb dX10_wordAt_24 (by decide) ?_
          refine lv_iadd hx hb dX10_wordAt_25 ?_
          refine lv_topi (fun yn10 eyn10 => ?_)
          obtain rfl : yn10 = nI (sp bs (i + 1)) := eyn10.trans (sp_noI hi9 c9)
          refine lv_istore_n (lv' := [(3, .int (nI (sp bs (i + 1)))), (2, .int (nI i)), (0, .ref (sa k)), (1, .int (nI ix))]) hx hb dX10_wordAt_26 rfl hl (by decide) rfl (fun ls hl => ?_)
          refine lv_iinc (v := (nI (i + 1))) (lv' := [(2, .int (nI (i + 1))), (3, .int (nI (sp bs (i + 1)))), (0, .ref (sa k)), (1, .int (nI ix))]) hx hb dX10_wordAt_27 hl (k := 1) rfl (nI_1 _) (by decide) rfl (fun ls hl => ?_)
          refine lv_goto (tgt := 4) hx hb dX10_wordAt_30 (by decide) ?_
          exact ih (i + 1) H _ ls (by omega) (by have q1 := sp_lt hs9 c7; have q2 := sp_succ hi9; split at q2 <;> omega) (hP.sub [] rfl) (hD.sub [] (by decide) rfl) hS (lv_sub hl [1, 0, 2, 3] rfl)
        · skip
          refine lv_iconst (v := 1) hx hb dX10_wordAt_20 (by decide) ?_
          refine lv_goto (tgt := 25) hx hb dX10_wordAt_21 (by decide) ?_
          refine lv_iadd hx hb dX10_wordAt_25 ?_
          refine lv_topi (fun yn11 eyn11 => ?_)
          obtain rfl : yn11 = nI (sp bs (i + 1)) := eyn11.trans (sp_yesI hi9 c9)
          refine lv_istore_n (lv' := [(3, .int (nI (sp bs (i + 1)))), (2, .int (nI i)), (0, .ref (sa k)), (1, .int (nI ix))]) hx hb dX10_wordAt_26 rfl hl (by decide) rfl (fun ls hl => ?_)
          refine lv_iinc (v := (nI (i + 1))) (lv' := [(2, .int (nI (i + 1))), (3, .int (nI (sp bs (i + 1)))), (0, .ref (sa k)), (1, .int (nI ix))]) hx hb dX10_wordAt_27 hl (k := 1) rfl (nI_1 _) (by decide) rfl (fun ls hl => ?_)
          refine lv_goto (tgt := 4) hx hb dX10_wordAt_30 (by decide) ?_
          exact ih (i + 1) H _ ls (by omega) (by have q1 := sp_lt hs9 c7; have q2 := sp_succ hi9; split at q2 <;> omega) (hP.sub [] rfl) (hD.sub [] (by decide) rfl) hS (lv_sub hl [1, 0, 2, 3] rfl)
  exact loop1 bs.length 0 _ _ ls (by omega) (Nat.zero_le _) (hP.sub [] rfl) (hD.sub [] (by decide) rfl) hS (lv_sub hl [0, 1, 2, 3] rfl)

set_option maxHeartbeats 4000000 in
set_option maxRecDepth 100000 in
/-- EscrowDeskModel() -/
theorem c_X10_init (l : Launch) (D : va_G) (cA : Nat → ClassId) (sa : Nat → Nat) (w0 : Nat) (sz : Nat) : Met l yX10_init wsX10_init ({ frames := 5, cells := 18, slots := 6331, locals := 110 }) (va_Pc [.ref w0] (Wd D cA sa [(w0, .inr (11, [.null, .null, .null, .null, .null, .long 0, .long 0, .int 0, .int 0, .null, .int 0, .int 0, .int 0, .null, .int 0, .int 0, .int 0, .int 0, .int 0, .int 0, .int 0, .int 0, .int 0, .int 0, .int 0, .long 0, .int 0, .null, .null, .null, .null, .null, .null, .null, .null, .null, .null, .null, .int 0]))] sz)) (va_Qv (fun _ : Unit => True) (fun (_ : Unit) t => ∃ qn1 : Nat, ∃ qn2 : Nat, ∃ qn3 : Nat, ∃ qn4 : Nat, ∃ qn5 : Nat, ∃ qn6 : Nat, ∃ qn7 : Nat, ∃ qn8 : Nat, ∃ qn9 : Nat, ∃ qn10 : Nat, ∃ qn11 : Nat, ∃ qn12 : Nat, ∃ qn13 : Nat, ∃ qn14 : Nat, ∃ qn15 : Nat, ∃ qn16 : Nat, ∃ qn17 : Nat, ∃ qn18 : Nat, ∃ fn63 : Nat → Int64, ∃ fn65 : Nat → Int32, Zs fn65 ∧ Wq D (va_A [(w0, .inr (11, [.null, .null, .null, .null, .null, .long 0, .long 0, .int 0, .int 0, .null, .int 0, .int 0, .int 0, .null, .int 0, .int 0, .int 0, .int 0, .int 0, .int 0, .int 0, .int 0, .int 0, .int 0, .int 0, .long 0, .int 0, .null, .null, .null, .null, .null, .null, .null, .null, .null, .null, .null, .int 0]))] sz) [(w0, .inr (11, [.ref qn1, .ref qn2, .ref qn3, .ref qn4, .ref qn5, .long 0, .long 0, .int 0, .int 0, .ref qn6, .int 0, .int 0, .int (-1), .ref qn7, .int 0, .int 0, .int 0, .int 0, .int 0, .int 0, .int 0, .int 0, .int 0, .int 0, .int 0, .long 0, .int 0, .ref qn8, .ref qn9, .ref qn10, .ref qn11, .ref qn12, .ref qn13, .ref qn14, .ref qn15, .ref qn16, .ref qn17, .ref qn18, .int 0])), (qn1, .inl (cA 0, 326, .inl fn65)), (qn2, .inl (cA 0, 326, .inl (fun _ => 0))), (qn3, .inl (cA 0, 326, .inl (fun _ => 0))), (qn4, .inl (cA 0, 3260, .inl (fun _ => 0))), (qn5, .inl (cA 1, 10, .inr (.inl (fun _ => 0)))), (qn6, .inl (cA 0, 700, .inl (fun _ => 0))), (qn7, .inl (cA 1, 15, .inr (.inl fn63))), (qn8, .inl (cA 1, 10, .inr (.inl (fun _ => 0)))), (qn9, .inl (cA 1, 10, .inr (.inl (fun _ => 0)))), (qn10, .inl (cA 1, 8, .inr (.inl (fun _ => 0)))), (qn11, .inl (cA 1, 8, .inr (.inl (fun _ => 0)))), (qn12, .inl (cA 0, 400, .inl (fun _ => 0))), (qn13, .inl (cA 0, 400, .inl (fun _ => 0))), (qn14, .inl (cA 0, 11, .inl (fun _ => 0))), (qn15, .inl (cA 0, 11, .inl (fun _ => 0))), (qn16, .inl (cA 4, 400, .inl (fun _ => 0))), (qn17, .inl (cA 0, 10, .inl (fun _ => 0))), (qn18, .inl (cA 0, 100, .inl (fun _ => 0)))] t) (va_A [(w0, .inr (11, [.null, .null, .null, .null, .null, .long 0, .long 0, .int 0, .int 0, .null, .int 0, .int 0, .int 0, .null, .int 0, .int 0, .int 0, .int 0, .int 0, .int 0, .int 0, .int 0, .int 0, .int 0, .int 0, .long 0, .int 0, .null, .null, .null, .null, .null, .null, .null, .null, .null, .null, .null, .int 0]))] sz)) 18 6331 (va_A [(w0, .inr (11, [.null, .null, .null, .null, .null, .long 0, .long 0, .int 0, .int 0, .null, .int 0, .int 0, .int 0, .null, .int 0, .int 0, .int 0, .int 0, .int 0, .int 0, .int 0, .int 0, .int 0, .int 0, .int 0, .long 0, .int 0, .null, .null, .null, .null, .null, .null, .null, .null, .null, .null, .null, .int 0]))] sz) := by
  refine Met.ofW (cc := cX10_init) (maxL := 2) (ret := none) (by decide) rfl ?_
  intro p e s m args below meth c s₁ B hml hv
  obtain ⟨rfl, hsz, hP, hK, hD0, hC, hZ⟩ := hv
  have hx := B.exec
  have hb := B.bytes
  have hr := B.returns
  have hts := atoms_spec (ws := wsX10_init) B.pre
  have hown : s.vm.findClass RX10 = some m.cls := findClass_of_methodNamed B.named
  have hlocks := B.notSynchronized
  have hin : meth.name = "<init>" := (name_of_methodNamed B.named B.method).1
  subst hsz
  have hD := hD0.self (sz := s.heap.size)
  generalize hAe : va_A [(w0, .inr (11, [.null, .null, .null, .null, .null, .long 0, .long 0, .int 0, .int 0, .null, .int 0, .int 0, .int 0, .null, .int 0, .int 0, .int 0, .int 0, .int 0, .int 0, .int 0, .int 0, .int 0, .int 0, .int 0, .long 0, .int 0, .null, .null, .null, .null, .null, .null, .null, .null, .null, .null, .null, .int 0]))] s.heap.size = A at hD hZ ⊢
  have hA : ∀ q : Nat, s.heap.size ≤ q → A q := fun q h => by rw [← hAe]; exact Or.inr h
  have hS : va_S A s.heap s.heap [] := va_S.rf
  have hP : va_P D vwCl [(w0, .inr (11, [.null, .null, .null, .null, .null, .long 0, .long 0, .int 0, .int 0, .null, .int 0, .int 0, .int 0, .null, .int 0, .int 0, .int 0, .int 0, .int 0, .int 0, .int 0, .int 0, .int 0, .int 0, .int 0, .long 0, .int 0, .null, .null, .null, .null, .null, .null, .null, .null, .null, .null, .null, .int 0]))] s.heap := hP
  have hl := lv_entry ([.ref w0]) (n := 2) (Nat.le_of_ble_eq_true rfl)
  rw [lg_entry_eq]
  generalize (lg_sl ([.ref w0]) ++ List.replicate (2 - (lg_sl ([.ref w0])).length) Slot.unset).toArray = ls at hl ⊢
  have hl : lv_has ls 2 [(0, .ref w0)] := hl
  have inX10 : ∀ w ∈ u_ws RX10 TX10 39, w ∈ wsX10_init := by decide +kernel
  refine lv_aload_n hx hb dX10_init_0 rfl (lv_at hl 0 rfl) ?_
  refine W.objInit hx hb hown (hts (.methodLink RX10 1 objectInit) (by decide +kernel)) (hts (.instanceMethod objectInit) (by decide +kernel)) (hts (.code objectInit ⟨#[0xb1]⟩ 1 none) (by decide +kernel)) rfl (by rw [hml]; exact hl.1) rfl dX10_init_1 (Nat.le_of_ble_eq_true rfl) (Nat.le_of_ble_eq_true rfl) ?_
  refine W.eq (g2 := F0 m 4 ls []) rfl ?_
  refine lv_aload_n hx hb dX10_init_4 rfl (lv_at hl 0 rfl) ?_
  refine lv_sipush (v := 326) hx hb dX10_init_5 (by decide) ?_
  refine va_newa (atype := .int) (ty := .int) (N' := 326) (a0 := (326, .inl (fun _ => 0))) hx hb (hts (.arrayClass .int) (by decide +kernel)) rfl hK hP hD hS hA (fun _ => rfl) (by decide) (by decide +kernel) (Nat.le_of_ble_eq_true rfl) (Nat.le_of_ble_eq_true rfl) (Nat.le_of_ble_eq_true rfl) dX10_init_8 (fun qn1 c9 H hK9 hP hD hS => ?_)
  obtain rfl : c9 = cA 0 := ty_one hK9 0 rfl
  have hP : va_P D vwCl [(w0, .inr (11, [.null, .null, .null, .null, .null, .long 0, .long 0, .int 0, .int 0, .null, .int 0, .int 0, .int 0, .null, .int 0, .int 0, .int 0, .int 0, .int 0, .int 0, .int 0, .int 0, .int 0, .int 0, .int 0, .long 0, .int 0, .null, .null, .null, .null, .null, .null, .null, .null, .null, .null, .null, .int 0])), (qn1, .inl (cA 0, 326, .inl (fun _ => 0)))] H := hP
  have hD : va_D A [(w0, .inr (11, [.null, .null, .null, .null, .null, .long 0, .long 0, .int 0, .int 0, .null, .int 0, .int 0, .int 0, .null, .int 0, .int 0, .int 0, .int 0, .int 0, .int 0, .int 0, .int 0, .int 0, .int 0, .int 0, .long 0, .int 0, .null, .null, .null, .null, .null, .null, .null, .null, .null, .null, .null, .int 0])), (qn1, .inl (cA 0, 326, .inl (fun _ => 0)))] := hD
  refine va_putF (D := D) (ci := 11) (v := .ref qn1) (ty := (.array .int)) (C := RX10) (T := TX10) (N := 39) hx hb hts inX10 tyX10 tyX10_ok nmX10 hown hK hP hD hS 0 rfl rfl 0 (by decide) (hts (.fieldLink RX10 7 "EscrowDeskModel" "s" "[I") (by decide +kernel)) (fun _ h9 => h9) rfl hin rfl (by decide +kernel) rfl rfl (Nat.le_of_ble_eq_true rfl) dX10_init_10 (fun H locs hP hD hS => ?_)
  have hP : va_P D vwCl [(w0, .inr (11, [.ref qn1, .null, .null, .null, .null, .long 0, .long 0, .int 0, .int 0, .null, .int 0, .int 0, .int 0, .null, .int 0, .int 0, .int 0, .int 0, .int 0, .int 0, .int 0, .int 0, .int 0, .int 0, .int 0, .long 0, .int 0, .null, .null, .null, .null, .null, .null, .null, .null, .null, .null, .null, .int 0])), (qn1, .inl (cA 0, 326, .inl (fun _ => 0)))] H := hP
  have hD : va_D A [(w0, .inr (11, [.ref qn1, .null, .null, .null, .null, .long 0, .long 0, .int 0, .int 0, .null, .int 0, .int 0, .int 0, .null, .int 0, .int 0, .int 0, .int 0, .int 0, .int 0, .int 0, .int 0, .int 0, .int 0, .int 0, .long 0, .int 0, .null, .null, .null, .null, .null, .null, .null, .null, .null, .null, .null, .int 0])), (qn1, .inl (cA 0, 326, .inl (fun _ => 0)))] := hD
  refine lv_aload_n hx hb dX10_init_13 rfl (lv_at hl 0 rfl) ?_
  refine lv_sipush (v := 326) hx hb dX10_init_14 (by decide) ?_
  refine va_newa (atype := .int) (ty := .int) (N' := 326) (a0 := (326, .inl (fun _ => 0))) hx hb (hts (.arrayClass .int) (by decide +kernel)) rfl hK hP hD hS hA (fun _ => rfl) (by decide) (by decide +kernel) (Nat.le_of_ble_eq_true rfl) (Nat.le_of_ble_eq_true rfl) (Nat.le_of_ble_eq_true rfl) dX10_init_17 (fun qn2 c9 H hK9 hP hD hS => ?_)
  obtain rfl : c9 = cA 0 := ty_one hK9 0 rfl
  have hP : va_P D vwCl [(w0, .inr (11, [.ref qn1, .null, .null, .null, .null, .long 0, .long 0, .int 0, .int 0, .null, .int 0, .int 0, .int 0, .null, .int 0, .int 0, .int 0, .int 0, .int 0, .int 0, .int 0, .int 0, .int 0, .int 0, .int 0, .long 0, .int 0, .null, .null, .null, .null, .null, .null, .null, .null, .null, .null, .null, .int 0])), (qn1, .inl (cA 0, 326, .inl (fun _ => 0))), (qn2, .inl (cA 0, 326, .inl (fun _ => 0)))] H := hP
  have hD : va_D A [(w0, .inr (11, [.ref qn1, .null, .null, .null, .null, .long 0, .long 0, .int 0, .int 0, .null, .int 0, .int 0, .int 0, .null, .int 0, .int 0, .int 0, .int 0, .int 0, .int 0, .int 0, .int 0, .int 0, .int 0, .int 0, .long 0, .int 0, .null, .null, .null, .null, .null, .null, .null, .null, .null, .null, .null, .int 0])), (qn1, .inl (cA 0, 326, .inl (fun _ => 0))), (qn2, .inl (cA 0, 326, .inl (fun _ => 0)))] := hD
  refine va_putF (D := D) (ci := 11) (v := .ref qn2) (ty := (.array .int)) (C := RX10) (T := TX10) (N := 39) hx hb hts inX10 tyX10 tyX10_ok nmX10 hown hK hP hD hS 0 rfl rfl 1 (by decide) (hts (.fieldLink RX10 13 "EscrowDeskModel" "parsed" "[I") (by decide +kernel)) (fun _ h9 => h9) rfl hin rfl (by decide +kernel) rfl rfl (Nat.le_of_ble_eq_true rfl) dX10_init_19 (fun H locs hP hD hS => ?_)
  have hP : va_P D vwCl [(w0, .inr (11, [.ref qn1, .ref qn2, .null, .null, .null, .long 0, .long 0, .int 0, .int 0, .null, .int 0, .int 0, .int 0, .null, .int 0, .int 0, .int 0, .int 0, .int 0, .int 0, .int 0, .int 0, .int 0, .int 0, .int 0, .long 0, .int 0, .null, .null, .null, .null, .null, .null, .null, .null, .null, .null, .null, .int 0])), (qn1, .inl (cA 0, 326, .inl (fun _ => 0))), (qn2, .inl (cA 0, 326, .inl (fun _ => 0)))] H := hP
  have hD : va_D A [(w0, .inr (11, [.ref qn1, .ref qn2, .null, .null, .null, .long 0, .long 0, .int 0, .int 0, .null, .int 0, .int 0, .int 0, .null, .int 0, .int 0, .int 0, .int 0, .int 0, .int 0, .int 0, .int 0, .int 0, .int 0, .int 0, .long 0, .int 0, .null, .null, .null, .null, .null, .null, .null, .null, .null, .null, .null, .int 0])), (qn1, .inl (cA 0, 326, .inl (fun _ => 0))), (qn2, .inl (cA 0, 326, .inl (fun _ => 0)))] := hD
  refine lv_aload_n hx hb dX10_init_22 rfl (lv_at hl 0 rfl) ?_
  refine lv_sipush (v := 326) hx hb dX10_init_23 (by decide) ?_
  refine va_newa (atype := .int) (ty := .int) (N' := 326) (a0 := (326, .inl (fun _ => 0))) hx hb (hts (.arrayClass .int) (by decide +kernel)) rfl hK hP hD hS hA (fun _ => rfl) (by decide) (by decide +kernel) (Nat.le_of_ble_eq_true rfl) (Nat.le_of_ble_eq_true rfl) (Nat.le_of_ble_eq_true rfl) dX10_init_26 (fun qn3 c9 H hK9 hP hD hS => ?_)
  obtain rfl : c9 = cA 0 := ty_one hK9 0 rfl
  have hP : va_P D vwCl [(w0, .inr (11, [.ref qn1, .ref qn2, .null, .null, .null, .long 0, .long 0, .int 0, .int 0, .null, .int 0, .int 0, .int 0, .null, .int 0, .int 0, .int 0, .int 0, .int 0, .int 0, .int 0, .int 0, .int 0, .int 0, .int 0, .long 0, .int 0, .null, .null, .null, .null, .null, .null, .null, .null, .null, .null, .null, .int 0])), (qn1, .inl (cA 0, 326, .inl (fun _ => 0))), (qn2, .inl (cA 0, 326, .inl (fun _ => 0))), (qn3, .inl (cA 0, 326, .inl (fun _ => 0)))] H := hP
  have hD : va_D A [(w0, .inr (11, [.ref qn1, .ref qn2, .null, .null, .null, .long 0, .long 0, .int 0, .int 0, .null, .int 0, .int 0, .int 0, .null, .int 0, .int 0, .int 0, .int 0, .int 0, .int 0, .int 0, .int 0, .int 0, .int 0, .int 0, .long 0, .int 0, .null, .null, .null, .null, .null, .null, .null, .null, .null, .null, .null, .int 0])), (qn1, .inl (cA 0, 326, .inl (fun _ => 0))), (qn2, .inl (cA 0, 326, .inl (fun _ => 0))), (qn3, .inl (cA 0, 326, .inl (fun _ => 0)))] := hD
  refine va_putF (D := D) (ci := 11) (v := .ref qn3) (ty := (.array .int)) (C := RX10) (T := TX10) (N := 39) hx hb hts inX10 tyX10 tyX10_ok nmX10 hown hK hP hD hS 0 rfl rfl 2 (by decide) (hts (.fieldLink RX10 16 "EscrowDeskModel" "aside" "[I") (by decide +kernel)) (fun _ h9 => h9) rfl hin rfl (by decide +kernel) rfl rfl (Nat.le_of_ble_eq_true rfl) dX10_init_28 (fun H locs hP hD hS => ?_)
  have hP : va_P D vwCl [(w0, .inr (11, [.ref qn1, .ref qn2, .ref qn3, .null, .null, .long 0, .long 0, .int 0, .int 0, .null, .int 0, .int 0, .int 0, .null, .int 0, .int 0, .int 0, .int 0, .int 0, .int 0, .int 0, .int 0, .int 0, .int 0, .int 0, .long 0, .int 0, .null, .null, .null, .null, .null, .null, .null, .null, .null, .null, .null, .int 0])), (qn1, .inl (cA 0, 326, .inl (fun _ => 0))), (qn2, .inl (cA 0, 326, .inl (fun _ => 0))), (qn3, .inl (cA 0, 326, .inl (fun _ => 0)))] H := hP
  have hD : va_D A [(w0, .inr (11, [.ref qn1, .ref qn2, .ref qn3, .null, .null, .long 0, .long 0, .int 0, .int 0, .null, .int 0, .int 0, .int 0, .null, .int 0, .int 0, .int 0, .int 0, .int 0, .int 0, .int 0, .int 0, .int 0, .int 0, .int 0, .long 0, .int 0, .null, .null, .null, .null, .null, .null, .null, .null, .null, .null, .null, .int 0])), (qn1, .inl (cA 0, 326, .inl (fun _ => 0))), (qn2, .inl (cA 0, 326, .inl (fun _ => 0))), (qn3, .inl (cA 0, 326, .inl (fun _ => 0)))] := hD
  refine lv_aload_n hx hb dX10_init_31 rfl (lv_at hl 0 rfl) ?_
  refine lv_sipush (v := 3260) hx hb dX10_init_32 (by decide) ?_
  refine va_newa (atype := .int) (ty := .int) (N' := 3260) (a0 := (3260, .inl (fun _ => 0))) hx hb (hts (.arrayClass .int) (by decide +kernel)) rfl hK hP hD hS hA (fun _ => rfl) (by decide) (by decide +kernel) (Nat.le_of_ble_eq_true rfl) (Nat.le_of_ble_eq_true rfl) (Nat.le_of_ble_eq_true rfl) dX10_init_35 (fun qn4 c9 H hK9 hP hD hS => ?_)
  obtain rfl : c9 = cA 0 := ty_one hK9 0 rfl
  have hP : va_P D vwCl [(w0, .inr (11, [.ref qn1, .ref qn2, .ref qn3, .null, .null, .long 0, .long 0, .int 0, .int 0, .null, .int 0, .int 0, .int 0, .null, .int 0, .int 0, .int 0, .int 0, .int 0, .int 0, .int 0, .int 0, .int 0, .int 0, .int 0, .long 0, .int 0, .null, .null, .null, .null, .null, .null, .null, .null, .null, .null, .null, .int 0])), (qn1, .inl (cA 0, 326, .inl (fun _ => 0))), (qn2, .inl (cA 0, 326, .inl (fun _ => 0))), (qn3, .inl (cA 0, 326, .inl (fun _ => 0))), (qn4, .inl (cA 0, 3260, .inl (fun _ => 0)))] H := hP
  have hD : va_D A [(w0, .inr (11, [.ref qn1, .ref qn2, .ref qn3, .null, .null, .long 0, .long 0, .int 0, .int 0, .null, .int 0, .int 0, .int 0, .null, .int 0, .int 0, .int 0, .int 0, .int 0, .int 0, .int 0, .int 0, .int 0, .int 0, .int 0, .long 0, .int 0, .null, .null, .null, .null, .null, .null, .null, .null, .null, .null, .null, .int 0])), (qn1, .inl (cA 0, 326, .inl (fun _ => 0))), (qn2, .inl (cA 0, 326, .inl (fun _ => 0))), (qn3, .inl (cA 0, 326, .inl (fun _ => 0))), (qn4, .inl (cA 0, 3260, .inl (fun _ => 0)))] := hD
  refine va_putF (D := D) (ci := 11) (v := .ref qn4) (ty := (.array .int)) (C := RX10) (T := TX10) (N := 39) hx hb hts inX10 tyX10 tyX10_ok nmX10 hown hK hP hD hS 0 rfl rfl 3 (by decide) (hts (.fieldLink RX10 19 "EscrowDeskModel" "history" "[I") (by decide +kernel)) (fun _ h9 => h9) rfl hin rfl (by decide +kernel) rfl rfl (Nat.le_of_ble_eq_true rfl) dX10_init_37 (fun H locs hP hD hS => ?_)
  have hP : va_P D vwCl [(w0, .inr (11, [.ref qn1, .ref qn2, .ref qn3, .ref qn4, .null, .long 0, .long 0, .int 0, .int 0, .null, .int 0, .int 0, .int 0, .null, .int 0, .int 0, .int 0, .int 0, .int 0, .int 0, .int 0, .int 0, .int 0, .int 0, .int 0, .long 0, .int 0, .null, .null, .null, .null, .null, .null, .null, .null, .null, .null, .null, .int 0])), (qn1, .inl (cA 0, 326, .inl (fun _ => 0))), (qn2, .inl (cA 0, 326, .inl (fun _ => 0))), (qn3, .inl (cA 0, 326, .inl (fun _ => 0))), (qn4, .inl (cA 0, 3260, .inl (fun _ => 0)))] H := hP
  have hD : va_D A [(w0, .inr (11, [.ref qn1, .ref qn2, .ref qn3, .ref qn4, .null, .long 0, .long 0, .int 0, .int 0, .null, .int 0, .int 0, .int 0, .null, .int 0, .int 0, .int 0, .int 0, .int 0, .int 0, .int 0, .int 0, .int 0, .int 0, .int 0, .long 0, .int 0, .null, .null, .null, .null, .null, .null, .null, .null, .null, .null, .null, .int 0])), (qn1, .inl (cA 0, 326, .inl (fun _ => 0))), (qn2, .inl (cA 0, 326, .inl (fun _ => 0))), (qn3, .inl (cA 0, 326, .inl (fun _ => 0))), (qn4, .inl (cA 0, 3260, .inl (fun _ => 0)))] := hD
  refine lv_aload_n hx hb dX10_init_40 rfl (lv_at hl 0 rfl) ?_
  refine lv_bipush (v := 10) hx hb dX10_init_41 (by decide) ?_
  refine va_newa (atype := .long) (ty := .long) (N' := 10) (a0 := (10, .inr (.inl (fun _ => 0)))) hx hb (hts (.arrayClass .long) (by decide +kernel)) rfl hK hP hD hS hA (fun _ => rfl) (by decide) (by decide +kernel) (Nat.le_of_ble_eq_true rfl) (Nat.le_of_ble_eq_true rfl) (Nat.le_of_ble_eq_true rfl) dX10_init_43 (fun qn5 c9 H hK9 hP hD hS => ?_)
  obtain rfl : c9 = cA 1 := ty_one hK9 1 rfl
  have hP : va_P D vwCl [(w0, .inr (11, [.ref qn1, .ref qn2, .ref qn3, .ref qn4, .null, .long 0, .long 0, .int 0, .int 0, .null, .int 0, .int 0, .int 0, .null, .int 0, .int 0, .int 0, .int 0, .int 0, .int 0, .int 0, .int 0, .int 0, .int 0, .int 0, .long 0, .int 0, .null, .null, .null, .null, .null, .null, .null, .null, .null, .null, .null, .int 0])), (qn1, .inl (cA 0, 326, .inl (fun _ => 0))), (qn2, .inl (cA 0, 326, .inl (fun _ => 0))), (qn3, .inl (cA 0, 326, .inl (fun _ => 0))), (qn4, .inl (cA 0, 3260, .inl (fun _ => 0))), (qn5, .inl (cA 1, 10, .inr (.inl (fun _ => 0))))] H := hP
  have hD : va_D A [(w0, .inr (11, [.ref qn1, .ref qn2, .ref qn3, .ref qn4, .null, .long 0, .long 0, .int 0, .int 0, .null, .int 0, .int 0, .int 0, .null, .int 0, .int 0, .int 0, .int 0, .int 0, .int 0, .int 0, .int 0, .int 0, .int 0, .int 0, .long 0, .int 0, .null, .null, .null, .null, .null, .null, .null, .null, .null, .null, .null, .int 0])), (qn1, .inl (cA 0, 326, .inl (fun _ => 0))), (qn2, .inl (cA 0, 326, .inl (fun _ => 0))), (qn3, .inl (cA 0, 326, .inl (fun _ => 0))), (qn4, .inl (cA 0, 3260, .inl (fun _ => 0))), (qn5, .inl (cA 1, 10, .inr (.inl (fun _ => 0))))] := hD
  refine va_putF (D := D) (ci := 11) (v := .ref qn5) (ty := (.array .long)) (C := RX10) (T := TX10) (N := 39) hx hb hts inX10 tyX10 tyX10_ok nmX10 hown hK hP hD hS 0 rfl rfl 4 (by decide) (hts (.fieldLink RX10 22 "EscrowDeskModel" "historyParts" "[J") (by decide +kernel)) (fun _ h9 => h9) rfl hin rfl (by decide +kernel) rfl rfl (Nat.le_of_ble_eq_true rfl) dX10_init_45 (fun H locs hP hD hS => ?_)
  have hP : va_P D vwCl [(w0, .inr (11, [.ref qn1, .ref qn2, .ref qn3, .ref qn4, .ref qn5, .long 0, .long 0, .int 0, .int 0, .null, .int 0, .int 0, .int 0, .null, .int 0, .int 0, .int 0, .int 0, .int 0, .int 0, .int 0, .int 0, .int 0, .int 0, .int 0, .long 0, .int 0, .null, .null, .null, .null, .null, .null, .null, .null, .null, .null, .null, .int 0])), (qn1, .inl (cA 0, 326, .inl (fun _ => 0))), (qn2, .inl (cA 0, 326, .inl (fun _ => 0))), (qn3, .inl (cA 0, 326, .inl (fun _ => 0))), (qn4, .inl (cA 0, 3260, .inl (fun _ => 0))), (qn5, .inl (cA 1, 10, .inr (.inl (fun _ => 0))))] H := hP
  have hD : va_D A [(w0, .inr (11, [.ref qn1, .ref qn2, .ref qn3, .ref qn4, .ref qn5, .long 0, .long 0, .int 0, .int 0, .null, .int 0, .int 0, .int 0, .null, .int 0, .int 0, .int 0, .int 0, .int 0, .int 0, .int 0, .int 0, .int 0, .int 0, .int 0, .long 0, .int 0, .null, .null, .null, .null, .null, .null, .null, .null, .null, .null, .null, .int 0])), (qn1, .inl (cA 0, 326, .inl (fun _ => 0))), (qn2, .inl (cA 0, 326, .inl (fun _ => 0))), (qn3, .inl (cA 0, 326, .inl (fun _ => 0))), (qn4, .inl (cA 0, 3260, .inl (fun _ => 0))), (qn5, .inl (cA 1, 10, .inr (.inl (fun _ => 0))))] := hD
  refine lv_aload_n hx hb dX10_init_48 rfl (lv_at hl 0 rfl) ?_
  refine lv_sipush (v := 700) hx hb dX10_init_49 (by decide) ?_
  refine va_newa (atype := .int) (ty := .int) (N' := 700) (a0 := (700, .inl (fun _ => 0))) hx hb (hts (.arrayClass .int) (by decide +kernel)) rfl hK hP hD hS hA (fun _ => rfl) (by decide) (by decide +kernel) (Nat.le_of_ble_eq_true rfl) (Nat.le_of_ble_eq_true rfl) (Nat.le_of_ble_eq_true rfl) dX10_init_52 (fun qn6 c9 H hK9 hP hD hS => ?_)
  obtain rfl : c9 = cA 0 := ty_one hK9 0 rfl
  have hP : va_P D vwCl [(w0, .inr (11, [.ref qn1, .ref qn2, .ref qn3, .ref qn4, .ref qn5, .long 0, .long 0, .int 0, .int 0, .null, .int 0, .int 0, .int 0, .null, .int 0, .int 0, .int 0, .int 0, .int 0, .int 0, .int 0, .int 0, .int 0, .int 0, .int 0, .long 0, .int 0, .null, .null, .null, .null, .null, .null, .null, .null, .null, .null, .null, .int 0])), (qn1, .inl (cA 0, 326, .inl (fun _ => 0))), (qn2, .inl (cA 0, 326, .inl (fun _ => 0))), (qn3, .inl (cA 0, 326, .inl (fun _ => 0))), (qn4, .inl (cA 0, 3260, .inl (fun _ => 0))), (qn5, .inl (cA 1, 10, .inr (.inl (fun _ => 0)))), (qn6, .inl (cA 0, 700, .inl (fun _ => 0)))] H := hP
  have hD : va_D A [(w0, .inr (11, [.ref qn1, .ref qn2, .ref qn3, .ref qn4, .ref qn5, .long 0, .long 0, .int 0, .int 0, .null, .int 0, .int 0, .int 0, .null, .int 0, .int 0, .int 0, .int 0, .int 0, .int 0, .int 0, .int 0, .int 0, .int 0, .int 0, .long 0, .int 0, .null, .null, .null, .null, .null, .null, .null, .null, .null, .null, .null, .int 0])), (qn1, .inl (cA 0, 326, .inl (fun _ => 0))), (qn2, .inl (cA 0, 326, .inl (fun _ => 0))), (qn3, .inl (cA 0, 326, .inl (fun _ => 0))), (qn4, .inl (cA 0, 3260, .inl (fun _ => 0))), (qn5, .inl (cA 1, 10, .inr (.inl (fun _ => 0)))), (qn6, .inl (cA 0, 700, .inl (fun _ => 0)))] := hD
  refine va_putF (D := D) (ci := 11) (v := .ref qn6) (ty := (.array .int)) (C := RX10) (T := TX10) (N := 39) hx hb hts inX10 tyX10 tyX10_ok nmX10 hown hK hP hD hS 0 rfl rfl 9 (by decide) (hts (.fieldLink RX10 26 "EscrowDeskModel" "buffer" "[I") (by decide +kernel)) (fun _ h9 => h9) rfl hin rfl (by decide +kernel) rfl rfl (Nat.le_of_ble_eq_true rfl) dX10_init_54 (fun H locs hP hD hS => ?_)
  have hP : va_P D vwCl [(w0, .inr (11, [.ref qn1, .ref qn2, .ref qn3, .ref qn4, .ref qn5, .long 0, .long 0, .int 0, .int 0, .ref qn6, .int 0, .int 0, .int 0, .null, .int 0, .int 0, .int 0, .int 0, .int 0, .int 0, .int 0, .int 0, .int 0, .int 0, .int 0, .long 0, .int 0, .null, .null, .null, .null, .null, .null, .null, .null, .null, .null, .null, .int 0])), (qn1, .inl (cA 0, 326, .inl (fun _ => 0))), (qn2, .inl (cA 0, 326, .inl (fun _ => 0))), (qn3, .inl (cA 0, 326, .inl (fun _ => 0))), (qn4, .inl (cA 0, 3260, .inl (fun _ => 0))), (qn5, .inl (cA 1, 10, .inr (.inl (fun _ => 0)))), (qn6, .inl (cA 0, 700, .inl (fun _ => 0)))] H := hP
  have hD : va_D A [(w0, .inr (11, [.ref qn1, .ref qn2, .ref qn3, .ref qn4, .ref qn5, .long 0, .long 0, .int 0, .int 0, .ref qn6, .int 0, .int 0, .int 0, .null, .int 0, .int 0, .int 0, .int 0, .int 0, .int 0, .int 0, .int 0, .int 0, .int 0, .int 0, .long 0, .int 0, .null, .null, .null, .null, .null, .null, .null, .null, .null, .null, .null, .int 0])), (qn1, .inl (cA 0, 326, .inl (fun _ => 0))), (qn2, .inl (cA 0, 326, .inl (fun _ => 0))), (qn3, .inl (cA 0, 326, .inl (fun _ => 0))), (qn4, .inl (cA 0, 3260, .inl (fun _ => 0))), (qn5, .inl (cA 1, 10, .inr (.inl (fun _ => 0)))), (qn6, .inl (cA 0, 700, .inl (fun _ => 0)))] := hD
  refine lv_aload_n hx hb dX10_init_57 rfl (lv_at hl 0 rfl) ?_
  refine lv_iconst (v := (-1)) hx hb dX10_init_58 (by decide) ?_
  refine va_put (D := D) (ci := 11) (v := .int (-1)) (ty := .int) (C := RX10) (T := TX10) (N := 39) hx hb hts inX10 tyX10 tyX10_ok nmX10 hown hK hP hD hS 0 rfl rfl 12 (by decide) (hts (.fieldLink RX10 29 "EscrowDeskModel" "errorPosition" "I") (by decide +kernel)) (fun _ h9 => h9) rfl (by decide +kernel) rfl rfl (Nat.le_of_ble_eq_true rfl) dX10_init_59 (fun H locs hP hD hS => ?_)
  have hP : va_P D vwCl [(w0, .inr (11, [.ref qn1, .ref qn2, .ref qn3, .ref qn4, .ref qn5, .long 0, .long 0, .int 0, .int 0, .ref qn6, .int 0, .int 0, .int (-1), .null, .int 0, .int 0, .int 0, .int 0, .int 0, .int 0, .int 0, .int 0, .int 0, .int 0, .int 0, .long 0, .int 0, .null, .null, .null, .null, .null, .null, .null, .null, .null, .null, .null, .int 0])), (qn1, .inl (cA 0, 326, .inl (fun _ => 0))), (qn2, .inl (cA 0, 326, .inl (fun _ => 0))), (qn3, .inl (cA 0, 326, .inl (fun _ => 0))), (qn4, .inl (cA 0, 3260, .inl (fun _ => 0))), (qn5, .inl (cA 1, 10, .inr (.inl (fun _ => 0)))), (qn6, .inl (cA 0, 700, .inl (fun _ => 0)))] H := hP
  have hD : va_D A [(w0, .inr (11, [.ref qn1, .ref qn2, .ref qn3, .ref qn4, .ref qn5, .long 0, .long 0, .int 0, .int 0, .ref qn6, .int 0, .int 0, .int (-1), .null, .int 0, .int 0, .int 0, .int 0, .int 0, .int 0, .int 0, .int 0, .int 0, .int 0, .int 0, .long 0, .int 0, .null, .null, .null, .null, .null, .null, .null, .null, .null, .null, .null, .int 0])), (qn1, .inl (cA 0, 326, .inl (fun _ => 0))), (qn2, .inl (cA 0, 326, .inl (fun _ => 0))), (qn3, .inl (cA 0, 326, .inl (fun _ => 0))), (qn4, .inl (cA 0, 3260, .inl (fun _ => 0))), (qn5, .inl (cA 1, 10, .inr (.inl (fun _ => 0)))), (qn6, .inl (cA 0, 700, .inl (fun _ => 0)))] := hD
  refine lv_aload_n hx hb dX10_init_62 rfl (lv_at hl 0 rfl) ?_
  refine lv_bipush (v := 15) hx hb dX10_init_63 (by decide) ?_
  refine va_newa (atype := .long) (ty := .long) (N' := 15) (a0 := (15, .inr (.inl (fun _ => 0)))) hx hb (hts (.arrayClass .long) (by decide +kernel)) rfl hK hP hD hS hA (fun _ => rfl) (by decide) (by decide +kernel) (Nat.le_of_ble_eq_true rfl) (Nat.le_of_ble_eq_true rfl) (Nat.le_of_ble_eq_true rfl) dX10_init_65 (fun qn7 c9 H hK9 hP hD hS => ?_)
  obtain rfl : c9 = cA 1 := ty_one hK9 1 rfl
  have hP : va_P D vwCl [(w0, .inr (11, [.ref qn1, .ref qn2, .ref qn3, .ref qn4, .ref qn5, .long 0, .long 0, .int 0, .int 0, .ref qn6, .int 0, .int 0, .int (-1), .null, .int 0, .int 0, .int 0, .int 0, .int 0, .int 0, .int 0, .int 0, .int 0, .int 0, .int 0, .long 0, .int 0, .null, .null, .null, .null, .null, .null, .null, .null, .null, .null, .null, .int 0])), (qn1, .inl (cA 0, 326, .inl (fun _ => 0))), (qn2, .inl (cA 0, 326, .inl (fun _ => 0))), (qn3, .inl (cA 0, 326, .inl (fun _ => 0))), (qn4, .inl (cA 0, 3260, .inl (fun _ => 0))), (qn5, .inl (cA 1, 10, .inr (.inl (fun _ => 0)))), (qn6, .inl (cA 0, 700, .inl (fun _ => 0))), (qn7, .inl (cA 1, 15, .inr (.inl (fun _ => 0))))] H := hP
  have hD : va_D A [(w0, .inr (11, [.ref qn1, .ref qn2, .ref qn3, .ref qn4, .ref qn5, .long 0, .long 0, .int 0, .int 0, .ref qn6, .int 0, .int 0, .int (-1), .null, .int 0, .int 0, .int 0, .int 0, .int 0, .int 0, .int 0, .int 0, .int 0, .int 0, .int 0, .long 0, .int 0, .null, .null, .null, .null, .null, .null, .null, .null, .null, .null, .null, .int 0])), (qn1, .inl (cA 0, 326, .inl (fun _ => 0))), (qn2, .inl (cA 0, 326, .inl (fun _ => 0))), (qn3, .inl (cA 0, 326, .inl (fun _ => 0))), (qn4, .inl (cA 0, 3260, .inl (fun _ => 0))), (qn5, .inl (cA 1, 10, .inr (.inl (fun _ => 0)))), (qn6, .inl (cA 0, 700, .inl (fun _ => 0))), (qn7, .inl (cA 1, 15, .inr (.inl (fun _ => 0))))] := hD
  refine va_putF (D := D) (ci := 11) (v := .ref qn7) (ty := (.array .long)) (C := RX10) (T := TX10) (N := 39) hx hb hts inX10 tyX10 tyX10_ok nmX10 hown hK hP hD hS 0 rfl rfl 13 (by decide) (hts (.fieldLink RX10 33 "EscrowDeskModel" "keywords" "[J") (by decide +kernel)) (fun _ h9 => h9) rfl hin rfl (by decide +kernel) rfl rfl (Nat.le_of_ble_eq_true rfl) dX10_init_67 (fun H locs hP hD hS => ?_)
  have hP : va_P D vwCl [(w0, .inr (11, [.ref qn1, .ref qn2, .ref qn3, .ref qn4, .ref qn5, .long 0, .long 0, .int 0, .int 0, .ref qn6, .int 0, .int 0, .int (-1), .ref qn7, .int 0, .int 0, .int 0, .int 0, .int 0, .int 0, .int 0, .int 0, .int 0, .int 0, .int 0, .long 0, .int 0, .null, .null, .null, .null, .null, .null, .null, .null, .null, .null, .null, .int 0])), (qn1, .inl (cA 0, 326, .inl (fun _ => 0))), (qn2, .inl (cA 0, 326, .inl (fun _ => 0))), (qn3, .inl (cA 0, 326, .inl (fun _ => 0))), (qn4, .inl (cA 0, 3260, .inl (fun _ => 0))), (qn5, .inl (cA 1, 10, .inr (.inl (fun _ => 0)))), (qn6, .inl (cA 0, 700, .inl (fun _ => 0))), (qn7, .inl (cA 1, 15, .inr (.inl (fun _ => 0))))] H := hP
  have hD : va_D A [(w0, .inr (11, [.ref qn1, .ref qn2, .ref qn3, .ref qn4, .ref qn5, .long 0, .long 0, .int 0, .int 0, .ref qn6, .int 0, .int 0, .int (-1), .ref qn7, .int 0, .int 0, .int 0, .int 0, .int 0, .int 0, .int 0, .int 0, .int 0, .int 0, .int 0, .long 0, .int 0, .null, .null, .null, .null, .null, .null, .null, .null, .null, .null, .null, .int 0])), (qn1, .inl (cA 0, 326, .inl (fun _ => 0))), (qn2, .inl (cA 0, 326, .inl (fun _ => 0))), (qn3, .inl (cA 0, 326, .inl (fun _ => 0))), (qn4, .inl (cA 0, 3260, .inl (fun _ => 0))), (qn5, .inl (cA 1, 10, .inr (.inl (fun _ => 0)))), (qn6, .inl (cA 0, 700, .inl (fun _ => 0))), (qn7, .inl (cA 1, 15, .inr (.inl (fun _ => 0))))] := hD
  refine lv_aload_n hx hb dX10_init_70 rfl (lv_at hl 0 rfl) ?_
  refine lv_bipush (v := 10) hx hb dX10_init_71 (by decide) ?_
  refine va_newa (atype := .long) (ty := .long) (N' := 10) (a0 := (10, .inr (.inl (fun _ => 0)))) hx hb (hts (.arrayClass .long) (by decide +kernel)) rfl hK hP hD hS hA (fun _ => rfl) (by decide) (by decide +kernel) (Nat.le_of_ble_eq_true rfl) (Nat.le_of_ble_eq_true rfl) (Nat.le_of_ble_eq_true rfl) dX10_init_73 (fun qn8 c9 H hK9 hP hD hS => ?_)
  obtain rfl : c9 = cA 1 := ty_one hK9 1 rfl
  have hP : va_P D vwCl [(w0, .inr (11, [.ref qn1, .ref qn2, .ref qn3, .ref qn4, .ref qn5, .long 0, .long 0, .int 0, .int 0, .ref qn6, .int 0, .int 0, .int (-1), .ref qn7, .int 0, .int 0, .int 0, .int 0, .int 0, .int 0, .int 0, .int 0, .int 0, .int 0, .int 0, .long 0, .int 0, .null, .null, .null, .null, .null, .null, .null, .null, .null, .null, .null, .int 0])), (qn1, .inl (cA 0, 326, .inl (fun _ => 0))), (qn2, .inl (cA 0, 326, .inl (fun _ => 0))), (qn3, .inl (cA 0, 326, .inl (fun _ => 0))), (qn4, .inl (cA 0, 3260, .inl (fun _ => 0))), (qn5, .inl (cA 1, 10, .inr (.inl (fun _ => 0)))), (qn6, .inl (cA 0, 700, .inl (fun _ => 0))), (qn7, .inl (cA 1, 15, .inr (.inl (fun _ => 0)))), (qn8, .inl (cA 1, 10, .inr (.inl (fun _ => 0))))] H := hP
  have hD : va_D A [(w0, .inr (11, [.ref qn1, .ref qn2, .ref qn3, .ref qn4, .ref qn5, .long 0, .long 0, .int 0, .int 0, .ref qn6, .int 0, .int 0, .int (-1), .ref qn7, .int 0, .int 0, .int 0, .int 0, .int 0, .int 0, .int 0, .int 0, .int 0, .int 0, .int 0, .long 0, .int 0, .null, .null, .null, .null, .null, .null, .null, .null, .null, .null, .null, .int 0])), (qn1, .inl (cA 0, 326, .inl (fun _ => 0))), (qn2, .inl (cA 0, 326, .inl (fun _ => 0))), (qn3, .inl (cA 0, 326, .inl (fun _ => 0))), (qn4, .inl (cA 0, 3260, .inl (fun _ => 0))), (qn5, .inl (cA 1, 10, .inr (.inl (fun _ => 0)))), (qn6, .inl (cA 0, 700, .inl (fun _ => 0))), (qn7, .inl (cA 1, 15, .inr (.inl (fun _ => 0)))), (qn8, .inl (cA 1, 10, .inr (.inl (fun _ => 0))))] := hD
  refine va_putF (D := D) (ci := 11) (v := .ref qn8) (ty := (.array .long)) (C := RX10) (T := TX10) (N := 39) hx hb hts inX10 tyX10 tyX10_ok nmX10 hown hK hP hD hS 0 rfl rfl 27 (by decide) (hts (.fieldLink RX10 36 "EscrowDeskModel" "names" "[J") (by decide +kernel)) (fun _ h9 => h9) rfl hin rfl (by decide +kernel) rfl rfl (Nat.le_of_ble_eq_true rfl) dX10_init_75 (fun H locs hP hD hS => ?_)
  have hP : va_P D vwCl [(w0, .inr (11, [.ref qn1, .ref qn2, .ref qn3, .ref qn4, .ref qn5, .long 0, .long 0, .int 0, .int 0, .ref qn6, .int 0, .int 0, .int (-1), .ref qn7, .int 0, .int 0, .int 0, .int 0, .int 0, .int 0, .int 0, .int 0, .int 0, .int 0, .int 0, .long 0, .int 0, .ref qn8, .null, .null, .null, .null, .null, .null, .null, .null, .null, .null, .int 0])), (qn1, .inl (cA 0, 326, .inl (fun _ => 0))), (qn2, .inl (cA 0, 326, .inl (fun _ => 0))), (qn3, .inl (cA 0, 326, .inl (fun _ => 0))), (qn4, .inl (cA 0, 3260, .inl (fun _ => 0))), (qn5, .inl (cA 1, 10, .inr (.inl (fun _ => 0)))), (qn6, .inl (cA 0, 700, .inl (fun _ => 0))), (qn7, .inl (cA 1, 15, .inr (.inl (fun _ => 0)))), (qn8, .inl (cA 1, 10, .inr (.inl (fun _ => 0))))] H := hP
  have hD : va_D A [(w0, .inr (11, [.ref qn1, .ref qn2, .ref qn3, .ref qn4, .ref qn5, .long 0, .long 0, .int 0, .int 0, .ref qn6, .int 0, .int 0, .int (-1), .ref qn7, .int 0, .int 0, .int 0, .int 0, .int 0, .int 0, .int 0, .int 0, .int 0, .int 0, .int 0, .long 0, .int 0, .ref qn8, .null, .null, .null, .null, .null, .null, .null, .null, .null, .null, .int 0])), (qn1, .inl (cA 0, 326, .inl (fun _ => 0))), (qn2, .inl (cA 0, 326, .inl (fun _ => 0))), (qn3, .inl (cA 0, 326, .inl (fun _ => 0))), (qn4, .inl (cA 0, 3260, .inl (fun _ => 0))), (qn5, .inl (cA 1, 10, .inr (.inl (fun _ => 0)))), (qn6, .inl (cA 0, 700, .inl (fun _ => 0))), (qn7, .inl (cA 1, 15, .inr (.inl (fun _ => 0)))), (qn8, .inl (cA 1, 10, .inr (.inl (fun _ => 0))))] := hD
  refine lv_aload_n hx hb dX10_init_78 rfl (lv_at hl 0 rfl) ?_
  refine lv_bipush (v := 10) hx hb dX10_init_79 (by decide) ?_
  refine va_newa (atype := .long) (ty := .long) (N' := 10) (a0 := (10, .inr (.inl (fun _ => 0)))) hx hb (hts (.arrayClass .long) (by decide +kernel)) rfl hK hP hD hS hA (fun _ => rfl) (by decide) (by decide +kernel) (Nat.le_of_ble_eq_true rfl) (Nat.le_of_ble_eq_true rfl) (Nat.le_of_ble_eq_true rfl) dX10_init_81 (fun qn9 c9 H hK9 hP hD hS => ?_)
  obtain rfl : c9 = cA 1 := ty_one hK9 1 rfl
  have hP : va_P D vwCl [(w0, .inr (11, [.ref qn1, .ref qn2, .ref qn3, .ref qn4, .ref qn5, .long 0, .long 0, .int 0, .int 0, .ref qn6, .int 0, .int 0, .int (-1), .ref qn7, .int 0, .int 0, .int 0, .int 0, .int 0, .int 0, .int 0, .int 0, .int 0, .int 0, .int 0, .long 0, .int 0, .ref qn8, .null, .null, .null, .null, .null, .null, .null, .null, .null, .null, .int 0])), (qn1, .inl (cA 0, 326, .inl (fun _ => 0))), (qn2, .inl (cA 0, 326, .inl (fun _ => 0))), (qn3, .inl (cA 0, 326, .inl (fun _ => 0))), (qn4, .inl (cA 0, 3260, .inl (fun _ => 0))), (qn5, .inl (cA 1, 10, .inr (.inl (fun _ => 0)))), (qn6, .inl (cA 0, 700, .inl (fun _ => 0))), (qn7, .inl (cA 1, 15, .inr (.inl (fun _ => 0)))), (qn8, .inl (cA 1, 10, .inr (.inl (fun _ => 0)))), (qn9, .inl (cA 1, 10, .inr (.inl (fun _ => 0))))] H := hP
  have hD : va_D A [(w0, .inr (11, [.ref qn1, .ref qn2, .ref qn3, .ref qn4, .ref qn5, .long 0, .long 0, .int 0, .int 0, .ref qn6, .int 0, .int 0, .int (-1), .ref qn7, .int 0, .int 0, .int 0, .int 0, .int 0, .int 0, .int 0, .int 0, .int 0, .int 0, .int 0, .long 0, .int 0, .ref qn8, .null, .null, .null, .null, .null, .null, .null, .null, .null, .null, .int 0])), (qn1, .inl (cA 0, 326, .inl (fun _ => 0))), (qn2, .inl (cA 0, 326, .inl (fun _ => 0))), (qn3, .inl (cA 0, 326, .inl (fun _ => 0))), (qn4, .inl (cA 0, 3260, .inl (fun _ => 0))), (qn5, .inl (cA 1, 10, .inr (.inl (fun _ => 0)))), (qn6, .inl (cA 0, 700, .inl (fun _ => 0))), (qn7, .inl (cA 1, 15, .inr (.inl (fun _ => 0)))), (qn8, .inl (cA 1, 10, .inr (.inl (fun _ => 0)))), (qn9, .inl (cA 1, 10, .inr (.inl (fun _ => 0))))] := hD
  refine va_putF (D := D) (ci := 11) (v := .ref qn9) (ty := (.array .long)) (C := RX10) (T := TX10) (N := 39) hx hb hts inX10 tyX10 tyX10_ok nmX10 hown hK hP hD hS 0 rfl rfl 28 (by decide) (hts (.fieldLink RX10 39 "EscrowDeskModel" "namesRead" "[J") (by decide +kernel)) (fun _ h9 => h9) rfl hin rfl (by decide +kernel) rfl rfl (Nat.le_of_ble_eq_true rfl) dX10_init_83 (fun H locs hP hD hS => ?_)
  have hP : va_P D vwCl [(w0, .inr (11, [.ref qn1, .ref qn2, .ref qn3, .ref qn4, .ref qn5, .long 0, .long 0, .int 0, .int 0, .ref qn6, .int 0, .int 0, .int (-1), .ref qn7, .int 0, .int 0, .int 0, .int 0, .int 0, .int 0, .int 0, .int 0, .int 0, .int 0, .int 0, .long 0, .int 0, .ref qn8, .ref qn9, .null, .null, .null, .null, .null, .null, .null, .null, .null, .int 0])), (qn1, .inl (cA 0, 326, .inl (fun _ => 0))), (qn2, .inl (cA 0, 326, .inl (fun _ => 0))), (qn3, .inl (cA 0, 326, .inl (fun _ => 0))), (qn4, .inl (cA 0, 3260, .inl (fun _ => 0))), (qn5, .inl (cA 1, 10, .inr (.inl (fun _ => 0)))), (qn6, .inl (cA 0, 700, .inl (fun _ => 0))), (qn7, .inl (cA 1, 15, .inr (.inl (fun _ => 0)))), (qn8, .inl (cA 1, 10, .inr (.inl (fun _ => 0)))), (qn9, .inl (cA 1, 10, .inr (.inl (fun _ => 0))))] H := hP
  have hD : va_D A [(w0, .inr (11, [.ref qn1, .ref qn2, .ref qn3, .ref qn4, .ref qn5, .long 0, .long 0, .int 0, .int 0, .ref qn6, .int 0, .int 0, .int (-1), .ref qn7, .int 0, .int 0, .int 0, .int 0, .int 0, .int 0, .int 0, .int 0, .int 0, .int 0, .int 0, .long 0, .int 0, .ref qn8, .ref qn9, .null, .null, .null, .null, .null, .null, .null, .null, .null, .int 0])), (qn1, .inl (cA 0, 326, .inl (fun _ => 0))), (qn2, .inl (cA 0, 326, .inl (fun _ => 0))), (qn3, .inl (cA 0, 326, .inl (fun _ => 0))), (qn4, .inl (cA 0, 3260, .inl (fun _ => 0))), (qn5, .inl (cA 1, 10, .inr (.inl (fun _ => 0)))), (qn6, .inl (cA 0, 700, .inl (fun _ => 0))), (qn7, .inl (cA 1, 15, .inr (.inl (fun _ => 0)))), (qn8, .inl (cA 1, 10, .inr (.inl (fun _ => 0)))), (qn9, .inl (cA 1, 10, .inr (.inl (fun _ => 0))))] := hD
  refine lv_aload_n hx hb dX10_init_86 rfl (lv_at hl 0 rfl) ?_
  refine lv_bipush (v := 8) hx hb dX10_init_87 (by decide) ?_
  refine va_newa (atype := .long) (ty := .long) (N' := 8) (a0 := (8, .inr (.inl (fun _ => 0)))) hx hb (hts (.arrayClass .long) (by decide +kernel)) rfl hK hP hD hS hA (fun _ => rfl) (by decide) (by decide +kernel) (Nat.le_of_ble_eq_true rfl) (Nat.le_of_ble_eq_true rfl) (Nat.le_of_ble_eq_true rfl) dX10_init_89 (fun qn10 c9 H hK9 hP hD hS => ?_)
  obtain rfl : c9 = cA 1 := ty_one hK9 1 rfl
  have hP : va_P D vwCl [(w0, .inr (11, [.ref qn1, .ref qn2, .ref qn3, .ref qn4, .ref qn5, .long 0, .long 0, .int 0, .int 0, .ref qn6, .int 0, .int 0, .int (-1), .ref qn7, .int 0, .int 0, .int 0, .int 0, .int 0, .int 0, .int 0, .int 0, .int 0, .int 0, .int 0, .long 0, .int 0, .ref qn8, .ref qn9, .null, .null, .null, .null, .null, .null, .null, .null, .null, .int 0])), (qn1, .inl (cA 0, 326, .inl (fun _ => 0))), (qn2, .inl (cA 0, 326, .inl (fun _ => 0))), (qn3, .inl (cA 0, 326, .inl (fun _ => 0))), (qn4, .inl (cA 0, 3260, .inl (fun _ => 0))), (qn5, .inl (cA 1, 10, .inr (.inl (fun _ => 0)))), (qn6, .inl (cA 0, 700, .inl (fun _ => 0))), (qn7, .inl (cA 1, 15, .inr (.inl (fun _ => 0)))), (qn8, .inl (cA 1, 10, .inr (.inl (fun _ => 0)))), (qn9, .inl (cA 1, 10, .inr (.inl (fun _ => 0)))), (qn10, .inl (cA 1, 8, .inr (.inl (fun _ => 0))))] H := hP
  have hD : va_D A [(w0, .inr (11, [.ref qn1, .ref qn2, .ref qn3, .ref qn4, .ref qn5, .long 0, .long 0, .int 0, .int 0, .ref qn6, .int 0, .int 0, .int (-1), .ref qn7, .int 0, .int 0, .int 0, .int 0, .int 0, .int 0, .int 0, .int 0, .int 0, .int 0, .int 0, .long 0, .int 0, .ref qn8, .ref qn9, .null, .null, .null, .null, .null, .null, .null, .null, .null, .int 0])), (qn1, .inl (cA 0, 326, .inl (fun _ => 0))), (qn2, .inl (cA 0, 326, .inl (fun _ => 0))), (qn3, .inl (cA 0, 326, .inl (fun _ => 0))), (qn4, .inl (cA 0, 3260, .inl (fun _ => 0))), (qn5, .inl (cA 1, 10, .inr (.inl (fun _ => 0)))), (qn6, .inl (cA 0, 700, .inl (fun _ => 0))), (qn7, .inl (cA 1, 15, .inr (.inl (fun _ => 0)))), (qn8, .inl (cA 1, 10, .inr (.inl (fun _ => 0)))), (qn9, .inl (cA 1, 10, .inr (.inl (fun _ => 0)))), (qn10, .inl (cA 1, 8, .inr (.inl (fun _ => 0))))] := hD
  refine va_putF (D := D) (ci := 11) (v := .ref qn10) (ty := (.array .long)) (C := RX10) (T := TX10) (N := 39) hx hb hts inX10 tyX10 tyX10_ok nmX10 hown hK hP hD hS 0 rfl rfl 29 (by decide) (hts (.fieldLink RX10 42 "EscrowDeskModel" "proofNames" "[J") (by decide +kernel)) (fun _ h9 => h9) rfl hin rfl (by decide +kernel) rfl rfl (Nat.le_of_ble_eq_true rfl) dX10_init_91 (fun H locs hP hD hS => ?_)
  have hP : va_P D vwCl [(w0, .inr (11, [.ref qn1, .ref qn2, .ref qn3, .ref qn4, .ref qn5, .long 0, .long 0, .int 0, .int 0, .ref qn6, .int 0, .int 0, .int (-1), .ref qn7, .int 0, .int 0, .int 0, .int 0, .int 0, .int 0, .int 0, .int 0, .int 0, .int 0, .int 0, .long 0, .int 0, .ref qn8, .ref qn9, .ref qn10, .null, .null, .null, .null, .null, .null, .null, .null, .int 0])), (qn1, .inl (cA 0, 326, .inl (fun _ => 0))), (qn2, .inl (cA 0, 326, .inl (fun _ => 0))), (qn3, .inl (cA 0, 326, .inl (fun _ => 0))), (qn4, .inl (cA 0, 3260, .inl (fun _ => 0))), (qn5, .inl (cA 1, 10, .inr (.inl (fun _ => 0)))), (qn6, .inl (cA 0, 700, .inl (fun _ => 0))), (qn7, .inl (cA 1, 15, .inr (.inl (fun _ => 0)))), (qn8, .inl (cA 1, 10, .inr (.inl (fun _ => 0)))), (qn9, .inl (cA 1, 10, .inr (.inl (fun _ => 0)))), (qn10, .inl (cA 1, 8, .inr (.inl (fun _ => 0))))] H := hP
  have hD : va_D A [(w0, .inr (11, [.ref qn1, .ref qn2, .ref qn3, .ref qn4, .ref qn5, .long 0, .long 0, .int 0, .int 0, .ref qn6, .int 0, .int 0, .int (-1), .ref qn7, .int 0, .int 0, .int 0, .int 0, .int 0, .int 0, .int 0, .int 0, .int 0, .int 0, .int 0, .long 0, .int 0, .ref qn8, .ref qn9, .ref qn10, .null, .null, .null, .null, .null, .null, .null, .null, .int 0])), (qn1, .inl (cA 0, 326, .inl (fun _ => 0))), (qn2, .inl (cA 0, 326, .inl (fun _ => 0))), (qn3, .inl (cA 0, 326, .inl (fun _ => 0))), (qn4, .inl (cA 0, 3260, .inl (fun _ => 0))), (qn5, .inl (cA 1, 10, .inr (.inl (fun _ => 0)))), (qn6, .inl (cA 0, 700, .inl (fun _ => 0))), (qn7, .inl (cA 1, 15, .inr (.inl (fun _ => 0)))), (qn8, .inl (cA 1, 10, .inr (.inl (fun _ => 0)))), (qn9, .inl (cA 1, 10, .inr (.inl (fun _ => 0)))), (qn10, .inl (cA 1, 8, .inr (.inl (fun _ => 0))))] := hD
  refine lv_aload_n hx hb dX10_init_94 rfl (lv_at hl 0 rfl) ?_
  refine lv_bipush (v := 8) hx hb dX10_init_95 (by decide) ?_
  refine va_newa (atype := .long) (ty := .long) (N' := 8) (a0 := (8, .inr (.inl (fun _ => 0)))) hx hb (hts (.arrayClass .long) (by decide +kernel)) rfl hK hP hD hS hA (fun _ => rfl) (by decide) (by decide +kernel) (Nat.le_of_ble_eq_true rfl) (Nat.le_of_ble_eq_true rfl) (Nat.le_of_ble_eq_true rfl) dX10_init_97 (fun qn11 c9 H hK9 hP hD hS => ?_)
  obtain rfl : c9 = cA 1 := ty_one hK9 1 rfl
  have hP : va_P D vwCl [(w0, .inr (11, [.ref qn1, .ref qn2, .ref qn3, .ref qn4, .ref qn5, .long 0, .long 0, .int 0, .int 0, .ref qn6, .int 0, .int 0, .int (-1), .ref qn7, .int 0, .int 0, .int 0, .int 0, .int 0, .int 0, .int 0, .int 0, .int 0, .int 0, .int 0, .long 0, .int 0, .ref qn8, .ref qn9, .ref qn10, .null, .null, .null, .null, .null, .null, .null, .null, .int 0])), (qn1, .inl (cA 0, 326, .inl (fun _ => 0))), (qn2, .inl (cA 0, 326, .inl (fun _ => 0))), (qn3, .inl (cA 0, 326, .inl (fun _ => 0))), (qn4, .inl (cA 0, 3260, .inl (fun _ => 0))), (qn5, .inl (cA 1, 10, .inr (.inl (fun _ => 0)))), (qn6, .inl (cA 0, 700, .inl (fun _ => 0))), (qn7, .inl (cA 1, 15, .inr (.inl (fun _ => 0)))), (qn8, .inl (cA 1, 10, .inr (.inl (fun _ => 0)))), (qn9, .inl (cA 1, 10, .inr (.inl (fun _ => 0)))), (qn10, .inl (cA 1, 8, .inr (.inl (fun _ => 0)))), (qn11, .inl (cA 1, 8, .inr (.inl (fun _ => 0))))] H := hP
  have hD : va_D A [(w0, .inr (11, [.ref qn1, .ref qn2, .ref qn3, .ref qn4, .ref qn5, .long 0, .long 0, .int 0, .int 0, .ref qn6, .int 0, .int 0, .int (-1), .ref qn7, .int 0, .int 0, .int 0, .int 0, .int 0, .int 0, .int 0, .int 0, .int 0, .int 0, .int 0, .long 0, .int 0, .ref qn8, .ref qn9, .ref qn10, .null, .null, .null, .null, .null, .null, .null, .null, .int 0])), (qn1, .inl (cA 0, 326, .inl (fun _ => 0))), (qn2, .inl (cA 0, 326, .inl (fun _ => 0))), (qn3, .inl (cA 0, 326, .inl (fun _ => 0))), (qn4, .inl (cA 0, 3260, .inl (fun _ => 0))), (qn5, .inl (cA 1, 10, .inr (.inl (fun _ => 0)))), (qn6, .inl (cA 0, 700, .inl (fun _ => 0))), (qn7, .inl (cA 1, 15, .inr (.inl (fun _ => 0)))), (qn8, .inl (cA 1, 10, .inr (.inl (fun _ => 0)))), (qn9, .inl (cA 1, 10, .inr (.inl (fun _ => 0)))), (qn10, .inl (cA 1, 8, .inr (.inl (fun _ => 0)))), (qn11, .inl (cA 1, 8, .inr (.inl (fun _ => 0))))] := hD
  refine va_putF (D := D) (ci := 11) (v := .ref qn11) (ty := (.array .long)) (C := RX10) (T := TX10) (N := 39) hx hb hts inX10 tyX10 tyX10_ok nmX10 hown hK hP hD hS 0 rfl rfl 30 (by decide) (hts (.fieldLink RX10 45 "EscrowDeskModel" "proofsRead" "[J") (by decide +kernel)) (fun _ h9 => h9) rfl hin rfl (by decide +kernel) rfl rfl (Nat.le_of_ble_eq_true rfl) dX10_init_99 (fun H locs hP hD hS => ?_)
  have hP : va_P D vwCl [(w0, .inr (11, [.ref qn1, .ref qn2, .ref qn3, .ref qn4, .ref qn5, .long 0, .long 0, .int 0, .int 0, .ref qn6, .int 0, .int 0, .int (-1), .ref qn7, .int 0, .int 0, .int 0, .int 0, .int 0, .int 0, .int 0, .int 0, .int 0, .int 0, .int 0, .long 0, .int 0, .ref qn8, .ref qn9, .ref qn10, .ref qn11, .null, .null, .null, .null, .null, .null, .null, .int 0])), (qn1, .inl (cA 0, 326, .inl (fun _ => 0))), (qn2, .inl (cA 0, 326, .inl (fun _ => 0))), (qn3, .inl (cA 0, 326, .inl (fun _ => 0))), (qn4, .inl (cA 0, 3260, .inl (fun _ => 0))), (qn5, .inl (cA 1, 10, .inr (.inl (fun _ => 0)))), (qn6, .inl (cA 0, 700, .inl (fun _ => 0))), (qn7, .inl (cA 1, 15, .inr (.inl (fun _ => 0)))), (qn8, .inl (cA 1, 10, .inr (.inl (fun _ => 0)))), (qn9, .inl (cA 1, 10, .inr (.inl (fun _ => 0)))), (qn10, .inl (cA 1, 8, .inr (.inl (fun _ => 0)))), (qn11, .inl (cA 1, 8, .inr (.inl (fun _ => 0))))] H := hP
  have hD : va_D A [(w0, .inr (11, [.ref qn1, .ref qn2, .ref qn3, .ref qn4, .ref qn5, .long 0, .long 0, .int 0, .int 0, .ref qn6, .int 0, .int 0, .int (-1), .ref qn7, .int 0, .int 0, .int 0, .int 0, .int 0, .int 0, .int 0, .int 0, .int 0, .int 0, .int 0, .long 0, .int 0, .ref qn8, .ref qn9, .ref qn10, .ref qn11, .null, .null, .null, .null, .null, .null, .null, .int 0])), (qn1, .inl (cA 0, 326, .inl (fun _ => 0))), (qn2, .inl (cA 0, 326, .inl (fun _ => 0))), (qn3, .inl (cA 0, 326, .inl (fun _ => 0))), (qn4, .inl (cA 0, 3260, .inl (fun _ => 0))), (qn5, .inl (cA 1, 10, .inr (.inl (fun _ => 0)))), (qn6, .inl (cA 0, 700, .inl (fun _ => 0))), (qn7, .inl (cA 1, 15, .inr (.inl (fun _ => 0)))), (qn8, .inl (cA 1, 10, .inr (.inl (fun _ => 0)))), (qn9, .inl (cA 1, 10, .inr (.inl (fun _ => 0)))), (qn10, .inl (cA 1, 8, .inr (.inl (fun _ => 0)))), (qn11, .inl (cA 1, 8, .inr (.inl (fun _ => 0))))] := hD
  refine lv_aload_n hx hb dX10_init_102 rfl (lv_at hl 0 rfl) ?_
  refine lv_sipush (v := 400) hx hb dX10_init_103 (by decide) ?_
  refine va_newa (atype := .int) (ty := .int) (N' := 400) (a0 := (400, .inl (fun _ => 0))) hx hb (hts (.arrayClass .int) (by decide +kernel)) rfl hK hP hD hS hA (fun _ => rfl) (by decide) (by decide +kernel) (Nat.le_of_ble_eq_true rfl) (Nat.le_of_ble_eq_true rfl) (Nat.le_of_ble_eq_true rfl) dX10_init_106 (fun qn12 c9 H hK9 hP hD hS => ?_)
  obtain rfl : c9 = cA 0 := ty_one hK9 0 rfl
  have hP : va_P D vwCl [(w0, .inr (11, [.ref qn1, .ref qn2, .ref qn3, .ref qn4, .ref qn5, .long 0, .long 0, .int 0, .int 0, .ref qn6, .int 0, .int 0, .int (-1), .ref qn7, .int 0, .int 0, .int 0, .int 0, .int 0, .int 0, .int 0, .int 0, .int 0, .int 0, .int 0, .long 0, .int 0, .ref qn8, .ref qn9, .ref qn10, .ref qn11, .null, .null, .null, .null, .null, .null, .null, .int 0])), (qn1, .inl (cA 0, 326, .inl (fun _ => 0))), (qn2, .inl (cA 0, 326, .inl (fun _ => 0))), (qn3, .inl (cA 0, 326, .inl (fun _ => 0))), (qn4, .inl (cA 0, 3260, .inl (fun _ => 0))), (qn5, .inl (cA 1, 10, .inr (.inl (fun _ => 0)))), (qn6, .inl (cA 0, 700, .inl (fun _ => 0))), (qn7, .inl (cA 1, 15, .inr (.inl (fun _ => 0)))), (qn8, .inl (cA 1, 10, .inr (.inl (fun _ => 0)))), (qn9, .inl (cA 1, 10, .inr (.inl (fun _ => 0)))), (qn10, .inl (cA 1, 8, .inr (.inl (fun _ => 0)))), (qn11, .inl (cA 1, 8, .inr (.inl (fun _ => 0)))), (qn12, .inl (cA 0, 400, .inl (fun _ => 0)))] H := hP
  have hD : va_D A [(w0, .inr (11, [.ref qn1, .ref qn2, .ref qn3, .ref qn4, .ref qn5, .long 0, .long 0, .int 0, .int 0, .ref qn6, .int 0, .int 0, .int (-1), .ref qn7, .int 0, .int 0, .int 0, .int 0, .int 0, .int 0, .int 0, .int 0, .int 0, .int 0, .int 0, .long 0, .int 0, .ref qn8, .ref qn9, .ref qn10, .ref qn11, .null, .null, .null, .null, .null, .null, .null, .int 0])), (qn1, .inl (cA 0, 326, .inl (fun _ => 0))), (qn2, .inl (cA 0, 326, .inl (fun _ => 0))), (qn3, .inl (cA 0, 326, .inl (fun _ => 0))), (qn4, .inl (cA 0, 3260, .inl (fun _ => 0))), (qn5, .inl (cA 1, 10, .inr (.inl (fun _ => 0)))), (qn6, .inl (cA 0, 700, .inl (fun _ => 0))), (qn7, .inl (cA 1, 15, .inr (.inl (fun _ => 0)))), (qn8, .inl (cA 1, 10, .inr (.inl (fun _ => 0)))), (qn9, .inl (cA 1, 10, .inr (.inl (fun _ => 0)))), (qn10, .inl (cA 1, 8, .inr (.inl (fun _ => 0)))), (qn11, .inl (cA 1, 8, .inr (.inl (fun _ => 0)))), (qn12, .inl (cA 0, 400, .inl (fun _ => 0)))] := hD
  refine va_putF (D := D) (ci := 11) (v := .ref qn12) (ty := (.array .int)) (C := RX10) (T := TX10) (N := 39) hx hb hts inX10 tyX10 tyX10_ok nmX10 hown hK hP hD hS 0 rfl rfl 31 (by decide) (hts (.fieldLink RX10 48 "EscrowDeskModel" "code" "[I") (by decide +kernel)) (fun _ h9 => h9) rfl hin rfl (by decide +kernel) rfl rfl (Nat.le_of_ble_eq_true rfl) dX10_init_108 (fun H locs hP hD hS => ?_)
  have hP : va_P D vwCl [(w0, .inr (11, [.ref qn1, .ref qn2, .ref qn3, .ref qn4, .ref qn5, .long 0, .long 0, .int 0, .int 0, .ref qn6, .int 0, .int 0, .int (-1), .ref qn7, .int 0, .int 0, .int 0, .int 0, .int 0, .int 0, .int 0, .int 0, .int 0, .int 0, .int 0, .long 0, .int 0, .ref qn8, .ref qn9, .ref qn10, .ref qn11, .ref qn12, .null, .null, .null, .null, .null, .null, .int 0])), (qn1, .inl (cA 0, 326, .inl (fun _ => 0))), (qn2, .inl (cA 0, 326, .inl (fun _ => 0))), (qn3, .inl (cA 0, 326, .inl (fun _ => 0))), (qn4, .inl (cA 0, 3260, .inl (fun _ => 0))), (qn5, .inl (cA 1, 10, .inr (.inl (fun _ => 0)))), (qn6, .inl (cA 0, 700, .inl (fun _ => 0))), (qn7, .inl (cA 1, 15, .inr (.inl (fun _ => 0)))), (qn8, .inl (cA 1, 10, .inr (.inl (fun _ => 0)))), (qn9, .inl (cA 1, 10, .inr (.inl (fun _ => 0)))), (qn10, .inl (cA 1, 8, .inr (.inl (fun _ => 0)))), (qn11, .inl (cA 1, 8, .inr (.inl (fun _ => 0)))), (qn12, .inl (cA 0, 400, .inl (fun _ => 0)))] H := hP
  have hD : va_D A [(w0, .inr (11, [.ref qn1, .ref qn2, .ref qn3, .ref qn4, .ref qn5, .long 0, .long 0, .int 0, .int 0, .ref qn6, .int 0, .int 0, .int (-1), .ref qn7, .int 0, .int 0, .int 0, .int 0, .int 0, .int 0, .int 0, .int 0, .int 0, .int 0, .int 0, .long 0, .int 0, .ref qn8, .ref qn9, .ref qn10, .ref qn11, .ref qn12, .null, .null, .null, .null, .null, .null, .int 0])), (qn1, .inl (cA 0, 326, .inl (fun _ => 0))), (qn2, .inl (cA 0, 326, .inl (fun _ => 0))), (qn3, .inl (cA 0, 326, .inl (fun _ => 0))), (qn4, .inl (cA 0, 3260, .inl (fun _ => 0))), (qn5, .inl (cA 1, 10, .inr (.inl (fun _ => 0)))), (qn6, .inl (cA 0, 700, .inl (fun _ => 0))), (qn7, .inl (cA 1, 15, .inr (.inl (fun _ => 0)))), (qn8, .inl (cA 1, 10, .inr (.inl (fun _ => 0)))), (qn9, .inl (cA 1, 10, .inr (.inl (fun _ => 0)))), (qn10, .inl (cA 1, 8, .inr (.inl (fun _ => 0)))), (qn11, .inl (cA 1, 8, .inr (.inl (fun _ => 0)))), (qn12, .inl (cA 0, 400, .inl (fun _ => 0)))] := hD
  refine lv_aload_n hx hb dX10_init_111 rfl (lv_at hl 0 rfl) ?_
  refine lv_sipush (v := 400) hx hb dX10_init_112 (by decide) ?_
  refine va_newa (atype := .int) (ty := .int) (N' := 400) (a0 := (400, .inl (fun _ => 0))) hx hb (hts (.arrayClass .int) (by decide +kernel)) rfl hK hP hD hS hA (fun _ => rfl) (by decide) (by decide +kernel) (Nat.le_of_ble_eq_true rfl) (Nat.le_of_ble_eq_true rfl) (Nat.le_of_ble_eq_true rfl) dX10_init_115 (fun qn13 c9 H hK9 hP hD hS => ?_)
  obtain rfl : c9 = cA 0 := ty_one hK9 0 rfl
  have hP : va_P D vwCl [(w0, .inr (11, [.ref qn1, .ref qn2, .ref qn3, .ref qn4, .ref qn5, .long 0, .long 0, .int 0, .int 0, .ref qn6, .int 0, .int 0, .int (-1), .ref qn7, .int 0, .int 0, .int 0, .int 0, .int 0, .int 0, .int 0, .int 0, .int 0, .int 0, .int 0, .long 0, .int 0, .ref qn8, .ref qn9, .ref qn10, .ref qn11, .ref qn12, .null, .null, .null, .null, .null, .null, .int 0])), (qn1, .inl (cA 0, 326, .inl (fun _ => 0))), (qn2, .inl (cA 0, 326, .inl (fun _ => 0))), (qn3, .inl (cA 0, 326, .inl (fun _ => 0))), (qn4, .inl (cA 0, 3260, .inl (fun _ => 0))), (qn5, .inl (cA 1, 10, .inr (.inl (fun _ => 0)))), (qn6, .inl (cA 0, 700, .inl (fun _ => 0))), (qn7, .inl (cA 1, 15, .inr (.inl (fun _ => 0)))), (qn8, .inl (cA 1, 10, .inr (.inl (fun _ => 0)))), (qn9, .inl (cA 1, 10, .inr (.inl (fun _ => 0)))), (qn10, .inl (cA 1, 8, .inr (.inl (fun _ => 0)))), (qn11, .inl (cA 1, 8, .inr (.inl (fun _ => 0)))), (qn12, .inl (cA 0, 400, .inl (fun _ => 0))), (qn13, .inl (cA 0, 400, .inl (fun _ => 0)))] H := hP
  have hD : va_D A [(w0, .inr (11, [.ref qn1, .ref qn2, .ref qn3, .ref qn4, .ref qn5, .long 0, .long 0, .int 0, .int 0, .ref qn6, .int 0, .int 0, .int (-1), .ref qn7, .int 0, .int 0, .int 0, .int 0, .int 0, .int 0, .int 0, .int 0, .int 0, .int 0, .int 0, .long 0, .int 0, .ref qn8, .ref qn9, .ref qn10, .ref qn11, .ref qn12, .null, .null, .null, .null, .null, .null, .int 0])), (qn1, .inl (cA 0, 326, .inl (fun _ => 0))), (qn2, .inl (cA 0, 326, .inl (fun _ => 0))), (qn3, .inl (cA 0, 326, .inl (fun _ => 0))), (qn4, .inl (cA 0, 3260, .inl (fun _ => 0))), (qn5, .inl (cA 1, 10, .inr (.inl (fun _ => 0)))), (qn6, .inl (cA 0, 700, .inl (fun _ => 0))), (qn7, .inl (cA 1, 15, .inr (.inl (fun _ => 0)))), (qn8, .inl (cA 1, 10, .inr (.inl (fun _ => 0)))), (qn9, .inl (cA 1, 10, .inr (.inl (fun _ => 0)))), (qn10, .inl (cA 1, 8, .inr (.inl (fun _ => 0)))), (qn11, .inl (cA 1, 8, .inr (.inl (fun _ => 0)))), (qn12, .inl (cA 0, 400, .inl (fun _ => 0))), (qn13, .inl (cA 0, 400, .inl (fun _ => 0)))] := hD
  refine va_putF (D := D) (ci := 11) (v := .ref qn13) (ty := (.array .int)) (C := RX10) (T := TX10) (N := 39) hx hb hts inX10 tyX10 tyX10_ok nmX10 hown hK hP hD hS 0 rfl rfl 32 (by decide) (hts (.fieldLink RX10 51 "EscrowDeskModel" "codeRead" "[I") (by decide +kernel)) (fun _ h9 => h9) rfl hin rfl (by decide +kernel) rfl rfl (Nat.le_of_ble_eq_true rfl) dX10_init_117 (fun H locs hP hD hS => ?_)
  have hP : va_P D vwCl [(w0, .inr (11, [.ref qn1, .ref qn2, .ref qn3, .ref qn4, .ref qn5, .long 0, .long 0, .int 0, .int 0, .ref qn6, .int 0, .int 0, .int (-1), .ref qn7, .int 0, .int 0, .int 0, .int 0, .int 0, .int 0, .int 0, .int 0, .int 0, .int 0, .int 0, .long 0, .int 0, .ref qn8, .ref qn9, .ref qn10, .ref qn11, .ref qn12, .ref qn13, .null, .null, .null, .null, .null, .int 0])), (qn1, .inl (cA 0, 326, .inl (fun _ => 0))), (qn2, .inl (cA 0, 326, .inl (fun _ => 0))), (qn3, .inl (cA 0, 326, .inl (fun _ => 0))), (qn4, .inl (cA 0, 3260, .inl (fun _ => 0))), (qn5, .inl (cA 1, 10, .inr (.inl (fun _ => 0)))), (qn6, .inl (cA 0, 700, .inl (fun _ => 0))), (qn7, .inl (cA 1, 15, .inr (.inl (fun _ => 0)))), (qn8, .inl (cA 1, 10, .inr (.inl (fun _ => 0)))), (qn9, .inl (cA 1, 10, .inr (.inl (fun _ => 0)))), (qn10, .inl (cA 1, 8, .inr (.inl (fun _ => 0)))), (qn11, .inl (cA 1, 8, .inr (.inl (fun _ => 0)))), (qn12, .inl (cA 0, 400, .inl (fun _ => 0))), (qn13, .inl (cA 0, 400, .inl (fun _ => 0)))] H := hP
  have hD : va_D A [(w0, .inr (11, [.ref qn1, .ref qn2, .ref qn3, .ref qn4, .ref qn5, .long 0, .long 0, .int 0, .int 0, .ref qn6, .int 0, .int 0, .int (-1), .ref qn7, .int 0, .int 0, .int 0, .int 0, .int 0, .int 0, .int 0, .int 0, .int 0, .int 0, .int 0, .long 0, .int 0, .ref qn8, .ref qn9, .ref qn10, .ref qn11, .ref qn12, .ref qn13, .null, .null, .null, .null, .null, .int 0])), (qn1, .inl (cA 0, 326, .inl (fun _ => 0))), (qn2, .inl (cA 0, 326, .inl (fun _ => 0))), (qn3, .inl (cA 0, 326, .inl (fun _ => 0))), (qn4, .inl (cA 0, 3260, .inl (fun _ => 0))), (qn5, .inl (cA 1, 10, .inr (.inl (fun _ => 0)))), (qn6, .inl (cA 0, 700, .inl (fun _ => 0))), (qn7, .inl (cA 1, 15, .inr (.inl (fun _ => 0)))), (qn8, .inl (cA 1, 10, .inr (.inl (fun _ => 0)))), (qn9, .inl (cA 1, 10, .inr (.inl (fun _ => 0)))), (qn10, .inl (cA 1, 8, .inr (.inl (fun _ => 0)))), (qn11, .inl (cA 1, 8, .inr (.inl (fun _ => 0)))), (qn12, .inl (cA 0, 400, .inl (fun _ => 0))), (qn13, .inl (cA 0, 400, .inl (fun _ => 0)))] := hD
  refine lv_aload_n hx hb dX10_init_120 rfl (lv_at hl 0 rfl) ?_
  refine lv_bipush (v := 11) hx hb dX10_init_121 (by decide) ?_
  refine va_newa (atype := .int) (ty := .int) (N' := 11) (a0 := (11, .inl (fun _ => 0))) hx hb (hts (.arrayClass .int) (by decide +kernel)) rfl hK hP hD hS hA (fun _ => rfl) (by decide) (by decide +kernel) (Nat.le_of_ble_eq_true rfl) (Nat.le_of_ble_eq_true rfl) (Nat.le_of_ble_eq_true rfl) dX10_init_123 (fun qn14 c9 H hK9 hP hD hS => ?_)
  obtain rfl : c9 = cA 0 := ty_one hK9 0 rfl
  have hP : va_P D vwCl [(w0, .inr (11, [.ref qn1, .ref qn2, .ref qn3, .ref qn4, .ref qn5, .long 0, .long 0, .int 0, .int 0, .ref qn6, .int 0, .int 0, .int (-1), .ref qn7, .int 0, .int 0, .int 0, .int 0, .int 0, .int 0, .int 0, .int 0, .int 0, .int 0, .int 0, .long 0, .int 0, .ref qn8, .ref qn9, .ref qn10, .ref qn11, .ref qn12, .ref qn13, .null, .null, .null, .null, .null, .int 0])), (qn1, .inl (cA 0, 326, .inl (fun _ => 0))), (qn2, .inl (cA 0, 326, .inl (fun _ => 0))), (qn3, .inl (cA 0, 326, .inl (fun _ => 0))), (qn4, .inl (cA 0, 3260, .inl (fun _ => 0))), (qn5, .inl (cA 1, 10, .inr (.inl (fun _ => 0)))), (qn6, .inl (cA 0, 700, .inl (fun _ => 0))), (qn7, .inl (cA 1, 15, .inr (.inl (fun _ => 0)))), (qn8, .inl (cA 1, 10, .inr (.inl (fun _ => 0)))), (qn9, .inl (cA 1, 10, .inr (.inl (fun _ => 0)))), (qn10, .inl (cA 1, 8, .inr (.inl (fun _ => 0)))), (qn11, .inl (cA 1, 8, .inr (.inl (fun _ => 0)))), (qn12, .inl (cA 0, 400, .inl (fun _ => 0))), (qn13, .inl (cA 0, 400, .inl (fun _ => 0))), (qn14, .inl (cA 0, 11, .inl (fun _ => 0)))] H := hP
  have hD : va_D A [(w0, .inr (11, [.ref qn1, .ref qn2, .ref qn3, .ref qn4, .ref qn5, .long 0, .long 0, .int 0, .int 0, .ref qn6, .int 0, .int 0, .int (-1), .ref qn7, .int 0, .int 0, .int 0, .int 0, .int 0, .int 0, .int 0, .int 0, .int 0, .int 0, .int 0, .long 0, .int 0, .ref qn8, .ref qn9, .ref qn10, .ref qn11, .ref qn12, .ref qn13, .null, .null, .null, .null, .null, .int 0])), (qn1, .inl (cA 0, 326, .inl (fun _ => 0))), (qn2, .inl (cA 0, 326, .inl (fun _ => 0))), (qn3, .inl (cA 0, 326, .inl (fun _ => 0))), (qn4, .inl (cA 0, 3260, .inl (fun _ => 0))), (qn5, .inl (cA 1, 10, .inr (.inl (fun _ => 0)))), (qn6, .inl (cA 0, 700, .inl (fun _ => 0))), (qn7, .inl (cA 1, 15, .inr (.inl (fun _ => 0)))), (qn8, .inl (cA 1, 10, .inr (.inl (fun _ => 0)))), (qn9, .inl (cA 1, 10, .inr (.inl (fun _ => 0)))), (qn10, .inl (cA 1, 8, .inr (.inl (fun _ => 0)))), (qn11, .inl (cA 1, 8, .inr (.inl (fun _ => 0)))), (qn12, .inl (cA 0, 400, .inl (fun _ => 0))), (qn13, .inl (cA 0, 400, .inl (fun _ => 0))), (qn14, .inl (cA 0, 11, .inl (fun _ => 0)))] := hD
  refine va_putF (D := D) (ci := 11) (v := .ref qn14) (ty := (.array .int)) (C := RX10) (T := TX10) (N := 39) hx hb hts inX10 tyX10 tyX10_ok nmX10 hown hK hP hD hS 0 rfl rfl 33 (by decide) (hts (.fieldLink RX10 54 "EscrowDeskModel" "codeFrom" "[I") (by decide +kernel)) (fun _ h9 => h9) rfl hin rfl (by decide +kernel) rfl rfl (Nat.le_of_ble_eq_true rfl) dX10_init_125 (fun H locs hP hD hS => ?_)
  have hP : va_P D vwCl [(w0, .inr (11, [.ref qn1, .ref qn2, .ref qn3, .ref qn4, .ref qn5, .long 0, .long 0, .int 0, .int 0, .ref qn6, .int 0, .int 0, .int (-1), .ref qn7, .int 0, .int 0, .int 0, .int 0, .int 0, .int 0, .int 0, .int 0, .int 0, .int 0, .int 0, .long 0, .int 0, .ref qn8, .ref qn9, .ref qn10, .ref qn11, .ref qn12, .ref qn13, .ref qn14, .null, .null, .null, .null, .int 0])), (qn1, .inl (cA 0, 326, .inl (fun _ => 0))), (qn2, .inl (cA 0, 326, .inl (fun _ => 0))), (qn3, .inl (cA 0, 326, .inl (fun _ => 0))), (qn4, .inl (cA 0, 3260, .inl (fun _ => 0))), (qn5, .inl (cA 1, 10, .inr (.inl (fun _ => 0)))), (qn6, .inl (cA 0, 700, .inl (fun _ => 0))), (qn7, .inl (cA 1, 15, .inr (.inl (fun _ => 0)))), (qn8, .inl (cA 1, 10, .inr (.inl (fun _ => 0)))), (qn9, .inl (cA 1, 10, .inr (.inl (fun _ => 0)))), (qn10, .inl (cA 1, 8, .inr (.inl (fun _ => 0)))), (qn11, .inl (cA 1, 8, .inr (.inl (fun _ => 0)))), (qn12, .inl (cA 0, 400, .inl (fun _ => 0))), (qn13, .inl (cA 0, 400, .inl (fun _ => 0))), (qn14, .inl (cA 0, 11, .inl (fun _ => 0)))] H := hP
  have hD : va_D A [(w0, .inr (11, [.ref qn1, .ref qn2, .ref qn3, .ref qn4, .ref qn5, .long 0, .long 0, .int 0, .int 0, .ref qn6, .int 0, .int 0, .int (-1), .ref qn7, .int 0, .int 0, .int 0, .int 0, .int 0, .int 0, .int 0, .int 0, .int 0, .int 0, .int 0, .long 0, .int 0, .ref qn8, .ref qn9, .ref qn10, .ref qn11, .ref qn12, .ref qn13, .ref qn14, .null, .null, .null, .null, .int 0])), (qn1, .inl (cA 0, 326, .inl (fun _ => 0))), (qn2, .inl (cA 0, 326, .inl (fun _ => 0))), (qn3, .inl (cA 0, 326, .inl (fun _ => 0))), (qn4, .inl (cA 0, 3260, .inl (fun _ => 0))), (qn5, .inl (cA 1, 10, .inr (.inl (fun _ => 0)))), (qn6, .inl (cA 0, 700, .inl (fun _ => 0))), (qn7, .inl (cA 1, 15, .inr (.inl (fun _ => 0)))), (qn8, .inl (cA 1, 10, .inr (.inl (fun _ => 0)))), (qn9, .inl (cA 1, 10, .inr (.inl (fun _ => 0)))), (qn10, .inl (cA 1, 8, .inr (.inl (fun _ => 0)))), (qn11, .inl (cA 1, 8, .inr (.inl (fun _ => 0)))), (qn12, .inl (cA 0, 400, .inl (fun _ => 0))), (qn13, .inl (cA 0, 400, .inl (fun _ => 0))), (qn14, .inl (cA 0, 11, .inl (fun _ => 0)))] := hD
  refine lv_aload_n hx hb dX10_init_128 rfl (lv_at hl 0 rfl) ?_
  refine lv_bipush (v := 11) hx hb dX10_init_129 (by decide) ?_
  refine va_newa (atype := .int) (ty := .int) (N' := 11) (a0 := (11, .inl (fun _ => 0))) hx hb (hts (.arrayClass .int) (by decide +kernel)) rfl hK hP hD hS hA (fun _ => rfl) (by decide) (by decide +kernel) (Nat.le_of_ble_eq_true rfl) (Nat.le_of_ble_eq_true rfl) (Nat.le_of_ble_eq_true rfl) dX10_init_131 (fun qn15 c9 H hK9 hP hD hS => ?_)
  obtain rfl : c9 = cA 0 := ty_one hK9 0 rfl
  have hP : va_P D vwCl [(w0, .inr (11, [.ref qn1, .ref qn2, .ref qn3, .ref qn4, .ref qn5, .long 0, .long 0, .int 0, .int 0, .ref qn6, .int 0, .int 0, .int (-1), .ref qn7, .int 0, .int 0, .int 0, .int 0, .int 0, .int 0, .int 0, .int 0, .int 0, .int 0, .int 0, .long 0, .int 0, .ref qn8, .ref qn9, .ref qn10, .ref qn11, .ref qn12, .ref qn13, .ref qn14, .null, .null, .null, .null, .int 0])), (qn1, .inl (cA 0, 326, .inl (fun _ => 0))), (qn2, .inl (cA 0, 326, .inl (fun _ => 0))), (qn3, .inl (cA 0, 326, .inl (fun _ => 0))), (qn4, .inl (cA 0, 3260, .inl (fun _ => 0))), (qn5, .inl (cA 1, 10, .inr (.inl (fun _ => 0)))), (qn6, .inl (cA 0, 700, .inl (fun _ => 0))), (qn7, .inl (cA 1, 15, .inr (.inl (fun _ => 0)))), (qn8, .inl (cA 1, 10, .inr (.inl (fun _ => 0)))), (qn9, .inl (cA 1, 10, .inr (.inl (fun _ => 0)))), (qn10, .inl (cA 1, 8, .inr (.inl (fun _ => 0)))), (qn11, .inl (cA 1, 8, .inr (.inl (fun _ => 0)))), (qn12, .inl (cA 0, 400, .inl (fun _ => 0))), (qn13, .inl (cA 0, 400, .inl (fun _ => 0))), (qn14, .inl (cA 0, 11, .inl (fun _ => 0))), (qn15, .inl (cA 0, 11, .inl (fun _ => 0)))] H := hP
  have hD : va_D A [(w0, .inr (11, [.ref qn1, .ref qn2, .ref qn3, .ref qn4, .ref qn5, .long 0, .long 0, .int 0, .int 0, .ref qn6, .int 0, .int 0, .int (-1), .ref qn7, .int 0, .int 0, .int 0, .int 0, .int 0, .int 0, .int 0, .int 0, .int 0, .int 0, .int 0, .long 0, .int 0, .ref qn8, .ref qn9, .ref qn10, .ref qn11, .ref qn12, .ref qn13, .ref qn14, .null, .null, .null, .null, .int 0])), (qn1, .inl (cA 0, 326, .inl (fun _ => 0))), (qn2, .inl (cA 0, 326, .inl (fun _ => 0))), (qn3, .inl (cA 0, 326, .inl (fun _ => 0))), (qn4, .inl (cA 0, 3260, .inl (fun _ => 0))), (qn5, .inl (cA 1, 10, .inr (.inl (fun _ => 0)))), (qn6, .inl (cA 0, 700, .inl (fun _ => 0))), (qn7, .inl (cA 1, 15, .inr (.inl (fun _ => 0)))), (qn8, .inl (cA 1, 10, .inr (.inl (fun _ => 0)))), (qn9, .inl (cA 1, 10, .inr (.inl (fun _ => 0)))), (qn10, .inl (cA 1, 8, .inr (.inl (fun _ => 0)))), (qn11, .inl (cA 1, 8, .inr (.inl (fun _ => 0)))), (qn12, .inl (cA 0, 400, .inl (fun _ => 0))), (qn13, .inl (cA 0, 400, .inl (fun _ => 0))), (qn14, .inl (cA 0, 11, .inl (fun _ => 0))), (qn15, .inl (cA 0, 11, .inl (fun _ => 0)))] := hD
  refine va_putF (D := D) (ci := 11) (v := .ref qn15) (ty := (.array .int)) (C := RX10) (T := TX10) (N := 39) hx hb hts inX10 tyX10 tyX10_ok nmX10 hown hK hP hD hS 0 rfl rfl 34 (by decide) (hts (.fieldLink RX10 57 "EscrowDeskModel" "fromRead" "[I") (by decide +kernel)) (fun _ h9 => h9) rfl hin rfl (by decide +kernel) rfl rfl (Nat.le_of_ble_eq_true rfl) dX10_init_133 (fun H locs hP hD hS => ?_)
  have hP : va_P D vwCl [(w0, .inr (11, [.ref qn1, .ref qn2, .ref qn3, .ref qn4, .ref qn5, .long 0, .long 0, .int 0, .int 0, .ref qn6, .int 0, .int 0, .int (-1), .ref qn7, .int 0, .int 0, .int 0, .int 0, .int 0, .int 0, .int 0, .int 0, .int 0, .int 0, .int 0, .long 0, .int 0, .ref qn8, .ref qn9, .ref qn10, .ref qn11, .ref qn12, .ref qn13, .ref qn14, .ref qn15, .null, .null, .null, .int 0])), (qn1, .inl (cA 0, 326, .inl (fun _ => 0))), (qn2, .inl (cA 0, 326, .inl (fun _ => 0))), (qn3, .inl (cA 0, 326, .inl (fun _ => 0))), (qn4, .inl (cA 0, 3260, .inl (fun _ => 0))), (qn5, .inl (cA 1, 10, .inr (.inl (fun _ => 0)))), (qn6, .inl (cA 0, 700, .inl (fun _ => 0))), (qn7, .inl (cA 1, 15, .inr (.inl (fun _ => 0)))), (qn8, .inl (cA 1, 10, .inr (.inl (fun _ => 0)))), (qn9, .inl (cA 1, 10, .inr (.inl (fun _ => 0)))), (qn10, .inl (cA 1, 8, .inr (.inl (fun _ => 0)))), (qn11, .inl (cA 1, 8, .inr (.inl (fun _ => 0)))), (qn12, .inl (cA 0, 400, .inl (fun _ => 0))), (qn13, .inl (cA 0, 400, .inl (fun _ => 0))), (qn14, .inl (cA 0, 11, .inl (fun _ => 0))), (qn15, .inl (cA 0, 11, .inl (fun _ => 0)))] H := hP
  have hD : va_D A [(w0, .inr (11, [.ref qn1, .ref qn2, .ref qn3, .ref qn4, .ref qn5, .long 0, .long 0, .int 0, .int 0, .ref qn6, .int 0, .int 0, .int (-1), .ref qn7, .int 0, .int 0, .int 0, .int 0, .int 0, .int 0, .int 0, .int 0, .int 0, .int 0, .int 0, .long 0, .int 0, .ref qn8, .ref qn9, .ref qn10, .ref qn11, .ref qn12, .ref qn13, .ref qn14, .ref qn15, .null, .null, .null, .int 0])), (qn1, .inl (cA 0, 326, .inl (fun _ => 0))), (qn2, .inl (cA 0, 326, .inl (fun _ => 0))), (qn3, .inl (cA 0, 326, .inl (fun _ => 0))), (qn4, .inl (cA 0, 3260, .inl (fun _ => 0))), (qn5, .inl (cA 1, 10, .inr (.inl (fun _ => 0)))), (qn6, .inl (cA 0, 700, .inl (fun _ => 0))), (qn7, .inl (cA 1, 15, .inr (.inl (fun _ => 0)))), (qn8, .inl (cA 1, 10, .inr (.inl (fun _ => 0)))), (qn9, .inl (cA 1, 10, .inr (.inl (fun _ => 0)))), (qn10, .inl (cA 1, 8, .inr (.inl (fun _ => 0)))), (qn11, .inl (cA 1, 8, .inr (.inl (fun _ => 0)))), (qn12, .inl (cA 0, 400, .inl (fun _ => 0))), (qn13, .inl (cA 0, 400, .inl (fun _ => 0))), (qn14, .inl (cA 0, 11, .inl (fun _ => 0))), (qn15, .inl (cA 0, 11, .inl (fun _ => 0)))] := hD
  refine lv_aload_n hx hb dX10_init_136 rfl (lv_at hl 0 rfl) ?_
  refine lv_sipush (v := 400) hx hb dX10_init_137 (by decide) ?_
  refine va_newa (atype := .boolean) (ty := .boolean) (N' := 400) (a0 := (400, .inl (fun _ => 0))) hx hb (hts (.arrayClass .boolean) (by decide +kernel)) rfl hK hP hD hS hA (fun _ => rfl) (by decide) (by decide +kernel) (Nat.le_of_ble_eq_true rfl) (Nat.le_of_ble_eq_true rfl) (Nat.le_of_ble_eq_true rfl) dX10_init_140 (fun qn16 c9 H hK9 hP hD hS => ?_)
  obtain rfl : c9 = cA 4 := ty_one hK9 4 rfl
  have hP : va_P D vwCl [(w0, .inr (11, [.ref qn1, .ref qn2, .ref qn3, .ref qn4, .ref qn5, .long 0, .long 0, .int 0, .int 0, .ref qn6, .int 0, .int 0, .int (-1), .ref qn7, .int 0, .int 0, .int 0, .int 0, .int 0, .int 0, .int 0, .int 0, .int 0, .int 0, .int 0, .long 0, .int 0, .ref qn8, .ref qn9, .ref qn10, .ref qn11, .ref qn12, .ref qn13, .ref qn14, .ref qn15, .null, .null, .null, .int 0])), (qn1, .inl (cA 0, 326, .inl (fun _ => 0))), (qn2, .inl (cA 0, 326, .inl (fun _ => 0))), (qn3, .inl (cA 0, 326, .inl (fun _ => 0))), (qn4, .inl (cA 0, 3260, .inl (fun _ => 0))), (qn5, .inl (cA 1, 10, .inr (.inl (fun _ => 0)))), (qn6, .inl (cA 0, 700, .inl (fun _ => 0))), (qn7, .inl (cA 1, 15, .inr (.inl (fun _ => 0)))), (qn8, .inl (cA 1, 10, .inr (.inl (fun _ => 0)))), (qn9, .inl (cA 1, 10, .inr (.inl (fun _ => 0)))), (qn10, .inl (cA 1, 8, .inr (.inl (fun _ => 0)))), (qn11, .inl (cA 1, 8, .inr (.inl (fun _ => 0)))), (qn12, .inl (cA 0, 400, .inl (fun _ => 0))), (qn13, .inl (cA 0, 400, .inl (fun _ => 0))), (qn14, .inl (cA 0, 11, .inl (fun _ => 0))), (qn15, .inl (cA 0, 11, .inl (fun _ => 0))), (qn16, .inl (cA 4, 400, .inl (fun _ => 0)))] H := hP
  have hD : va_D A [(w0, .inr (11, [.ref qn1, .ref qn2, .ref qn3, .ref qn4, .ref qn5, .long 0, .long 0, .int 0, .int 0, .ref qn6, .int 0, .int 0, .int (-1), .ref qn7, .int 0, .int 0, .int 0, .int 0, .int 0, .int 0, .int 0, .int 0, .int 0, .int 0, .int 0, .long 0, .int 0, .ref qn8, .ref qn9, .ref qn10, .ref qn11, .ref qn12, .ref qn13, .ref qn14, .ref qn15, .null, .null, .null, .int 0])), (qn1, .inl (cA 0, 326, .inl (fun _ => 0))), (qn2, .inl (cA 0, 326, .inl (fun _ => 0))), (qn3, .inl (cA 0, 326, .inl (fun _ => 0))), (qn4, .inl (cA 0, 3260, .inl (fun _ => 0))), (qn5, .inl (cA 1, 10, .inr (.inl (fun _ => 0)))), (qn6, .inl (cA 0, 700, .inl (fun _ => 0))), (qn7, .inl (cA 1, 15, .inr (.inl (fun _ => 0)))), (qn8, .inl (cA 1, 10, .inr (.inl (fun _ => 0)))), (qn9, .inl (cA 1, 10, .inr (.inl (fun _ => 0)))), (qn10, .inl (cA 1, 8, .inr (.inl (fun _ => 0)))), (qn11, .inl (cA 1, 8, .inr (.inl (fun _ => 0)))), (qn12, .inl (cA 0, 400, .inl (fun _ => 0))), (qn13, .inl (cA 0, 400, .inl (fun _ => 0))), (qn14, .inl (cA 0, 11, .inl (fun _ => 0))), (qn15, .inl (cA 0, 11, .inl (fun _ => 0))), (qn16, .inl (cA 4, 400, .inl (fun _ => 0)))] := hD
  refine va_putF (D := D) (ci := 11) (v := .ref qn16) (ty := (.array .boolean)) (C := RX10) (T := TX10) (N := 39) hx hb hts inX10 tyX10 tyX10_ok nmX10 hown hK hP hD hS 0 rfl rfl 35 (by decide) (hts (.fieldLink RX10 60 "EscrowDeskModel" "stack" "[Z") (by decide +kernel)) (fun _ h9 => h9) rfl hin rfl (by decide +kernel) rfl rfl (Nat.le_of_ble_eq_true rfl) dX10_init_142 (fun H locs hP hD hS => ?_)
  have hP : va_P D vwCl [(w0, .inr (11, [.ref qn1, .ref qn2, .ref qn3, .ref qn4, .ref qn5, .long 0, .long 0, .int 0, .int 0, .ref qn6, .int 0, .int 0, .int (-1), .ref qn7, .int 0, .int 0, .int 0, .int 0, .int 0, .int 0, .int 0, .int 0, .int 0, .int 0, .int 0, .long 0, .int 0, .ref qn8, .ref qn9, .ref qn10, .ref qn11, .ref qn12, .ref qn13, .ref qn14, .ref qn15, .ref qn16, .null, .null, .int 0])), (qn1, .inl (cA 0, 326, .inl (fun _ => 0))), (qn2, .inl (cA 0, 326, .inl (fun _ => 0))), (qn3, .inl (cA 0, 326, .inl (fun _ => 0))), (qn4, .inl (cA 0, 3260, .inl (fun _ => 0))), (qn5, .inl (cA 1, 10, .inr (.inl (fun _ => 0)))), (qn6, .inl (cA 0, 700, .inl (fun _ => 0))), (qn7, .inl (cA 1, 15, .inr (.inl (fun _ => 0)))), (qn8, .inl (cA 1, 10, .inr (.inl (fun _ => 0)))), (qn9, .inl (cA 1, 10, .inr (.inl (fun _ => 0)))), (qn10, .inl (cA 1, 8, .inr (.inl (fun _ => 0)))), (qn11, .inl (cA 1, 8, .inr (.inl (fun _ => 0)))), (qn12, .inl (cA 0, 400, .inl (fun _ => 0))), (qn13, .inl (cA 0, 400, .inl (fun _ => 0))), (qn14, .inl (cA 0, 11, .inl (fun _ => 0))), (qn15, .inl (cA 0, 11, .inl (fun _ => 0))), (qn16, .inl (cA 4, 400, .inl (fun _ => 0)))] H := hP
  have hD : va_D A [(w0, .inr (11, [.ref qn1, .ref qn2, .ref qn3, .ref qn4, .ref qn5, .long 0, .long 0, .int 0, .int 0, .ref qn6, .int 0, .int 0, .int (-1), .ref qn7, .int 0, .int 0, .int 0, .int 0, .int 0, .int 0, .int 0, .int 0, .int 0, .int 0, .int 0, .long 0, .int 0, .ref qn8, .ref qn9, .ref qn10, .ref qn11, .ref qn12, .ref qn13, .ref qn14, .ref qn15, .ref qn16, .null, .null, .int 0])), (qn1, .inl (cA 0, 326, .inl (fun _ => 0))), (qn2, .inl (cA 0, 326, .inl (fun _ => 0))), (qn3, .inl (cA 0, 326, .inl (fun _ => 0))), (qn4, .inl (cA 0, 3260, .inl (fun _ => 0))), (qn5, .inl (cA 1, 10, .inr (.inl (fun _ => 0)))), (qn6, .inl (cA 0, 700, .inl (fun _ => 0))), (qn7, .inl (cA 1, 15, .inr (.inl (fun _ => 0)))), (qn8, .inl (cA 1, 10, .inr (.inl (fun _ => 0)))), (qn9, .inl (cA 1, 10, .inr (.inl (fun _ => 0)))), (qn10, .inl (cA 1, 8, .inr (.inl (fun _ => 0)))), (qn11, .inl (cA 1, 8, .inr (.inl (fun _ => 0)))), (qn12, .inl (cA 0, 400, .inl (fun _ => 0))), (qn13, .inl (cA 0, 400, .inl (fun _ => 0))), (qn14, .inl (cA 0, 11, .inl (fun _ => 0))), (qn15, .inl (cA 0, 11, .inl (fun _ => 0))), (qn16, .inl (cA 4, 400, .inl (fun _ => 0)))] := hD
  refine lv_aload_n hx hb dX10_init_145 rfl (lv_at hl 0 rfl) ?_
  refine lv_bipush (v := 10) hx hb dX10_init_146 (by decide) ?_
  refine va_newa (atype := .int) (ty := .int) (N' := 10) (a0 := (10, .inl (fun _ => 0))) hx hb (hts (.arrayClass .int) (by decide +kernel)) rfl hK hP hD hS hA (fun _ => rfl) (by decide) (by decide +kernel) (Nat.le_of_ble_eq_true rfl) (Nat.le_of_ble_eq_true rfl) (Nat.le_of_ble_eq_true rfl) dX10_init_148 (fun qn17 c9 H hK9 hP hD hS => ?_)
  obtain rfl : c9 = cA 0 := ty_one hK9 0 rfl
  have hP : va_P D vwCl [(w0, .inr (11, [.ref qn1, .ref qn2, .ref qn3, .ref qn4, .ref qn5, .long 0, .long 0, .int 0, .int 0, .ref qn6, .int 0, .int 0, .int (-1), .ref qn7, .int 0, .int 0, .int 0, .int 0, .int 0, .int 0, .int 0, .int 0, .int 0, .int 0, .int 0, .long 0, .int 0, .ref qn8, .ref qn9, .ref qn10, .ref qn11, .ref qn12, .ref qn13, .ref qn14, .ref qn15, .ref qn16, .null, .null, .int 0])), (qn1, .inl (cA 0, 326, .inl (fun _ => 0))), (qn2, .inl (cA 0, 326, .inl (fun _ => 0))), (qn3, .inl (cA 0, 326, .inl (fun _ => 0))), (qn4, .inl (cA 0, 3260, .inl (fun _ => 0))), (qn5, .inl (cA 1, 10, .inr (.inl (fun _ => 0)))), (qn6, .inl (cA 0, 700, .inl (fun _ => 0))), (qn7, .inl (cA 1, 15, .inr (.inl (fun _ => 0)))), (qn8, .inl (cA 1, 10, .inr (.inl (fun _ => 0)))), (qn9, .inl (cA 1, 10, .inr (.inl (fun _ => 0)))), (qn10, .inl (cA 1, 8, .inr (.inl (fun _ => 0)))), (qn11, .inl (cA 1, 8, .inr (.inl (fun _ => 0)))), (qn12, .inl (cA 0, 400, .inl (fun _ => 0))), (qn13, .inl (cA 0, 400, .inl (fun _ => 0))), (qn14, .inl (cA 0, 11, .inl (fun _ => 0))), (qn15, .inl (cA 0, 11, .inl (fun _ => 0))), (qn16, .inl (cA 4, 400, .inl (fun _ => 0))), (qn17, .inl (cA 0, 10, .inl (fun _ => 0)))] H := hP
  have hD : va_D A [(w0, .inr (11, [.ref qn1, .ref qn2, .ref qn3, .ref qn4, .ref qn5, .long 0, .long 0, .int 0, .int 0, .ref qn6, .int 0, .int 0, .int (-1), .ref qn7, .int 0, .int 0, .int 0, .int 0, .int 0, .int 0, .int 0, .int 0, .int 0, .int 0, .int 0, .long 0, .int 0, .ref qn8, .ref qn9, .ref qn10, .ref qn11, .ref qn12, .ref qn13, .ref qn14, .ref qn15, .ref qn16, .null, .null, .int 0])), (qn1, .inl (cA 0, 326, .inl (fun _ => 0))), (qn2, .inl (cA 0, 326, .inl (fun _ => 0))), (qn3, .inl (cA 0, 326, .inl (fun _ => 0))), (qn4, .inl (cA 0, 3260, .inl (fun _ => 0))), (qn5, .inl (cA 1, 10, .inr (.inl (fun _ => 0)))), (qn6, .inl (cA 0, 700, .inl (fun _ => 0))), (qn7, .inl (cA 1, 15, .inr (.inl (fun _ => 0)))), (qn8, .inl (cA 1, 10, .inr (.inl (fun _ => 0)))), (qn9, .inl (cA 1, 10, .inr (.inl (fun _ => 0)))), (qn10, .inl (cA 1, 8, .inr (.inl (fun _ => 0)))), (qn11, .inl (cA 1, 8, .inr (.inl (fun _ => 0)))), (qn12, .inl (cA 0, 400, .inl (fun _ => 0))), (qn13, .inl (cA 0, 400, .inl (fun _ => 0))), (qn14, .inl (cA 0, 11, .inl (fun _ => 0))), (qn15, .inl (cA 0, 11, .inl (fun _ => 0))), (qn16, .inl (cA 4, 400, .inl (fun _ => 0))), (qn17, .inl (cA 0, 10, .inl (fun _ => 0)))] := hD
  refine va_putF (D := D) (ci := 11) (v := .ref qn17) (ty := (.array .int)) (C := RX10) (T := TX10) (N := 39) hx hb hts inX10 tyX10 tyX10_ok nmX10 hown hK hP hD hS 0 rfl rfl 36 (by decide) (hts (.fieldLink RX10 64 "EscrowDeskModel" "order" "[I") (by decide +kernel)) (fun _ h9 => h9) rfl hin rfl (by decide +kernel) rfl rfl (Nat.le_of_ble_eq_true rfl) dX10_init_150 (fun H locs hP hD hS => ?_)
  have hP : va_P D vwCl [(w0, .inr (11, [.ref qn1, .ref qn2, .ref qn3, .ref qn4, .ref qn5, .long 0, .long 0, .int 0, .int 0, .ref qn6, .int 0, .int 0, .int (-1), .ref qn7, .int 0, .int 0, .int 0, .int 0, .int 0, .int 0, .int 0, .int 0, .int 0, .int 0, .int 0, .long 0, .int 0, .ref qn8, .ref qn9, .ref qn10, .ref qn11, .ref qn12, .ref qn13, .ref qn14, .ref qn15, .ref qn16, .ref qn17, .null, .int 0])), (qn1, .inl (cA 0, 326, .inl (fun _ => 0))), (qn2, .inl (cA 0, 326, .inl (fun _ => 0))), (qn3, .inl (cA 0, 326, .inl (fun _ => 0))), (qn4, .inl (cA 0, 3260, .inl (fun _ => 0))), (qn5, .inl (cA 1, 10, .inr (.inl (fun _ => 0)))), (qn6, .inl (cA 0, 700, .inl (fun _ => 0))), (qn7, .inl (cA 1, 15, .inr (.inl (fun _ => 0)))), (qn8, .inl (cA 1, 10, .inr (.inl (fun _ => 0)))), (qn9, .inl (cA 1, 10, .inr (.inl (fun _ => 0)))), (qn10, .inl (cA 1, 8, .inr (.inl (fun _ => 0)))), (qn11, .inl (cA 1, 8, .inr (.inl (fun _ => 0)))), (qn12, .inl (cA 0, 400, .inl (fun _ => 0))), (qn13, .inl (cA 0, 400, .inl (fun _ => 0))), (qn14, .inl (cA 0, 11, .inl (fun _ => 0))), (qn15, .inl (cA 0, 11, .inl (fun _ => 0))), (qn16, .inl (cA 4, 400, .inl (fun _ => 0))), (qn17, .inl (cA 0, 10, .inl (fun _ => 0)))] H := hP
  have hD : va_D A [(w0, .inr (11, [.ref qn1, .ref qn2, .ref qn3, .ref qn4, .ref qn5, .long 0, .long 0, .int 0, .int 0, .ref qn6, .int 0, .int 0, .int (-1), .ref qn7, .int 0, .int 0, .int 0, .int 0, .int 0, .int 0, .int 0, .int 0, .int 0, .int 0, .int 0, .long 0, .int 0, .ref qn8, .ref qn9, .ref qn10, .ref qn11, .ref qn12, .ref qn13, .ref qn14, .ref qn15, .ref qn16, .ref qn17, .null, .int 0])), (qn1, .inl (cA 0, 326, .inl (fun _ => 0))), (qn2, .inl (cA 0, 326, .inl (fun _ => 0))), (qn3, .inl (cA 0, 326, .inl (fun _ => 0))), (qn4, .inl (cA 0, 3260, .inl (fun _ => 0))), (qn5, .inl (cA 1, 10, .inr (.inl (fun _ => 0)))), (qn6, .inl (cA 0, 700, .inl (fun _ => 0))), (qn7, .inl (cA 1, 15, .inr (.inl (fun _ => 0)))), (qn8, .inl (cA 1, 10, .inr (.inl (fun _ => 0)))), (qn9, .inl (cA 1, 10, .inr (.inl (fun _ => 0)))), (qn10, .inl (cA 1, 8, .inr (.inl (fun _ => 0)))), (qn11, .inl (cA 1, 8, .inr (.inl (fun _ => 0)))), (qn12, .inl (cA 0, 400, .inl (fun _ => 0))), (qn13, .inl (cA 0, 400, .inl (fun _ => 0))), (qn14, .inl (cA 0, 11, .inl (fun _ => 0))), (qn15, .inl (cA 0, 11, .inl (fun _ => 0))), (qn16, .inl (cA 4, 400, .inl (fun _ => 0))), (qn17, .inl (cA 0, 10, .inl (fun _ => 0)))] := hD
  refine lv_aload_n hx hb dX10_init_153 rfl (lv_at hl 0 rfl) ?_
  refine lv_bipush (v := 100) hx hb dX10_init_154 (by decide) ?_
  refine va_newa (atype := .int) (ty := .int) (N' := 100) (a0 := (100, .inl (fun _ => 0))) hx hb (hts (.arrayClass .int) (by decide +kernel)) rfl hK hP hD hS hA (fun _ => rfl) (by decide) (by decide +kernel) (Nat.le_of_ble_eq_true rfl) (Nat.le_of_ble_eq_true rfl) (Nat.le_of_ble_eq_true rfl) dX10_init_156 (fun qn18 c9 H hK9 hP hD hS => ?_)
  obtain rfl : c9 = cA 0 := ty_one hK9 0 rfl
  have hP : va_P D vwCl [(w0, .inr (11, [.ref qn1, .ref qn2, .ref qn3, .ref qn4, .ref qn5, .long 0, .long 0, .int 0, .int 0, .ref qn6, .int 0, .int 0, .int (-1), .ref qn7, .int 0, .int 0, .int 0, .int 0, .int 0, .int 0, .int 0, .int 0, .int 0, .int 0, .int 0, .long 0, .int 0, .ref qn8, .ref qn9, .ref qn10, .ref qn11, .ref qn12, .ref qn13, .ref qn14, .ref qn15, .ref qn16, .ref qn17, .null, .int 0])), (qn1, .inl (cA 0, 326, .inl (fun _ => 0))), (qn2, .inl (cA 0, 326, .inl (fun _ => 0))), (qn3, .inl (cA 0, 326, .inl (fun _ => 0))), (qn4, .inl (cA 0, 3260, .inl (fun _ => 0))), (qn5, .inl (cA 1, 10, .inr (.inl (fun _ => 0)))), (qn6, .inl (cA 0, 700, .inl (fun _ => 0))), (qn7, .inl (cA 1, 15, .inr (.inl (fun _ => 0)))), (qn8, .inl (cA 1, 10, .inr (.inl (fun _ => 0)))), (qn9, .inl (cA 1, 10, .inr (.inl (fun _ => 0)))), (qn10, .inl (cA 1, 8, .inr (.inl (fun _ => 0)))), (qn11, .inl (cA 1, 8, .inr (.inl (fun _ => 0)))), (qn12, .inl (cA 0, 400, .inl (fun _ => 0))), (qn13, .inl (cA 0, 400, .inl (fun _ => 0))), (qn14, .inl (cA 0, 11, .inl (fun _ => 0))), (qn15, .inl (cA 0, 11, .inl (fun _ => 0))), (qn16, .inl (cA 4, 400, .inl (fun _ => 0))), (qn17, .inl (cA 0, 10, .inl (fun _ => 0))), (qn18, .inl (cA 0, 100, .inl (fun _ => 0)))] H := hP
  have hD : va_D A [(w0, .inr (11, [.ref qn1, .ref qn2, .ref qn3, .ref qn4, .ref qn5, .long 0, .long 0, .int 0, .int 0, .ref qn6, .int 0, .int 0, .int (-1), .ref qn7, .int 0, .int 0, .int 0, .int 0, .int 0, .int 0, .int 0, .int 0, .int 0, .int 0, .int 0, .long 0, .int 0, .ref qn8, .ref qn9, .ref qn10, .ref qn11, .ref qn12, .ref qn13, .ref qn14, .ref qn15, .ref qn16, .ref qn17, .null, .int 0])), (qn1, .inl (cA 0, 326, .inl (fun _ => 0))), (qn2, .inl (cA 0, 326, .inl (fun _ => 0))), (qn3, .inl (cA 0, 326, .inl (fun _ => 0))), (qn4, .inl (cA 0, 3260, .inl (fun _ => 0))), (qn5, .inl (cA 1, 10, .inr (.inl (fun _ => 0)))), (qn6, .inl (cA 0, 700, .inl (fun _ => 0))), (qn7, .inl (cA 1, 15, .inr (.inl (fun _ => 0)))), (qn8, .inl (cA 1, 10, .inr (.inl (fun _ => 0)))), (qn9, .inl (cA 1, 10, .inr (.inl (fun _ => 0)))), (qn10, .inl (cA 1, 8, .inr (.inl (fun _ => 0)))), (qn11, .inl (cA 1, 8, .inr (.inl (fun _ => 0)))), (qn12, .inl (cA 0, 400, .inl (fun _ => 0))), (qn13, .inl (cA 0, 400, .inl (fun _ => 0))), (qn14, .inl (cA 0, 11, .inl (fun _ => 0))), (qn15, .inl (cA 0, 11, .inl (fun _ => 0))), (qn16, .inl (cA 4, 400, .inl (fun _ => 0))), (qn17, .inl (cA 0, 10, .inl (fun _ => 0))), (qn18, .inl (cA 0, 100, .inl (fun _ => 0)))] := hD
  refine va_putF (D := D) (ci := 11) (v := .ref qn18) (ty := (.array .int)) (C := RX10) (T := TX10) (N := 39) hx hb hts inX10 tyX10 tyX10_ok nmX10 hown hK hP hD hS 0 rfl rfl 37 (by decide) (hts (.fieldLink RX10 67 "EscrowDeskModel" "output" "[I") (by decide +kernel)) (fun _ h9 => h9) rfl hin rfl (by decide +kernel) rfl rfl (Nat.le_of_ble_eq_true rfl) dX10_init_158 (fun H locs hP hD hS => ?_)
  have hP : va_P D vwCl [(w0, .inr (11, [.ref qn1, .ref qn2, .ref qn3, .ref qn4, .ref qn5, .long 0, .long 0, .int 0, .int 0, .ref qn6, .int 0, .int 0, .int (-1), .ref qn7, .int 0, .int 0, .int 0, .int 0, .int 0, .int 0, .int 0, .int 0, .int 0, .int 0, .int 0, .long 0, .int 0, .ref qn8, .ref qn9, .ref qn10, .ref qn11, .ref qn12, .ref qn13, .ref qn14, .ref qn15, .ref qn16, .ref qn17, .ref qn18, .int 0])), (qn1, .inl (cA 0, 326, .inl (fun _ => 0))), (qn2, .inl (cA 0, 326, .inl (fun _ => 0))), (qn3, .inl (cA 0, 326, .inl (fun _ => 0))), (qn4, .inl (cA 0, 3260, .inl (fun _ => 0))), (qn5, .inl (cA 1, 10, .inr (.inl (fun _ => 0)))), (qn6, .inl (cA 0, 700, .inl (fun _ => 0))), (qn7, .inl (cA 1, 15, .inr (.inl (fun _ => 0)))), (qn8, .inl (cA 1, 10, .inr (.inl (fun _ => 0)))), (qn9, .inl (cA 1, 10, .inr (.inl (fun _ => 0)))), (qn10, .inl (cA 1, 8, .inr (.inl (fun _ => 0)))), (qn11, .inl (cA 1, 8, .inr (.inl (fun _ => 0)))), (qn12, .inl (cA 0, 400, .inl (fun _ => 0))), (qn13, .inl (cA 0, 400, .inl (fun _ => 0))), (qn14, .inl (cA 0, 11, .inl (fun _ => 0))), (qn15, .inl (cA 0, 11, .inl (fun _ => 0))), (qn16, .inl (cA 4, 400, .inl (fun _ => 0))), (qn17, .inl (cA 0, 10, .inl (fun _ => 0))), (qn18, .inl (cA 0, 100, .inl (fun _ => 0)))] H := hP
  have hD : va_D A [(w0, .inr (11, [.ref qn1, .ref qn2, .ref qn3, .ref qn4, .ref qn5, .long 0, .long 0, .int 0, .int 0, .ref qn6, .int 0, .int 0, .int (-1), .ref qn7, .int 0, .int 0, .int 0, .int 0, .int 0, .int 0, .int 0, .int 0, .int 0, .int 0, .int 0, .long 0, .int 0, .ref qn8, .ref qn9, .ref qn10, .ref qn11, .ref qn12, .ref qn13, .ref qn14, .ref qn15, .ref qn16, .ref qn17, .ref qn18, .int 0])), (qn1, .inl (cA 0, 326, .inl (fun _ => 0))), (qn2, .inl (cA 0, 326, .inl (fun _ => 0))), (qn3, .inl (cA 0, 326, .inl (fun _ => 0))), (qn4, .inl (cA 0, 3260, .inl (fun _ => 0))), (qn5, .inl (cA 1, 10, .inr (.inl (fun _ => 0)))), (qn6, .inl (cA 0, 700, .inl (fun _ => 0))), (qn7, .inl (cA 1, 15, .inr (.inl (fun _ => 0)))), (qn8, .inl (cA 1, 10, .inr (.inl (fun _ => 0)))), (qn9, .inl (cA 1, 10, .inr (.inl (fun _ => 0)))), (qn10, .inl (cA 1, 8, .inr (.inl (fun _ => 0)))), (qn11, .inl (cA 1, 8, .inr (.inl (fun _ => 0)))), (qn12, .inl (cA 0, 400, .inl (fun _ => 0))), (qn13, .inl (cA 0, 400, .inl (fun _ => 0))), (qn14, .inl (cA 0, 11, .inl (fun _ => 0))), (qn15, .inl (cA 0, 11, .inl (fun _ => 0))), (qn16, .inl (cA 4, 400, .inl (fun _ => 0))), (qn17, .inl (cA 0, 10, .inl (fun _ => 0))), (qn18, .inl (cA 0, 100, .inl (fun _ => 0)))] := hD
  refine lv_iconst (v := 0) hx hb dX10_init_161 (by decide) ?_
  refine lv_istore_n (lv' := [(1, .int 0), (0, .ref w0)]) hx hb dX10_init_162 rfl hl (by decide) rfl (fun ls hl => ?_)
  refine lv_iload_n hx hb dX10_init_163 rfl (lv_at hl 0 rfl) ?_
  refine lv_bipush (v := 15) hx hb dX10_init_164 (by decide) ?_
  refine lv_icmp_ge (tgt := 187) hx hb dX10_init_166 (by decide) (fun c9 => absurd c9 (by decide)) (fun c19 => ?_)
  refine lv_aload_n hx hb dX10_init_169 rfl (lv_at hl 1 rfl) ?_
  refine va_get (D := D) (ci := 11) (v := .ref qn7) (C := RX10) (T := TX10) (N := 39) hx hb hts inX10 hown hK hP 0 rfl rfl 13 (by decide) (hts (.fieldLink RX10 33 "EscrowDeskModel" "keywords" "[J") (by decide +kernel)) (fun _ h9 => h9) rfl dX10_init_170 ?_
  refine lv_iload_n hx hb dX10_init_173 rfl (lv_at hl 0 rfl) ?_
  refine va_ldcS hx hb hown (hC.str 24 rfl) dX10_init_174 ?_
  refine lv_iload_n hx hb dX10_init_176 rfl (lv_at hl 0 rfl) ?_
  have hPc := hP.sub (ws' := []) [] rfl
  have hDc := hD.sub (ws' := []) [] (by decide) rfl
  have hFc := va_free (wc := []) hD hS hA [] rfl
  refine va_calll (va_runS (As := [.ref (sa 24), .int 0]) (rest := [.int 0, .ref qn7]) ⟨hx, hb, hml, hown, hts⟩ (c_m_wordAt l D cA sa 24 0 ([114, 97, 116, 101, 32, 102, 101, 101, 32, 103, 114, 97, 99, 101, 32, 100, 101, 112, 111, 115, 105, 116, 32, 109, 105, 108, 101, 115, 116, 111, 110, 101, 32, 119, 104, 101, 110, 32, 111, 114, 32, 97, 110, 100, 32, 110, 111, 116, 32, 100, 97, 121, 32, 112, 114, 111, 111, 102, 32, 100, 111, 110, 101, 32, 115, 117, 109, 32, 97, 112, 112, 114, 111, 118, 101, 100, 32, 97, 108, 119, 97, 121, 115, 32]) H.size (by decide +kernel) (by decide +kernel)) (va_cwS 2 hts gX10_init_X10_wordAt rfl rfl rfl (by decide +kernel) ⟨(Nat.le_of_ble_eq_true rfl), (Nat.le_of_ble_eq_true rfl)⟩) ⟨Wd.blind, fun U hU hW => ⟨rfl, Wd.call hPc hDc hK hC hZ hS hFc U hU hW⟩⟩ rfl rfl hl.1 rfl (lv_room (Nat.le_of_ble_eq_true rfl)) dX10_init_177 ⟨(Nat.le_of_ble_eq_true rfl), (Nat.le_of_ble_eq_true rfl)⟩) hS (fun q _ h => hFc q h) hFc (fun rn20 u t H1 locs ht hvm hw hB hz1 hk1 hS => ?_)
  obtain ⟨hP1, hD1⟩ := hB
  rw [ht] at hP1
  obtain ⟨hP, hD⟩ := va_join (wr := [(w0, .inr (11, [.ref qn1, .ref qn2, .ref qn3, .ref qn4, .ref qn5, .long 0, .long 0, .int 0, .int 0, .ref qn6, .int 0, .int 0, .int (-1), .ref qn7, .int 0, .int 0, .int 0, .int 0, .int 0, .int 0, .int 0, .int 0, .int 0, .int 0, .int 0, .long 0, .int 0, .ref qn8, .ref qn9, .ref qn10, .ref qn11, .ref qn12, .ref qn13, .ref qn14, .ref qn15, .ref qn16, .ref qn17, .ref qn18, .int 0])), (qn1, .inl (cA 0, 326, .inl (fun _ => 0))), (qn2, .inl (cA 0, 326, .inl (fun _ => 0))), (qn3, .inl (cA 0, 326, .inl (fun _ => 0))), (qn4, .inl (cA 0, 3260, .inl (fun _ => 0))), (qn5, .inl (cA 1, 10, .inr (.inl (fun _ => 0)))), (qn6, .inl (cA 0, 700, .inl (fun _ => 0))), (qn7, .inl (cA 1, 15, .inr (.inl (fun _ => 0)))), (qn8, .inl (cA 1, 10, .inr (.inl (fun _ => 0)))), (qn9, .inl (cA 1, 10, .inr (.inl (fun _ => 0)))), (qn10, .inl (cA 1, 8, .inr (.inl (fun _ => 0)))), (qn11, .inl (cA 1, 8, .inr (.inl (fun _ => 0)))), (qn12, .inl (cA 0, 400, .inl (fun _ => 0))), (qn13, .inl (cA 0, 400, .inl (fun _ => 0))), (qn14, .inl (cA 0, 11, .inl (fun _ => 0))), (qn15, .inl (cA 0, 11, .inl (fun _ => 0))), (qn16, .inl (cA 4, 400, .inl (fun _ => 0))), (qn17, .inl (cA 0, 10, .inl (fun _ => 0))), (qn18, .inl (cA 0, 100, .inl (fun _ => 0)))]) (w1 := []) hP hD [] [0, 1, 2, 3, 4, 5, 6, 7, 8, 9, 10, 11, 12, 13, 14, 15, 16, 17, 18] rfl rfl (by decide) (by decide) hk1 hFc hP1 hD1
  generalize H1 = H at hP hS ⊢
  have hP : va_P D vwCl [(w0, .inr (11, [.ref qn1, .ref qn2, .ref qn3, .ref qn4, .ref qn5, .long 0, .long 0, .int 0, .int 0, .ref qn6, .int 0, .int 0, .int (-1), .ref qn7, .int 0, .int 0, .int 0, .int 0, .int 0, .int 0, .int 0, .int 0, .int 0, .int 0, .int 0, .long 0, .int 0, .ref qn8, .ref qn9, .ref qn10, .ref qn11, .ref qn12, .ref qn13, .ref qn14, .ref qn15, .ref qn16, .ref qn17, .ref qn18, .int 0])), (qn1, .inl (cA 0, 326, .inl (fun _ => 0))), (qn2, .inl (cA 0, 326, .inl (fun _ => 0))), (qn3, .inl (cA 0, 326, .inl (fun _ => 0))), (qn4, .inl (cA 0, 3260, .inl (fun _ => 0))), (qn5, .inl (cA 1, 10, .inr (.inl (fun _ => 0)))), (qn6, .inl (cA 0, 700, .inl (fun _ => 0))), (qn7, .inl (cA 1, 15, .inr (.inl (fun _ => 0)))), (qn8, .inl (cA 1, 10, .inr (.inl (fun _ => 0)))), (qn9, .inl (cA 1, 10, .inr (.inl (fun _ => 0)))), (qn10, .inl (cA 1, 8, .inr (.inl (fun _ => 0)))), (qn11, .inl (cA 1, 8, .inr (.inl (fun _ => 0)))), (qn12, .inl (cA 0, 400, .inl (fun _ => 0))), (qn13, .inl (cA 0, 400, .inl (fun _ => 0))), (qn14, .inl (cA 0, 11, .inl (fun _ => 0))), (qn15, .inl (cA 0, 11, .inl (fun _ => 0))), (qn16, .inl (cA 4, 400, .inl (fun _ => 0))), (qn17, .inl (cA 0, 10, .inl (fun _ => 0))), (qn18, .inl (cA 0, 100, .inl (fun _ => 0)))] H := hP
  have hD : va_D A [(w0, .inr (11, [.ref qn1, .ref qn2, .ref qn3, .ref qn4, .ref qn5, .long 0, .long 0, .int 0, .int 0, .ref qn6, .int 0, .int 0, .int (-1), .ref qn7, .int 0, .int 0, .int 0, .int 0, .int 0, .int 0, .int 0, .int 0, .int 0, .int 0, .int 0, .long 0, .int 0, .ref qn8, .ref qn9, .ref qn10, .ref qn11, .ref qn12, .ref qn13, .ref qn14, .ref qn15, .ref qn16, .ref qn17, .ref qn18, .int 0])), (qn1, .inl (cA 0, 326, .inl (fun _ => 0))), (qn2, .inl (cA 0, 326, .inl (fun _ => 0))), (qn3, .inl (cA 0, 326, .inl (fun _ => 0))), (qn4, .inl (cA 0, 3260, .inl (fun _ => 0))), (qn5, .inl (cA 1, 10, .inr (.inl (fun _ => 0)))), (qn6, .inl (cA 0, 700, .inl (fun _ => 0))), (qn7, .inl (cA 1, 15, .inr (.inl (fun _ => 0)))), (qn8, .inl (cA 1, 10, .inr (.inl (fun _ => 0)))), (qn9, .inl (cA 1, 10, .inr (.inl (fun _ => 0)))), (qn10, .inl (cA 1, 8, .inr (.inl (fun _ => 0)))), (qn11, .inl (cA 1, 8, .inr (.inl (fun _ => 0)))), (qn12, .inl (cA 0, 400, .inl (fun _ => 0))), (qn13, .inl (cA 0, 400, .inl (fun _ => 0))), (qn14, .inl (cA 0, 11, .inl (fun _ => 0))), (qn15, .inl (cA 0, 11, .inl (fun _ => 0))), (qn16, .inl (cA 4, 400, .inl (fun _ => 0))), (qn17, .inl (cA 0, 10, .inl (fun _ => 0))), (qn18, .inl (cA 0, 100, .inl (fun _ => 0)))] := hD
  refine va_last hx hb hK hP hD hS 7 1 rfl rfl (vp_in_iff.mpr (by decide)) dX10_init_180 (fun H locs hP hD hS => ?_)
  have hP : va_P D vwCl [(w0, .inr (11, [.ref qn1, .ref qn2, .ref qn3, .ref qn4, .ref qn5, .long 0, .long 0, .int 0, .int 0, .ref qn6, .int 0, .int 0, .int (-1), .ref qn7, .int 0, .int 0, .int 0, .int 0, .int 0, .int 0, .int 0, .int 0, .int 0, .int 0, .int 0, .long 0, .int 0, .ref qn8, .ref qn9, .ref qn10, .ref qn11, .ref qn12, .ref qn13, .ref qn14, .ref qn15, .ref qn16, .ref qn17, .ref qn18, .int 0])), (qn1, .inl (cA 0, 326, .inl (fun _ => 0))), (qn2, .inl (cA 0, 326, .inl (fun _ => 0))), (qn3, .inl (cA 0, 326, .inl (fun _ => 0))), (qn4, .inl (cA 0, 3260, .inl (fun _ => 0))), (qn5, .inl (cA 1, 10, .inr (.inl (fun _ => 0)))), (qn6, .inl (cA 0, 700, .inl (fun _ => 0))), (qn7, .inl (cA 1, 15, .inr (.inl (vp_updL (fun _ => 0) 0 rn20)))), (qn8, .inl (cA 1, 10, .inr (.inl (fun _ => 0)))), (qn9, .inl (cA 1, 10, .inr (.inl (fun _ => 0)))), (qn10, .inl (cA 1, 8, .inr (.inl (fun _ => 0)))), (qn11, .inl (cA 1, 8, .inr (.inl (fun _ => 0)))), (qn12, .inl (cA 0, 400, .inl (fun _ => 0))), (qn13, .inl (cA 0, 400, .inl (fun _ => 0))), (qn14, .inl (cA 0, 11, .inl (fun _ => 0))), (qn15, .inl (cA 0, 11, .inl (fun _ => 0))), (qn16, .inl (cA 4, 400, .inl (fun _ => 0))), (qn17, .inl (cA 0, 10, .inl (fun _ => 0))), (qn18, .inl (cA 0, 100, .inl (fun _ => 0)))] H := hP
  have hD : va_D A [(w0, .inr (11, [.ref qn1, .ref qn2, .ref qn3, .ref qn4, .ref qn5, .long 0, .long 0, .int 0, .int 0, .ref qn6, .int 0, .int 0, .int (-1), .ref qn7, .int 0, .int 0, .int 0, .int 0, .int 0, .int 0, .int 0, .int 0, .int 0, .int 0, .int 0, .long 0, .int 0, .ref qn8, .ref qn9, .ref qn10, .ref qn11, .ref qn12, .ref qn13, .ref qn14, .ref qn15, .ref qn16, .ref qn17, .ref qn18, .int 0])), (qn1, .inl (cA 0, 326, .inl (fun _ => 0))), (qn2, .inl (cA 0, 326, .inl (fun _ => 0))), (qn3, .inl (cA 0, 326, .inl (fun _ => 0))), (qn4, .inl (cA 0, 3260, .inl (fun _ => 0))), (qn5, .inl (cA 1, 10, .inr (.inl (fun _ => 0)))), (qn6, .inl (cA 0, 700, .inl (fun _ => 0))), (qn7, .inl (cA 1, 15, .inr (.inl (vp_updL (fun _ => 0) 0 rn20)))), (qn8, .inl (cA 1, 10, .inr (.inl (fun _ => 0)))), (qn9, .inl (cA 1, 10, .inr (.inl (fun _ => 0)))), (qn10, .inl (cA 1, 8, .inr (.inl (fun _ => 0)))), (qn11, .inl (cA 1, 8, .inr (.inl (fun _ => 0)))), (qn12, .inl (cA 0, 400, .inl (fun _ => 0))), (qn13, .inl (cA 0, 400, .inl (fun _ => 0))), (qn14, .inl (cA 0, 11, .inl (fun _ => 0))), (qn15, .inl (cA 0, 11, .inl (fun _ => 0))), (qn16, .inl (cA 4, 400, .inl (fun _ => 0))), (qn17, .inl (cA 0, 10, .inl (fun _ => 0))), (qn18, .inl (cA 0, 100, .inl (fun _ => 0)))] := hD
  generalize (vp_updL (fun _ => 0) 0 rn20) = fn21 at hP hD
  have hP : va_P D vwCl [(w0, .inr (11, [.ref qn1, .ref qn2, .ref qn3, .ref qn4, .ref qn5, .long 0, .long 0, .int 0, .int 0, .ref qn6, .int 0, .int 0, .int (-1), .ref qn7, .int 0, .int 0, .int 0, .int 0, .int 0, .int 0, .int 0, .int 0, .int 0, .int 0, .int 0, .long 0, .int 0, .ref qn8, .ref qn9, .ref qn10, .ref qn11, .ref qn12, .ref qn13, .ref qn14, .ref qn15, .ref qn16, .ref qn17, .ref qn18, .int 0])), (qn1, .inl (cA 0, 326, .inl (fun _ => 0))), (qn2, .inl (cA 0, 326, .inl (fun _ => 0))), (qn3, .inl (cA 0, 326, .inl (fun _ => 0))), (qn4, .inl (cA 0, 3260, .inl (fun _ => 0))), (qn5, .inl (cA 1, 10, .inr (.inl (fun _ => 0)))), (qn6, .inl (cA 0, 700, .inl (fun _ => 0))), (qn7, .inl (cA 1, 15, .inr (.inl fn21))), (qn8, .inl (cA 1, 10, .inr (.inl (fun _ => 0)))), (qn9, .inl (cA 1, 10, .inr (.inl (fun _ => 0)))), (qn10, .inl (cA 1, 8, .inr (.inl (fun _ => 0)))), (qn11, .inl (cA 1, 8, .inr (.inl (fun _ => 0)))), (qn12, .inl (cA 0, 400, .inl (fun _ => 0))), (qn13, .inl (cA 0, 400, .inl (fun _ => 0))), (qn14, .inl (cA 0, 11, .inl (fun _ => 0))), (qn15, .inl (cA 0, 11, .inl (fun _ => 0))), (qn16, .inl (cA 4, 400, .inl (fun _ => 0))), (qn17, .inl (cA 0, 10, .inl (fun _ => 0))), (qn18, .inl (cA 0, 100, .inl (fun _ => 0)))] H := hP
  have hD : va_D A [(w0, .inr (11, [.ref qn1, .ref qn2, .ref qn3, .ref qn4, .ref qn5, .long 0, .long 0, .int 0, .int 0, .ref qn6, .int 0, .int 0, .int (-1), .ref qn7, .int 0, .int 0, .int 0, .int 0, .int 0, .int 0, .int 0, .int 0, .int 0, .int 0, .int 0, .long 0, .int 0, .ref qn8, .ref qn9, .ref qn10, .ref qn11, .ref qn12, .ref qn13, .ref qn14, .ref qn15, .ref qn16, .ref qn17, .ref qn18, .int 0])), (qn1, .inl (cA 0, 326, .inl (fun _ => 0))), (qn2, .inl (cA 0, 326, .inl (fun _ => 0))), (qn3, .inl (cA 0, 326, .inl (fun _ => 0))), (qn4, .inl (cA 0, 3260, .inl (fun _ => 0))), (qn5, .inl (cA 1, 10, .inr (.inl (fun _ => 0)))), (qn6, .inl (cA 0, 700, .inl (fun _ => 0))), (qn7, .inl (cA 1, 15, .inr (.inl fn21))), (qn8, .inl (cA 1, 10, .inr (.inl (fun _ => 0)))), (qn9, .inl (cA 1, 10, .inr (.inl (fun _ => 0)))), (qn10, .inl (cA 1, 8, .inr (.inl (fun _ => 0)))), (qn11, .inl (cA 1, 8, .inr (.inl (fun _ => 0)))), (qn12, .inl (cA 0, 400, .inl (fun _ => 0))), (qn13, .inl (cA 0, 400, .inl (fun _ => 0))), (qn14, .inl (cA 0, 11, .inl (fun _ => 0))), (qn15, .inl (cA 0, 11, .inl (fun _ => 0))), (qn16, .inl (cA 4, 400, .inl (fun _ => 0))), (qn17, .inl (cA 0, 10, .inl (fun _ => 0))), (qn18, .inl (cA 0, 100, .inl (fun _ => 0)))] := hD
  refine lv_iinc (v := 1) (lv' := [(1, .int 1), (0, .ref w0)]) hx hb dX10_init_181 hl (k := 0) rfl (by first | rfl | decide +kernel) (by decide) rfl (fun ls hl => ?_)
  refine lv_goto (tgt := 163) hx hb dX10_init_184 (by decide) ?_
  refine lv_iload_n hx hb dX10_init_163 rfl (lv_at hl 0 rfl) ?_
  refine lv_bipush (v := 15) hx hb dX10_init_164 (by decide) ?_
  refine lv_icmp_ge (tgt := 187) hx hb dX10_init_166 (by decide) (fun c9 => absurd c9 (by decide)) (fun c22 => ?_)
  refine lv_aload_n hx hb dX10_init_169 rfl (lv_at hl 1 rfl) ?_
  refine va_get (D := D) (ci := 11) (v := .ref qn7) (C := RX10) (T := TX10) (N := 39) hx hb hts inX10 hown hK hP 0 rfl rfl 13 (by decide) (hts (.fieldLink RX10 33 "EscrowDeskModel" "keywords" "[J") (by decide +kernel)) (fun _ h9 => h9) rfl dX10_init_170 ?_
  refine lv_iload_n hx hb dX10_init_173 rfl (lv_at hl 0 rfl) ?_
  refine va_ldcS hx hb hown (hC.str 24 rfl) dX10_init_174 ?_
  refine lv_iload_n hx hb dX10_init_176 rfl (lv_at hl 0 rfl) ?_
  have hPc := hP.sub (ws' := []) [] rfl
  have hDc := hD.sub (ws' := []) [] (by decide) rfl
  have hFc := va_free (wc := []) hD hS hA [] rfl
  refine va_calll (va_runS (As := [.ref (sa 24), .int 1]) (rest := [.int 1, .ref qn7]) ⟨hx, hb, hml, hown, hts⟩ (c_m_wordAt l D cA sa 24 1 ([114, 97, 116, 101, 32, 102, 101, 101, 32, 103, 114, 97, 99, 101, 32, 100, 101, 112, 111, 115, 105, 116, 32, 109, 105, 108, 101, 115, 116, 111, 110, 101, 32, 119, 104, 101, 110, 32, 111, 114, 32, 97, 110, 100, 32, 110, 111, 116, 32, 100, 97, 121, 32, 112, 114, 111, 111, 102, 32, 100, 111, 110, 101, 32, 115, 117, 109, 32, 97, 112, 112, 114, 111, 118, 101, 100, 32, 97, 108, 119, 97, 121, 115, 32]) H.size (by decide +kernel) (by decide +kernel)) (va_cwS 2 hts gX10_init_X10_wordAt rfl rfl rfl (by decide +kernel) ⟨(Nat.le_of_ble_eq_true rfl), (Nat.le_of_ble_eq_true rfl)⟩) ⟨Wd.blind, fun U hU hW => ⟨rfl, Wd.call hPc hDc hK hC hZ hS hFc U hU hW⟩⟩ rfl rfl hl.1 rfl (lv_room (Nat.le_of_ble_eq_true rfl)) dX10_init_177 ⟨(Nat.le_of_ble_eq_true rfl), (Nat.le_of_ble_eq_true rfl)⟩) hS (fun q _ h => hFc q h) hFc (fun rn23 u t H1 locs ht hvm hw hB hz1 hk1 hS => ?_)
  obtain ⟨hP1, hD1⟩ := hB
  rw [ht] at hP1
  obtain ⟨hP, hD⟩ := va_join (wr := [(w0, .inr (11, [.ref qn1, .ref qn2, .ref qn3, .ref qn4, .ref qn5, .long 0, .long 0, .int 0, .int 0, .ref qn6, .int 0, .int 0, .int (-1), .ref qn7, .int 0, .int 0, .int 0, .int 0, .int 0, .int 0, .int 0, .int 0, .int 0, .int 0, .int 0, .long 0, .int 0, .ref qn8, .ref qn9, .ref qn10, .ref qn11, .ref qn12, .ref qn13, .ref qn14, .ref qn15, .ref qn16, .ref qn17, .ref qn18, .int 0])), (qn1, .inl (cA 0, 326, .inl (fun _ => 0))), (qn2, .inl (cA 0, 326, .inl (fun _ => 0))), (qn3, .inl (cA 0, 326, .inl (fun _ => 0))), (qn4, .inl (cA 0, 3260, .inl (fun _ => 0))), (qn5, .inl (cA 1, 10, .inr (.inl (fun _ => 0)))), (qn6, .inl (cA 0, 700, .inl (fun _ => 0))), (qn7, .inl (cA 1, 15, .inr (.inl fn21))), (qn8, .inl (cA 1, 10, .inr (.inl (fun _ => 0)))), (qn9, .inl (cA 1, 10, .inr (.inl (fun _ => 0)))), (qn10, .inl (cA 1, 8, .inr (.inl (fun _ => 0)))), (qn11, .inl (cA 1, 8, .inr (.inl (fun _ => 0)))), (qn12, .inl (cA 0, 400, .inl (fun _ => 0))), (qn13, .inl (cA 0, 400, .inl (fun _ => 0))), (qn14, .inl (cA 0, 11, .inl (fun _ => 0))), (qn15, .inl (cA 0, 11, .inl (fun _ => 0))), (qn16, .inl (cA 4, 400, .inl (fun _ => 0))), (qn17, .inl (cA 0, 10, .inl (fun _ => 0))), (qn18, .inl (cA 0, 100, .inl (fun _ => 0)))]) (w1 := []) hP hD [] [0, 1, 2, 3, 4, 5, 6, 7, 8, 9, 10, 11, 12, 13, 14, 15, 16, 17, 18] rfl rfl (by decide) (by decide) hk1 hFc hP1 hD1
  generalize H1 = H at hP hS ⊢
  have hP : va_P D vwCl [(w0, .inr (11, [.ref qn1, .ref qn2, .ref qn3, .ref qn4, .ref qn5, .long 0, .long 0, .int 0, .int 0, .ref qn6, .int 0, .int 0, .int (-1), .ref qn7, .int 0, .int 0, .int 0, .int 0, .int 0, .int 0, .int 0, .int 0, .int 0, .int 0, .int 0, .long 0, .int 0, .ref qn8, .ref qn9, .ref qn10, .ref qn11, .ref qn12, .ref qn13, .ref qn14, .ref qn15, .ref qn16, .ref qn17, .ref qn18, .int 0])), (qn1, .inl (cA 0, 326, .inl (fun _ => 0))), (qn2, .inl (cA 0, 326, .inl (fun _ => 0))), (qn3, .inl (cA 0, 326, .inl (fun _ => 0))), (qn4, .inl (cA 0, 3260, .inl (fun _ => 0))), (qn5, .inl (cA 1, 10, .inr (.inl (fun _ => 0)))), (qn6, .inl (cA 0, 700, .inl (fun _ => 0))), (qn7, .inl (cA 1, 15, .inr (.inl fn21))), (qn8, .inl (cA 1, 10, .inr (.inl (fun _ => 0)))), (qn9, .inl (cA 1, 10, .inr (.inl (fun _ => 0)))), (qn10, .inl (cA 1, 8, .inr (.inl (fun _ => 0)))), (qn11, .inl (cA 1, 8, .inr (.inl (fun _ => 0)))), (qn12, .inl (cA 0, 400, .inl (fun _ => 0))), (qn13, .inl (cA 0, 400, .inl (fun _ => 0))), (qn14, .inl (cA 0, 11, .inl (fun _ => 0))), (qn15, .inl (cA 0, 11, .inl (fun _ => 0))), (qn16, .inl (cA 4, 400, .inl (fun _ => 0))), (qn17, .inl (cA 0, 10, .inl (fun _ => 0))), (qn18, .inl (cA 0, 100, .inl (fun _ => 0)))] H := hP
  have hD : va_D A [(w0, .inr (11, [.ref qn1, .ref qn2, .ref qn3, .ref qn4, .ref qn5, .long 0, .long 0, .int 0, .int 0, .ref qn6, .int 0, .int 0, .int (-1), .ref qn7, .int 0, .int 0, .int 0, .int 0, .int 0, .int 0, .int 0, .int 0, .int 0, .int 0, .int 0, .long 0, .int 0, .ref qn8, .ref qn9, .ref qn10, .ref qn11, .ref qn12, .ref qn13, .ref qn14, .ref qn15, .ref qn16, .ref qn17, .ref qn18, .int 0])), (qn1, .inl (cA 0, 326, .inl (fun _ => 0))), (qn2, .inl (cA 0, 326, .inl (fun _ => 0))), (qn3, .inl (cA 0, 326, .inl (fun _ => 0))), (qn4, .inl (cA 0, 3260, .inl (fun _ => 0))), (qn5, .inl (cA 1, 10, .inr (.inl (fun _ => 0)))), (qn6, .inl (cA 0, 700, .inl (fun _ => 0))), (qn7, .inl (cA 1, 15, .inr (.inl fn21))), (qn8, .inl (cA 1, 10, .inr (.inl (fun _ => 0)))), (qn9, .inl (cA 1, 10, .inr (.inl (fun _ => 0)))), (qn10, .inl (cA 1, 8, .inr (.inl (fun _ => 0)))), (qn11, .inl (cA 1, 8, .inr (.inl (fun _ => 0)))), (qn12, .inl (cA 0, 400, .inl (fun _ => 0))), (qn13, .inl (cA 0, 400, .inl (fun _ => 0))), (qn14, .inl (cA 0, 11, .inl (fun _ => 0))), (qn15, .inl (cA 0, 11, .inl (fun _ => 0))), (qn16, .inl (cA 4, 400, .inl (fun _ => 0))), (qn17, .inl (cA 0, 10, .inl (fun _ => 0))), (qn18, .inl (cA 0, 100, .inl (fun _ => 0)))] := hD
  refine va_last hx hb hK hP hD hS 7 1 rfl rfl (vp_in_iff.mpr (by decide)) dX10_init_180 (fun H locs hP hD hS => ?_)
  have hP : va_P D vwCl [(w0, .inr (11, [.ref qn1, .ref qn2, .ref qn3, .ref qn4, .ref qn5, .long 0, .long 0, .int 0, .int 0, .ref qn6, .int 0, .int 0, .int (-1), .ref qn7, .int 0, .int 0, .int 0, .int 0, .int 0, .int 0, .int 0, .int 0, .int 0, .int 0, .int 0, .long 0, .int 0, .ref qn8, .ref qn9, .ref qn10, .ref qn11, .ref qn12, .ref qn13, .ref qn14, .ref qn15, .ref qn16, .ref qn17, .ref qn18, .int 0])), (qn1, .inl (cA 0, 326, .inl (fun _ => 0))), (qn2, .inl (cA 0, 326, .inl (fun _ => 0))), (qn3, .inl (cA 0, 326, .inl (fun _ => 0))), (qn4, .inl (cA 0, 3260, .inl (fun _ => 0))), (qn5, .inl (cA 1, 10, .inr (.inl (fun _ => 0)))), (qn6, .inl (cA 0, 700, .inl (fun _ => 0))), (qn7, .inl (cA 1, 15, .inr (.inl (vp_updL fn21 1 rn23)))), (qn8, .inl (cA 1, 10, .inr (.inl (fun _ => 0)))), (qn9, .inl (cA 1, 10, .inr (.inl (fun _ => 0)))), (qn10, .inl (cA 1, 8, .inr (.inl (fun _ => 0)))), (qn11, .inl (cA 1, 8, .inr (.inl (fun _ => 0)))), (qn12, .inl (cA 0, 400, .inl (fun _ => 0))), (qn13, .inl (cA 0, 400, .inl (fun _ => 0))), (qn14, .inl (cA 0, 11, .inl (fun _ => 0))), (qn15, .inl (cA 0, 11, .inl (fun _ => 0))), (qn16, .inl (cA 4, 400, .inl (fun _ => 0))), (qn17, .inl (cA 0, 10, .inl (fun _ => 0))), (qn18, .inl (cA 0, 100, .inl (fun _ => 0)))] H := hP
  have hD : va_D A [(w0, .inr (11, [.ref qn1, .ref qn2, .ref qn3, .ref qn4, .ref qn5, .long 0, .long 0, .int 0, .int 0, .ref qn6, .int 0, .int 0, .int (-1), .ref qn7, .int 0, .int 0, .int 0, .int 0, .int 0, .int 0, .int 0, .int 0, .int 0, .int 0, .int 0, .long 0, .int 0, .ref qn8, .ref qn9, .ref qn10, .ref qn11, .ref qn12, .ref qn13, .ref qn14, .ref qn15, .ref qn16, .ref qn17, .ref qn18, .int 0])), (qn1, .inl (cA 0, 326, .inl (fun _ => 0))), (qn2, .inl (cA 0, 326, .inl (fun _ => 0))), (qn3, .inl (cA 0, 326, .inl (fun _ => 0))), (qn4, .inl (cA 0, 3260, .inl (fun _ => 0))), (qn5, .inl (cA 1, 10, .inr (.inl (fun _ => 0)))), (qn6, .inl (cA 0, 700, .inl (fun _ => 0))), (qn7, .inl (cA 1, 15, .inr (.inl (vp_updL fn21 1 rn23)))), (qn8, .inl (cA 1, 10, .inr (.inl (fun _ => 0)))), (qn9, .inl (cA 1, 10, .inr (.inl (fun _ => 0)))), (qn10, .inl (cA 1, 8, .inr (.inl (fun _ => 0)))), (qn11, .inl (cA 1, 8, .inr (.inl (fun _ => 0)))), (qn12, .inl (cA 0, 400, .inl (fun _ => 0))), (qn13, .inl (cA 0, 400, .inl (fun _ => 0))), (qn14, .inl (cA 0, 11, .inl (fun _ => 0))), (qn15, .inl (cA 0, 11, .inl (fun _ => 0))), (qn16, .inl (cA 4, 400, .inl (fun _ => 0))), (qn17, .inl (cA 0, 10, .inl (fun _ => 0))), (qn18, .inl (cA 0, 100, .inl (fun _ => 0)))] := hD
  generalize (vp_updL fn21 1 rn23) = fn24 at hP hD
  have hP : va_P D vwCl [(w0, .inr (11, [.ref qn1, .ref qn2, .ref qn3, .ref qn4, .ref qn5, .long 0, .long 0, .int 0, .int 0, .ref qn6, .int 0, .int 0, .int (-1), .ref qn7, .int 0, .int 0, .int 0, .int 0, .int 0, .int 0, .int 0, .int 0, .int 0, .int 0, .int 0, .long 0, .int 0, .ref qn8, .ref qn9, .ref qn10, .ref qn11, .ref qn12, .ref qn13, .ref qn14, .ref qn15, .ref qn16, .ref qn17, .ref qn18, .int 0])), (qn1, .inl (cA 0, 326, .inl (fun _ => 0))), (qn2, .inl (cA 0, 326, .inl (fun _ => 0))), (qn3, .inl (cA 0, 326, .inl (fun _ => 0))), (qn4, .inl (cA 0, 3260, .inl (fun _ => 0))), (qn5, .inl (cA 1, 10, .inr (.inl (fun _ => 0)))), (qn6, .inl (cA 0, 700, .inl (fun _ => 0))), (qn7, .inl (cA 1, 15, .inr (.inl fn24))), (qn8, .inl (cA 1, 10, .inr (.inl (fun _ => 0)))), (qn9, .inl (cA 1, 10, .inr (.inl (fun _ => 0)))), (qn10, .inl (cA 1, 8, .inr (.inl (fun _ => 0)))), (qn11, .inl (cA 1, 8, .inr (.inl (fun _ => 0)))), (qn12, .inl (cA 0, 400, .inl (fun _ => 0))), (qn13, .inl (cA 0, 400, .inl (fun _ => 0))), (qn14, .inl (cA 0, 11, .inl (fun _ => 0))), (qn15, .inl (cA 0, 11, .inl (fun _ => 0))), (qn16, .inl (cA 4, 400, .inl (fun _ => 0))), (qn17, .inl (cA 0, 10, .inl (fun _ => 0))), (qn18, .inl (cA 0, 100, .inl (fun _ => 0)))] H := hP
  have hD : va_D A [(w0, .inr (11, [.ref qn1, .ref qn2, .ref qn3, .ref qn4, .ref qn5, .long 0, .long 0, .int 0, .int 0, .ref qn6, .int 0, .int 0, .int (-1), .ref qn7, .int 0, .int 0, .int 0, .int 0, .int 0, .int 0, .int 0, .int 0, .int 0, .int 0, .int 0, .long 0, .int 0, .ref qn8, .ref qn9, .ref qn10, .ref qn11, .ref qn12, .ref qn13, .ref qn14, .ref qn15, .ref qn16, .ref qn17, .ref qn18, .int 0])), (qn1, .inl (cA 0, 326, .inl (fun _ => 0))), (qn2, .inl (cA 0, 326, .inl (fun _ => 0))), (qn3, .inl (cA 0, 326, .inl (fun _ => 0))), (qn4, .inl (cA 0, 3260, .inl (fun _ => 0))), (qn5, .inl (cA 1, 10, .inr (.inl (fun _ => 0)))), (qn6, .inl (cA 0, 700, .inl (fun _ => 0))), (qn7, .inl (cA 1, 15, .inr (.inl fn24))), (qn8, .inl (cA 1, 10, .inr (.inl (fun _ => 0)))), (qn9, .inl (cA 1, 10, .inr (.inl (fun _ => 0)))), (qn10, .inl (cA 1, 8, .inr (.inl (fun _ => 0)))), (qn11, .inl (cA 1, 8, .inr (.inl (fun _ => 0)))), (qn12, .inl (cA 0, 400, .inl (fun _ => 0))), (qn13, .inl (cA 0, 400, .inl (fun _ => 0))), (qn14, .inl (cA 0, 11, .inl (fun _ => 0))), (qn15, .inl (cA 0, 11, .inl (fun _ => 0))), (qn16, .inl (cA 4, 400, .inl (fun _ => 0))), (qn17, .inl (cA 0, 10, .inl (fun _ => 0))), (qn18, .inl (cA 0, 100, .inl (fun _ => 0)))] := hD
  refine lv_iinc (v := 2) (lv' := [(1, .int 2), (0, .ref w0)]) hx hb dX10_init_181 hl (k := 0) rfl (by first | rfl | decide +kernel) (by decide) rfl (fun ls hl => ?_)
  refine lv_goto (tgt := 163) hx hb dX10_init_184 (by decide) ?_
  refine lv_iload_n hx hb dX10_init_163 rfl (lv_at hl 0 rfl) ?_
  refine lv_bipush (v := 15) hx hb dX10_init_164 (by decide) ?_
  refine lv_icmp_ge (tgt := 187) hx hb dX10_init_166 (by decide) (fun c9 => absurd c9 (by decide)) (fun c25 => ?_)
  refine lv_aload_n hx hb dX10_init_169 rfl (lv_at hl 1 rfl) ?_
  refine va_get (D := D) (ci := 11) (v := .ref qn7) (C := RX10) (T := TX10) (N := 39) hx hb hts inX10 hown hK hP 0 rfl rfl 13 (by decide) (hts (.fieldLink RX10 33 "EscrowDeskModel" "keywords" "[J") (by decide +kernel)) (fun _ h9 => h9) rfl dX10_init_170 ?_
  refine lv_iload_n hx hb dX10_init_173 rfl (lv_at hl 0 rfl) ?_
  refine va_ldcS hx hb hown (hC.str 24 rfl) dX10_init_174 ?_
  refine lv_iload_n hx hb dX10_init_176 rfl (lv_at hl 0 rfl) ?_
  have hPc := hP.sub (ws' := []) [] rfl
  have hDc := hD.sub (ws' := []) [] (by decide) rfl
  have hFc := va_free (wc := []) hD hS hA [] rfl
  refine va_calll (va_runS (As := [.ref (sa 24), .int 2]) (rest := [.int 2, .ref qn7]) ⟨hx, hb, hml, hown, hts⟩ (c_m_wordAt l D cA sa 24 2 ([114, 97, 116, 101, 32, 102, 101, 101, 32, 103, 114, 97, 99, 101, 32, 100, 101, 112, 111, 115, 105, 116, 32, 109, 105, 108, 101, 115, 116, 111, 110, 101, 32, 119, 104, 101, 110, 32, 111, 114, 32, 97, 110, 100, 32, 110, 111, 116, 32, 100, 97, 121, 32, 112, 114, 111, 111, 102, 32, 100, 111, 110, 101, 32, 115, 117, 109, 32, 97, 112, 112, 114, 111, 118, 101, 100, 32, 97, 108, 119, 97, 121, 115, 32]) H.size (by decide +kernel) (by decide +kernel)) (va_cwS 2 hts gX10_init_X10_wordAt rfl rfl rfl (by decide +kernel) ⟨(Nat.le_of_ble_eq_true rfl), (Nat.le_of_ble_eq_true rfl)⟩) ⟨Wd.blind, fun U hU hW => ⟨rfl, Wd.call hPc hDc hK hC hZ hS hFc U hU hW⟩⟩ rfl rfl hl.1 rfl (lv_room (Nat.le_of_ble_eq_true rfl)) dX10_init_177 ⟨(Nat.le_of_ble_eq_true rfl), (Nat.le_of_ble_eq_true rfl)⟩) hS (fun q _ h => hFc q h) hFc (fun rn26 u t H1 locs ht hvm hw hB hz1 hk1 hS => ?_)
  obtain ⟨hP1, hD1⟩ := hB
  rw [ht] at hP1
  obtain ⟨hP, hD⟩ := va_join (wr := [(w0, .inr (11, [.ref qn1, .ref qn2, .ref qn3, .ref qn4, .ref qn5, .long 0, .long 0, .int 0, .int 0, .ref qn6, .int 0, .int 0, .int (-1), .ref qn7, .int 0, .int 0, .int 0, .int 0, .int 0, .int 0, .int 0, .int 0, .int 0, .int 0, .int 0, .long 0, .int 0, .ref qn8, .ref qn9, .ref qn10, .ref qn11, .ref qn12, .ref qn13, .ref qn14, .ref qn15, .ref qn16, .ref qn17, .ref qn18, .int 0])), (qn1, .inl (cA 0, 326, .inl (fun _ => 0))), (qn2, .inl (cA 0, 326, .inl (fun _ => 0))), (qn3, .inl (cA 0, 326, .inl (fun _ => 0))), (qn4, .inl (cA 0, 3260, .inl (fun _ => 0))), (qn5, .inl (cA 1, 10, .inr (.inl (fun _ => 0)))), (qn6, .inl (cA 0, 700, .inl (fun _ => 0))), (qn7, .inl (cA 1, 15, .inr (.inl fn24))), (qn8, .inl (cA 1, 10, .inr (.inl (fun _ => 0)))), (qn9, .inl (cA 1, 10, .inr (.inl (fun _ => 0)))), (qn10, .inl (cA 1, 8, .inr (.inl (fun _ => 0)))), (qn11, .inl (cA 1, 8, .inr (.inl (fun _ => 0)))), (qn12, .inl (cA 0, 400, .inl (fun _ => 0))), (qn13, .inl (cA 0, 400, .inl (fun _ => 0))), (qn14, .inl (cA 0, 11, .inl (fun _ => 0))), (qn15, .inl (cA 0, 11, .inl (fun _ => 0))), (qn16, .inl (cA 4, 400, .inl (fun _ => 0))), (qn17, .inl (cA 0, 10, .inl (fun _ => 0))), (qn18, .inl (cA 0, 100, .inl (fun _ => 0)))]) (w1 := []) hP hD [] [0, 1, 2, 3, 4, 5, 6, 7, 8, 9, 10, 11, 12, 13, 14, 15, 16, 17, 18] rfl rfl (by decide) (by decide) hk1 hFc hP1 hD1
  generalize H1 = H at hP hS ⊢
  have hP : va_P D vwCl [(w0, .inr (11, [.ref qn1, .ref qn2, .ref qn3, .ref qn4, .ref qn5, .long 0, .long 0, .int 0, .int 0, .ref qn6, .int 0, .int 0, .int (-1), .ref qn7, .int 0, .int 0, .int 0, .int 0, .int 0, .int 0, .int 0, .int 0, .int 0, .int 0, .int 0, .long 0, .int 0, .ref qn8, .ref qn9, .ref qn10, .ref qn11, .ref qn12, .ref qn13, .ref qn14, .ref qn15, .ref qn16, .ref qn17, .ref qn18, .int 0])), (qn1, .inl (cA 0, 326, .inl (fun _ => 0))), (qn2, .inl (cA 0, 326, .inl (fun _ => 0))), (qn3, .inl (cA 0, 326, .inl (fun _ => 0))), (qn4, .inl (cA 0, 3260, .inl (fun _ => 0))), (qn5, .inl (cA 1, 10, .inr (.inl (fun _ => 0)))), (qn6, .inl (cA 0, 700, .inl (fun _ => 0))), (qn7, .inl (cA 1, 15, .inr (.inl fn24))), (qn8, .inl (cA 1, 10, .inr (.inl (fun _ => 0)))), (qn9, .inl (cA 1, 10, .inr (.inl (fun _ => 0)))), (qn10, .inl (cA 1, 8, .inr (.inl (fun _ => 0)))), (qn11, .inl (cA 1, 8, .inr (.inl (fun _ => 0)))), (qn12, .inl (cA 0, 400, .inl (fun _ => 0))), (qn13, .inl (cA 0, 400, .inl (fun _ => 0))), (qn14, .inl (cA 0, 11, .inl (fun _ => 0))), (qn15, .inl (cA 0, 11, .inl (fun _ => 0))), (qn16, .inl (cA 4, 400, .inl (fun _ => 0))), (qn17, .inl (cA 0, 10, .inl (fun _ => 0))), (qn18, .inl (cA 0, 100, .inl (fun _ => 0)))] H := hP
  have hD : va_D A [(w0, .inr (11, [.ref qn1, .ref qn2, .ref qn3, .ref qn4, .ref qn5, .long 0, .long 0, .int 0, .int 0, .ref qn6, .int 0, .int 0, .int (-1), .ref qn7, .int 0, .int 0, .int 0, .int 0, .int 0, .int 0, .int 0, .int 0, .int 0, .int 0, .int 0, .long 0, .int 0, .ref qn8, .ref qn9, .ref qn10, .ref qn11, .ref qn12, .ref qn13, .ref qn14, .ref qn15, .ref qn16, .ref qn17, .ref qn18, .int 0])), (qn1, .inl (cA 0, 326, .inl (fun _ => 0))), (qn2, .inl (cA 0, 326, .inl (fun _ => 0))), (qn3, .inl (cA 0, 326, .inl (fun _ => 0))), (qn4, .inl (cA 0, 3260, .inl (fun _ => 0))), (qn5, .inl (cA 1, 10, .inr (.inl (fun _ => 0)))), (qn6, .inl (cA 0, 700, .inl (fun _ => 0))), (qn7, .inl (cA 1, 15, .inr (.inl fn24))), (qn8, .inl (cA 1, 10, .inr (.inl (fun _ => 0)))), (qn9, .inl (cA 1, 10, .inr (.inl (fun _ => 0)))), (qn10, .inl (cA 1, 8, .inr (.inl (fun _ => 0)))), (qn11, .inl (cA 1, 8, .inr (.inl (fun _ => 0)))), (qn12, .inl (cA 0, 400, .inl (fun _ => 0))), (qn13, .inl (cA 0, 400, .inl (fun _ => 0))), (qn14, .inl (cA 0, 11, .inl (fun _ => 0))), (qn15, .inl (cA 0, 11, .inl (fun _ => 0))), (qn16, .inl (cA 4, 400, .inl (fun _ => 0))), (qn17, .inl (cA 0, 10, .inl (fun _ => 0))), (qn18, .inl (cA 0, 100, .inl (fun _ => 0)))] := hD
  refine va_last hx hb hK hP hD hS 7 1 rfl rfl (vp_in_iff.mpr (by decide)) dX10_init_180 (fun H locs hP hD hS => ?_)
  have hP : va_P D vwCl [(w0, .inr (11, [.ref qn1, .ref qn2, .ref qn3, .ref qn4, .ref qn5, .long 0, .long 0, .int 0, .int 0, .ref qn6, .int 0, .int 0, .int (-1), .ref qn7, .int 0, .int 0, .int 0, .int 0, .int 0, .int 0, .int 0, .int 0, .int 0, .int 0, .int 0, .long 0, .int 0, .ref qn8, .ref qn9, .ref qn10, .ref qn11, .ref qn12, .ref qn13, .ref qn14, .ref qn15, .ref qn16, .ref qn17, .ref qn18, .int 0])), (qn1, .inl (cA 0, 326, .inl (fun _ => 0))), (qn2, .inl (cA 0, 326, .inl (fun _ => 0))), (qn3, .inl (cA 0, 326, .inl (fun _ => 0))), (qn4, .inl (cA 0, 3260, .inl (fun _ => 0))), (qn5, .inl (cA 1, 10, .inr (.inl (fun _ => 0)))), (qn6, .inl (cA 0, 700, .inl (fun _ => 0))), (qn7, .inl (cA 1, 15, .inr (.inl (vp_updL fn24 2 rn26)))), (qn8, .inl (cA 1, 10, .inr (.inl (fun _ => 0)))), (qn9, .inl (cA 1, 10, .inr (.inl (fun _ => 0)))), (qn10, .inl (cA 1, 8, .inr (.inl (fun _ => 0)))), (qn11, .inl (cA 1, 8, .inr (.inl (fun _ => 0)))), (qn12, .inl (cA 0, 400, .inl (fun _ => 0))), (qn13, .inl (cA 0, 400, .inl (fun _ => 0))), (qn14, .inl (cA 0, 11, .inl (fun _ => 0))), (qn15, .inl (cA 0, 11, .inl (fun _ => 0))), (qn16, .inl (cA 4, 400, .inl (fun _ => 0))), (qn17, .inl (cA 0, 10, .inl (fun _ => 0))), (qn18, .inl (cA 0, 100, .inl (fun _ => 0)))] H := hP
  have hD : va_D A [(w0, .inr (11, [.ref qn1, .ref qn2, .ref qn3, .ref qn4, .ref qn5, .long 0, .long 0, .int 0, .int 0, .ref qn6, .int 0, .int 0, .int (-1), .ref qn7, .int 0, .int 0, .int 0, .int 0, .int 0, .int 0, .int 0, .int 0, .int 0, .int 0, .int 0, .long 0, .int 0, .ref qn8, .ref qn9, .ref qn10, .ref qn11, .ref qn12, .ref qn13, .ref qn14, .ref qn15, .ref qn16, .ref qn17, .ref qn18, .int 0])), (qn1, .inl (cA 0, 326, .inl (fun _ => 0))), (qn2, .inl (cA 0, 326, .inl (fun _ => 0))), (qn3, .inl (cA 0, 326, .inl (fun _ => 0))), (qn4, .inl (cA 0, 3260, .inl (fun _ => 0))), (qn5, .inl (cA 1, 10, .inr (.inl (fun _ => 0)))), (qn6, .inl (cA 0, 700, .inl (fun _ => 0))), (qn7, .inl (cA 1, 15, .inr (.inl (vp_updL fn24 2 rn26)))), (qn8, .inl (cA 1, 10, .inr (.inl (fun _ => 0)))), (qn9, .inl (cA 1, 10, .inr (.inl (fun _ => 0)))), (qn10, .inl (cA 1, 8, .inr (.inl (fun _ => 0)))), (qn11, .inl (cA 1, 8, .inr (.inl (fun _ => 0)))), (qn12, .inl (cA 0, 400, .inl (fun _ => 0))), (qn13, .inl (cA 0, 400, .inl (fun _ => 0))), (qn14, .inl (cA 0, 11, .inl (fun _ => 0))), (qn15, .inl (cA 0, 11, .inl (fun _ => 0))), (qn16, .inl (cA 4, 400, .inl (fun _ => 0))), (qn17, .inl (cA 0, 10, .inl (fun _ => 0))), (qn18, .inl (cA 0, 100, .inl (fun _ => 0)))] := hD
  generalize (vp_updL fn24 2 rn26) = fn27 at hP hD
  have hP : va_P D vwCl [(w0, .inr (11, [.ref qn1, .ref qn2, .ref qn3, .ref qn4, .ref qn5, .long 0, .long 0, .int 0, .int 0, .ref qn6, .int 0, .int 0, .int (-1), .ref qn7, .int 0, .int 0, .int 0, .int 0, .int 0, .int 0, .int 0, .int 0, .int 0, .int 0, .int 0, .long 0, .int 0, .ref qn8, .ref qn9, .ref qn10, .ref qn11, .ref qn12, .ref qn13, .ref qn14, .ref qn15, .ref qn16, .ref qn17, .ref qn18, .int 0])), (qn1, .inl (cA 0, 326, .inl (fun _ => 0))), (qn2, .inl (cA 0, 326, .inl (fun _ => 0))), (qn3, .inl (cA 0, 326, .inl (fun _ => 0))), (qn4, .inl (cA 0, 3260, .inl (fun _ => 0))), (qn5, .inl (cA 1, 10, .inr (.inl (fun _ => 0)))), (qn6, .inl (cA 0, 700, .inl (fun _ => 0))), (qn7, .inl (cA 1, 15, .inr (.inl fn27))), (qn8, .inl (cA 1, 10, .inr (.inl (fun _ => 0)))), (qn9, .inl (cA 1, 10, .inr (.inl (fun _ => 0)))), (qn10, .inl (cA 1, 8, .inr (.inl (fun _ => 0)))), (qn11, .inl (cA 1, 8, .inr (.inl (fun _ => 0)))), (qn12, .inl (cA 0, 400, .inl (fun _ => 0))), (qn13, .inl (cA 0, 400, .inl (fun _ => 0))), (qn14, .inl (cA 0, 11, .inl (fun _ => 0))), (qn15, .inl (cA 0, 11, .inl (fun _ => 0))), (qn16, .inl (cA 4, 400, .inl (fun _ => 0))), (qn17, .inl (cA 0, 10, .inl (fun _ => 0))), (qn18, .inl (cA 0, 100, .inl (fun _ => 0)))] H := hP
  have hD : va_D A [(w0, .inr (11, [.ref qn1, .ref qn2, .ref qn3, .ref qn4, .ref qn5, .long 0, .long 0, .int 0, .int 0, .ref qn6, .int 0, .int 0, .int (-1), .ref qn7, .int 0, .int 0, .int 0, .int 0, .int 0, .int 0, .int 0, .int 0, .int 0, .int 0, .int 0, .long 0, .int 0, .ref qn8, .ref qn9, .ref qn10, .ref qn11, .ref qn12, .ref qn13, .ref qn14, .ref qn15, .ref qn16, .ref qn17, .ref qn18, .int 0])), (qn1, .inl (cA 0, 326, .inl (fun _ => 0))), (qn2, .inl (cA 0, 326, .inl (fun _ => 0))), (qn3, .inl (cA 0, 326, .inl (fun _ => 0))), (qn4, .inl (cA 0, 3260, .inl (fun _ => 0))), (qn5, .inl (cA 1, 10, .inr (.inl (fun _ => 0)))), (qn6, .inl (cA 0, 700, .inl (fun _ => 0))), (qn7, .inl (cA 1, 15, .inr (.inl fn27))), (qn8, .inl (cA 1, 10, .inr (.inl (fun _ => 0)))), (qn9, .inl (cA 1, 10, .inr (.inl (fun _ => 0)))), (qn10, .inl (cA 1, 8, .inr (.inl (fun _ => 0)))), (qn11, .inl (cA 1, 8, .inr (.inl (fun _ => 0)))), (qn12, .inl (cA 0, 400, .inl (fun _ => 0))), (qn13, .inl (cA 0, 400, .inl (fun _ => 0))), (qn14, .inl (cA 0, 11, .inl (fun _ => 0))), (qn15, .inl (cA 0, 11, .inl (fun _ => 0))), (qn16, .inl (cA 4, 400, .inl (fun _ => 0))), (qn17, .inl (cA 0, 10, .inl (fun _ => 0))), (qn18, .inl (cA 0, 100, .inl (fun _ => 0)))] := hD
  refine lv_iinc (v := 3) (lv' := [(1, .int 3), (0, .ref w0)]) hx hb dX10_init_181 hl (k := 0) rfl (by first | rfl | decide +kernel) (by decide) rfl (fun ls hl => ?_)
  refine lv_goto (tgt := 163) hx hb dX10_init_184 (by decide) ?_
  refine lv_iload_n hx hb dX10_init_163 rfl (lv_at hl 0 rfl) ?_
  refine lv_bipush (v := 15) hx hb dX10_init_164 (by decide) ?_
  refine lv_icmp_ge (tgt := 187) hx hb dX10_init_166 (by decide) (fun c9 => absurd c9 (by decide)) (fun c28 => ?_)
  refine lv_aload_n hx hb dX10_init_169 rfl (lv_at hl 1 rfl) ?_
  refine va_get (D := D) (ci := 11) (v := .ref qn7) (C := RX10) (T := TX10) (N := 39) hx hb hts inX10 hown hK hP 0 rfl rfl 13 (by decide) (hts (.fieldLink RX10 33 "EscrowDeskModel" "keywords" "[J") (by decide +kernel)) (fun _ h9 => h9) rfl dX10_init_170 ?_
  refine lv_iload_n hx hb dX10_init_173 rfl (lv_at hl 0 rfl) ?_
  refine va_ldcS hx hb hown (hC.str 24 rfl) dX10_init_174 ?_
  refine lv_iload_n hx hb dX10_init_176 rfl (lv_at hl 0 rfl) ?_
  have hPc := hP.sub (ws' := []) [] rfl
  have hDc := hD.sub (ws' := []) [] (by decide) rfl
  have hFc := va_free (wc := []) hD hS hA [] rfl
  refine va_calll (va_runS (As := [.ref (sa 24), .int 3]) (rest := [.int 3, .ref qn7]) ⟨hx, hb, hml, hown, hts⟩ (c_m_wordAt l D cA sa 24 3 ([114, 97, 116, 101, 32, 102, 101, 101, 32, 103, 114, 97, 99, 101, 32, 100, 101, 112, 111, 115, 105, 116, 32, 109, 105, 108, 101, 115, 116, 111, 110, 101, 32, 119, 104, 101, 110, 32, 111, 114, 32, 97, 110, 100, 32, 110, 111, 116, 32, 100, 97, 121, 32, 112, 114, 111, 111, 102, 32, 100, 111, 110, 101, 32, 115, 117, 109, 32, 97, 112, 112, 114, 111, 118, 101, 100, 32, 97, 108, 119, 97, 121, 115, 32]) H.size (by decide +kernel) (by decide +kernel)) (va_cwS 2 hts gX10_init_X10_wordAt rfl rfl rfl (by decide +kernel) ⟨(Nat.le_of_ble_eq_true rfl), (Nat.le_of_ble_eq_true rfl)⟩) ⟨Wd.blind, fun U hU hW => ⟨rfl, Wd.call hPc hDc hK hC hZ hS hFc U hU hW⟩⟩ rfl rfl hl.1 rfl (lv_room (Nat.le_of_ble_eq_true rfl)) dX10_init_177 ⟨(Nat.le_of_ble_eq_true rfl), (Nat.le_of_ble_eq_true rfl)⟩) hS (fun q _ h => hFc q h) hFc (fun rn29 u t H1 locs ht hvm hw hB hz1 hk1 hS => ?_)
  obtain ⟨hP1, hD1⟩ := hB
  rw [ht] at hP1
  obtain ⟨hP, hD⟩ := va_join (wr := [(w0, .inr (11, [.ref qn1, .ref qn2, .ref qn3, .ref qn4, .ref qn5, .long 0, .long 0, .int 0, .int 0, .ref qn6, .int 0, .int 0, .int (-1), .ref qn7, .int 0, .int 0, .int 0, .int 0, .int 0, .int 0, .int 0, .int 0, .int 0, .int 0, .int 0, .long 0, .int 0, .ref qn8, .ref qn9, .ref qn10, .ref qn11, .ref qn12, .ref qn13, .ref qn14, .ref qn15, .ref qn16, .ref qn17, .ref qn18, .int 0])), (qn1, .inl (cA 0, 326, .inl (fun _ => 0))), (qn2, .inl (cA 0, 326, .inl (fun _ => 0))), (qn3, .inl (cA 0, 326, .inl (fun _ => 0))), (qn4, .inl (cA 0, 3260, .inl (fun _ => 0))), (qn5, .inl (cA 1, 10, .inr (.inl (fun _ => 0)))), (qn6, .inl (cA 0, 700, .inl (fun _ => 0))), (qn7, .inl (cA 1, 15, .inr (.inl fn27))), (qn8, .inl (cA 1, 10, .inr (.inl (fun _ => 0)))), (qn9, .inl (cA 1, 10, .inr (.inl (fun _ => 0)))), (qn10, .inl (cA 1, 8, .inr (.inl (fun _ => 0)))), (qn11, .inl (cA 1, 8, .inr (.inl (fun _ => 0)))), (qn12, .inl (cA 0, 400, .inl (fun _ => 0))), (qn13, .inl (cA 0, 400, .inl (fun _ => 0))), (qn14, .inl (cA 0, 11, .inl (fun _ => 0))), (qn15, .inl (cA 0, 11, .inl (fun _ => 0))), (qn16, .inl (cA 4, 400, .inl (fun _ => 0))), (qn17, .inl (cA 0, 10, .inl (fun _ => 0))), (qn18, .inl (cA 0, 100, .inl (fun _ => 0)))]) (w1 := []) hP hD [] [0, 1, 2, 3, 4, 5, 6, 7, 8, 9, 10, 11, 12, 13, 14, 15, 16, 17, 18] rfl rfl (by decide) (by decide) hk1 hFc hP1 hD1
  generalize H1 = H at hP hS ⊢
  have hP : va_P D vwCl [(w0, .inr (11, [.ref qn1, .ref qn2, .ref qn3, .ref qn4, .ref qn5, .long 0, .long 0, .int 0, .int 0, .ref qn6, .int 0, .int 0, .int (-1), .ref qn7, .int 0, .int 0, .int 0, .int 0, .int 0, .int 0, .int 0, .int 0, .int 0, .int 0, .int 0, .long 0, .int 0, .ref qn8, .ref qn9, .ref qn10, .ref qn11, .ref qn12, .ref qn13, .ref qn14, .ref qn15, .ref qn16, .ref qn17, .ref qn18, .int 0])), (qn1, .inl (cA 0, 326, .inl (fun _ => 0))), (qn2, .inl (cA 0, 326, .inl (fun _ => 0))), (qn3, .inl (cA 0, 326, .inl (fun _ => 0))), (qn4, .inl (cA 0, 3260, .inl (fun _ => 0))), (qn5, .inl (cA 1, 10, .inr (.inl (fun _ => 0)))), (qn6, .inl (cA 0, 700, .inl (fun _ => 0))), (qn7, .inl (cA 1, 15, .inr (.inl fn27))), (qn8, .inl (cA 1, 10, .inr (.inl (fun _ => 0)))), (qn9, .inl (cA 1, 10, .inr (.inl (fun _ => 0)))), (qn10, .inl (cA 1, 8, .inr (.inl (fun _ => 0)))), (qn11, .inl (cA 1, 8, .inr (.inl (fun _ => 0)))), (qn12, .inl (cA 0, 400, .inl (fun _ => 0))), (qn13, .inl (cA 0, 400, .inl (fun _ => 0))), (qn14, .inl (cA 0, 11, .inl (fun _ => 0))), (qn15, .inl (cA 0, 11, .inl (fun _ => 0))), (qn16, .inl (cA 4, 400, .inl (fun _ => 0))), (qn17, .inl (cA 0, 10, .inl (fun _ => 0))), (qn18, .inl (cA 0, 100, .inl (fun _ => 0)))] H := hP
  have hD : va_D A [(w0, .inr (11, [.ref qn1, .ref qn2, .ref qn3, .ref qn4, .ref qn5, .long 0, .long 0, .int 0, .int 0, .ref qn6, .int 0, .int 0, .int (-1), .ref qn7, .int 0, .int 0, .int 0, .int 0, .int 0, .int 0, .int 0, .int 0, .int 0, .int 0, .int 0, .long 0, .int 0, .ref qn8, .ref qn9, .ref qn10, .ref qn11, .ref qn12, .ref qn13, .ref qn14, .ref qn15, .ref qn16, .ref qn17, .ref qn18, .int 0])), (qn1, .inl (cA 0, 326, .inl (fun _ => 0))), (qn2, .inl (cA 0, 326, .inl (fun _ => 0))), (qn3, .inl (cA 0, 326, .inl (fun _ => 0))), (qn4, .inl (cA 0, 3260, .inl (fun _ => 0))), (qn5, .inl (cA 1, 10, .inr (.inl (fun _ => 0)))), (qn6, .inl (cA 0, 700, .inl (fun _ => 0))), (qn7, .inl (cA 1, 15, .inr (.inl fn27))), (qn8, .inl (cA 1, 10, .inr (.inl (fun _ => 0)))), (qn9, .inl (cA 1, 10, .inr (.inl (fun _ => 0)))), (qn10, .inl (cA 1, 8, .inr (.inl (fun _ => 0)))), (qn11, .inl (cA 1, 8, .inr (.inl (fun _ => 0)))), (qn12, .inl (cA 0, 400, .inl (fun _ => 0))), (qn13, .inl (cA 0, 400, .inl (fun _ => 0))), (qn14, .inl (cA 0, 11, .inl (fun _ => 0))), (qn15, .inl (cA 0, 11, .inl (fun _ => 0))), (qn16, .inl (cA 4, 400, .inl (fun _ => 0))), (qn17, .inl (cA 0, 10, .inl (fun _ => 0))), (qn18, .inl (cA 0, 100, .inl (fun _ => 0)))] := hD
  refine va_last hx hb hK hP hD hS 7 1 rfl rfl (vp_in_iff.mpr (by decide)) dX10_init_180 (fun H locs hP hD hS => ?_)
  have hP : va_P D vwCl [(w0, .inr (11, [.ref qn1, .ref qn2, .ref qn3, .ref qn4, .ref qn5, .long 0, .long 0, .int 0, .int 0, .ref qn6, .int 0, .int 0, .int (-1), .ref qn7, .int 0, .int 0, .int 0, .int 0, .int 0, .int 0, .int 0, .int 0, .int 0, .int 0, .int 0, .long 0, .int 0, .ref qn8, .ref qn9, .ref qn10, .ref qn11, .ref qn12, .ref qn13, .ref qn14, .ref qn15, .ref qn16, .ref qn17, .ref qn18, .int 0])), (qn1, .inl (cA 0, 326, .inl (fun _ => 0))), (qn2, .inl (cA 0, 326, .inl (fun _ => 0))), (qn3, .inl (cA 0, 326, .inl (fun _ => 0))), (qn4, .inl (cA 0, 3260, .inl (fun _ => 0))), (qn5, .inl (cA 1, 10, .inr (.inl (fun _ => 0)))), (qn6, .inl (cA 0, 700, .inl (fun _ => 0))), (qn7, .inl (cA 1, 15, .inr (.inl (vp_updL fn27 3 rn29)))), (qn8, .inl (cA 1, 10, .inr (.inl (fun _ => 0)))), (qn9, .inl (cA 1, 10, .inr (.inl (fun _ => 0)))), (qn10, .inl (cA 1, 8, .inr (.inl (fun _ => 0)))), (qn11, .inl (cA 1, 8, .inr (.inl (fun _ => 0)))), (qn12, .inl (cA 0, 400, .inl (fun _ => 0))), (qn13, .inl (cA 0, 400, .inl (fun _ => 0))), (qn14, .inl (cA 0, 11, .inl (fun _ => 0))), (qn15, .inl (cA 0, 11, .inl (fun _ => 0))), (qn16, .inl (cA 4, 400, .inl (fun _ => 0))), (qn17, .inl (cA 0, 10, .inl (fun _ => 0))), (qn18, .inl (cA 0, 100, .inl (fun _ => 0)))] H := hP
  have hD : va_D A [(w0, .inr (11, [.ref qn1, .ref qn2, .ref qn3, .ref qn4, .ref qn5, .long 0, .long 0, .int 0, .int 0, .ref qn6, .int 0, .int 0, .int (-1), .ref qn7, .int 0, .int 0, .int 0, .int 0, .int 0, .int 0, .int 0, .int 0, .int 0, .int 0, .int 0, .long 0, .int 0, .ref qn8, .ref qn9, .ref qn10, .ref qn11, .ref qn12, .ref qn13, .ref qn14, .ref qn15, .ref qn16, .ref qn17, .ref qn18, .int 0])), (qn1, .inl (cA 0, 326, .inl (fun _ => 0))), (qn2, .inl (cA 0, 326, .inl (fun _ => 0))), (qn3, .inl (cA 0, 326, .inl (fun _ => 0))), (qn4, .inl (cA 0, 3260, .inl (fun _ => 0))), (qn5, .inl (cA 1, 10, .inr (.inl (fun _ => 0)))), (qn6, .inl (cA 0, 700, .inl (fun _ => 0))), (qn7, .inl (cA 1, 15, .inr (.inl (vp_updL fn27 3 rn29)))), (qn8, .inl (cA 1, 10, .inr (.inl (fun _ => 0)))), (qn9, .inl (cA 1, 10, .inr (.inl (fun _ => 0)))), (qn10, .inl (cA 1, 8, .inr (.inl (fun _ => 0)))), (qn11, .inl (cA 1, 8, .inr (.inl (fun _ => 0)))), (qn12, .inl (cA 0, 400, .inl (fun _ => 0))), (qn13, .inl (cA 0, 400, .inl (fun _ => 0))), (qn14, .inl (cA 0, 11, .inl (fun _ => 0))), (qn15, .inl (cA 0, 11, .inl (fun _ => 0))), (qn16, .inl (cA 4, 400, .inl (fun _ => 0))), (qn17, .inl (cA 0, 10, .inl (fun _ => 0))), (qn18, .inl (cA 0, 100, .inl (fun _ => 0)))] := hD
  generalize (vp_updL fn27 3 rn29) = fn30 at hP hD
  have hP : va_P D vwCl [(w0, .inr (11, [.ref qn1, .ref qn2, .ref qn3, .ref qn4, .ref qn5, .long 0, .long 0, .int 0, .int 0, .ref qn6, .int 0, .int 0, .int (-1), .ref qn7, .int 0, .int 0, .int 0, .int 0, .int 0, .int 0, .int 0, .int 0, .int 0, .int 0, .int 0, .long 0, .int 0, .ref qn8, .ref qn9, .ref qn10, .ref qn11, .ref qn12, .ref qn13, .ref qn14, .ref qn15, .ref qn16, .ref qn17, .ref qn18, .int 0])), (qn1, .inl (cA 0, 326, .inl (fun _ => 0))), (qn2, .inl (cA 0, 326, .inl (fun _ => 0))), (qn3, .inl (cA 0, 326, .inl (fun _ => 0))), (qn4, .inl (cA 0, 3260, .inl (fun _ => 0))), (qn5, .inl (cA 1, 10, .inr (.inl (fun _ => 0)))), (qn6, .inl (cA 0, 700, .inl (fun _ => 0))), (qn7, .inl (cA 1, 15, .inr (.inl fn30))), (qn8, .inl (cA 1, 10, .inr (.inl (fun _ => 0)))), (qn9, .inl (cA 1, 10, .inr (.inl (fun _ => 0)))), (qn10, .inl (cA 1, 8, .inr (.inl (fun _ => 0)))), (qn11, .inl (cA 1, 8, .inr (.inl (fun _ => 0)))), (qn12, .inl (cA 0, 400, .inl (fun _ => 0))), (qn13, .inl (cA 0, 400, .inl (fun _ => 0))), (qn14, .inl (cA 0, 11, .inl (fun _ => 0))), (qn15, .inl (cA 0, 11, .inl (fun _ => 0))), (qn16, .inl (cA 4, 400, .inl (fun _ => 0))), (qn17, .inl (cA 0, 10, .inl (fun _ => 0))), (qn18, .inl (cA 0, 100, .inl (fun _ => 0)))] H := hP
  have hD : va_D A [(w0, .inr (11, [.ref qn1, .ref qn2, .ref qn3, .ref qn4, .ref qn5, .long 0, .long 0, .int 0, .int 0, .ref qn6, .int 0, .int 0, .int (-1), .ref qn7, .int 0, .int 0, .int 0, .int 0, .int 0, .int 0, .int 0, .int 0, .int 0, .int 0, .int 0, .long 0, .int 0, .ref qn8, .ref qn9, .ref qn10, .ref qn11, .ref qn12, .ref qn13, .ref qn14, .ref qn15, .ref qn16, .ref qn17, .ref qn18, .int 0])), (qn1, .inl (cA 0, 326, .inl (fun _ => 0))), (qn2, .inl (cA 0, 326, .inl (fun _ => 0))), (qn3, .inl (cA 0, 326, .inl (fun _ => 0))), (qn4, .inl (cA 0, 3260, .inl (fun _ => 0))), (qn5, .inl (cA 1, 10, .inr (.inl (fun _ => 0)))), (qn6, .inl (cA 0, 700, .inl (fun _ => 0))), (qn7, .inl (cA 1, 15, .inr (.inl fn30))), (qn8, .inl (cA 1, 10, .inr (.inl (fun _ => 0)))), (qn9, .inl (cA 1, 10, .inr (.inl (fun _ => 0)))), (qn10, .inl (cA 1, 8, .inr (.inl (fun _ => 0)))), (qn11, .inl (cA 1, 8, .inr (.inl (fun _ => 0)))), (qn12, .inl (cA 0, 400, .inl (fun _ => 0))), (qn13, .inl (cA 0, 400, .inl (fun _ => 0))), (qn14, .inl (cA 0, 11, .inl (fun _ => 0))), (qn15, .inl (cA 0, 11, .inl (fun _ => 0))), (qn16, .inl (cA 4, 400, .inl (fun _ => 0))), (qn17, .inl (cA 0, 10, .inl (fun _ => 0))), (qn18, .inl (cA 0, 100, .inl (fun _ => 0)))] := hD
  refine lv_iinc (v := 4) (lv' := [(1, .int 4), (0, .ref w0)]) hx hb dX10_init_181 hl (k := 0) rfl (by first | rfl | decide +kernel) (by decide) rfl (fun ls hl => ?_)
  refine lv_goto (tgt := 163) hx hb dX10_init_184 (by decide) ?_
  refine lv_iload_n hx hb dX10_init_163 rfl (lv_at hl 0 rfl) ?_
  refine lv_bipush (v := 15) hx hb dX10_init_164 (by decide) ?_
  refine lv_icmp_ge (tgt := 187) hx hb dX10_init_166 (by decide) (fun c9 => absurd c9 (by decide)) (fun c31 => ?_)
  refine lv_aload_n hx hb dX10_init_169 rfl (lv_at hl 1 rfl) ?_
  refine va_get (D := D) (ci := 11) (v := .ref qn7) (C := RX10) (T := TX10) (N := 39) hx hb hts inX10 hown hK hP 0 rfl rfl 13 (by decide) (hts (.fieldLink RX10 33 "EscrowDeskModel" "keywords" "[J") (by decide +kernel)) (fun _ h9 => h9) rfl dX10_init_170 ?_
  refine lv_iload_n hx hb dX10_init_173 rfl (lv_at hl 0 rfl) ?_
  refine va_ldcS hx hb hown (hC.str 24 rfl) dX10_init_174 ?_
  refine lv_iload_n hx hb dX10_init_176 rfl (lv_at hl 0 rfl) ?_
  have hPc := hP.sub (ws' := []) [] rfl
  have hDc := hD.sub (ws' := []) [] (by decide) rfl
  have hFc := va_free (wc := []) hD hS hA [] rfl
  refine va_calll (va_runS (As := [.ref (sa 24), .int 4]) (rest := [.int 4, .ref qn7]) ⟨hx, hb, hml, hown, hts⟩ (c_m_wordAt l D cA sa 24 4 ([114, 97, 116, 101, 32, 102, 101, 101, 32, 103, 114, 97, 99, 101, 32, 100, 101, 112, 111, 115, 105, 116, 32, 109, 105, 108, 101, 115, 116, 111, 110, 101, 32, 119, 104, 101, 110, 32, 111, 114, 32, 97, 110, 100, 32, 110, 111, 116, 32, 100, 97, 121, 32, 112, 114, 111, 111, 102, 32, 100, 111, 110, 101, 32, 115, 117, 109, 32, 97, 112, 112, 114, 111, 118, 101, 100, 32, 97, 108, 119, 97, 121, 115, 32]) H.size (by decide +kernel) (by decide +kernel)) (va_cwS 2 hts gX10_init_X10_wordAt rfl rfl rfl (by decide +kernel) ⟨(Nat.le_of_ble_eq_true rfl), (Nat.le_of_ble_eq_true rfl)⟩) ⟨Wd.blind, fun U hU hW => ⟨rfl, Wd.call hPc hDc hK hC hZ hS hFc U hU hW⟩⟩ rfl rfl hl.1 rfl (lv_room (Nat.le_of_ble_eq_true rfl)) dX10_init_177 ⟨(Nat.le_of_ble_eq_true rfl), (Nat.le_of_ble_eq_true rfl)⟩) hS (fun q _ h => hFc q h) hFc (fun rn32 u t H1 locs ht hvm hw hB hz1 hk1 hS => ?_)
  obtain ⟨hP1, hD1⟩ := hB
  rw [ht] at hP1
  obtain ⟨hP, hD⟩ := va_join (wr := [(w0, .inr (11, [.ref qn1, .ref qn2, .ref qn3, .ref qn4, .ref qn5, .long 0, .long 0, .int 0, .int 0, .ref qn6, .int 0, .int 0, .int (-1), .ref qn7, .int 0, .int 0, .int 0, .int 0, .int 0, .int 0, .int 0, .int 0, .int 0, .int 0, .int 0, .long 0, .int 0, .ref qn8, .ref qn9, .ref qn10, .ref qn11, .ref qn12, .ref qn13, .ref qn14, .ref qn15, .ref qn16, .ref qn17, .ref qn18, .int 0])), (qn1, .inl (cA 0, 326, .inl (fun _ => 0))), (qn2, .inl (cA 0, 326, .inl (fun _ => 0))), (qn3, .inl (cA 0, 326, .inl (fun _ => 0))), (qn4, .inl (cA 0, 3260, .inl (fun _ => 0))), (qn5, .inl (cA 1, 10, .inr (.inl (fun _ => 0)))), (qn6, .inl (cA 0, 700, .inl (fun _ => 0))), (qn7, .inl (cA 1, 15, .inr (.inl fn30))), (qn8, .inl (cA 1, 10, .inr (.inl (fun _ => 0)))), (qn9, .inl (cA 1, 10, .inr (.inl (fun _ => 0)))), (qn10, .inl (cA 1, 8, .inr (.inl (fun _ => 0)))), (qn11, .inl (cA 1, 8, .inr (.inl (fun _ => 0)))), (qn12, .inl (cA 0, 400, .inl (fun _ => 0))), (qn13, .inl (cA 0, 400, .inl (fun _ => 0))), (qn14, .inl (cA 0, 11, .inl (fun _ => 0))), (qn15, .inl (cA 0, 11, .inl (fun _ => 0))), (qn16, .inl (cA 4, 400, .inl (fun _ => 0))), (qn17, .inl (cA 0, 10, .inl (fun _ => 0))), (qn18, .inl (cA 0, 100, .inl (fun _ => 0)))]) (w1 := []) hP hD [] [0, 1, 2, 3, 4, 5, 6, 7, 8, 9, 10, 11, 12, 13, 14, 15, 16, 17, 18] rfl rfl (by decide) (by decide) hk1 hFc hP1 hD1
  generalize H1 = H at hP hS ⊢
  have hP : va_P D vwCl [(w0, .inr (11, [.ref qn1, .ref qn2, .ref qn3, .ref qn4, .ref qn5, .long 0, .long 0, .int 0, .int 0, .ref qn6, .int 0, .int 0, .int (-1), .ref qn7, .int 0, .int 0, .int 0, .int 0, .int 0, .int 0, .int 0, .int 0, .int 0, .int 0, .int 0, .long 0, .int 0, .ref qn8, .ref qn9, .ref qn10, .ref qn11, .ref qn12, .ref qn13, .ref qn14, .ref qn15, .ref qn16, .ref qn17, .ref qn18, .int 0])), (qn1, .inl (cA 0, 326, .inl (fun _ => 0))), (qn2, .inl (cA 0, 326, .inl (fun _ => 0))), (qn3, .inl (cA 0, 326, .inl (fun _ => 0))), (qn4, .inl (cA 0, 3260, .inl (fun _ => 0))), (qn5, .inl (cA 1, 10, .inr (.inl (fun _ => 0)))), (qn6, .inl (cA 0, 700, .inl (fun _ => 0))), (qn7, .inl (cA 1, 15, .inr (.inl fn30))), (qn8, .inl (cA 1, 10, .inr (.inl (fun _ => 0)))), (qn9, .inl (cA 1, 10, .inr (.inl (fun _ => 0)))), (qn10, .inl (cA 1, 8, .inr (.inl (fun _ => 0)))), (qn11, .inl (cA 1, 8, .inr (.inl (fun _ => 0)))), (qn12, .inl (cA 0, 400, .inl (fun _ => 0))), (qn13, .inl (cA 0, 400, .inl (fun _ => 0))), (qn14, .inl (cA 0, 11, .inl (fun _ => 0))), (qn15, .inl (cA 0, 11, .inl (fun _ => 0))), (qn16, .inl (cA 4, 400, .inl (fun _ => 0))), (qn17, .inl (cA 0, 10, .inl (fun _ => 0))), (qn18, .inl (cA 0, 100, .inl (fun _ => 0)))] H := hP
  have hD : va_D A [(w0, .inr (11, [.ref qn1, .ref qn2, .ref qn3, .ref qn4, .ref qn5, .long 0, .long 0, .int 0, .int 0, .ref qn6, .int 0, .int 0, .int (-1), .ref qn7, .int 0, .int 0, .int 0, .int 0, .int 0, .int 0, .int 0, .int 0, .int 0, .int 0, .int 0, .long 0, .int 0, .ref qn8, .ref qn9, .ref qn10, .ref qn11, .ref qn12, .ref qn13, .ref qn14, .ref qn15, .ref qn16, .ref qn17, .ref qn18, .int 0])), (qn1, .inl (cA 0, 326, .inl (fun _ => 0))), (qn2, .inl (cA 0, 326, .inl (fun _ => 0))), (qn3, .inl (cA 0, 326, .inl (fun _ => 0))), (qn4, .inl (cA 0, 3260, .inl (fun _ => 0))), (qn5, .inl (cA 1, 10, .inr (.inl (fun _ => 0)))), (qn6, .inl (cA 0, 700, .inl (fun _ => 0))), (qn7, .inl (cA 1, 15, .inr (.inl fn30))), (qn8, .inl (cA 1, 10, .inr (.inl (fun _ => 0)))), (qn9, .inl (cA 1, 10, .inr (.inl (fun _ => 0)))), (qn10, .inl (cA 1, 8, .inr (.inl (fun _ => 0)))), (qn11, .inl (cA 1, 8, .inr (.inl (fun _ => 0)))), (qn12, .inl (cA 0, 400, .inl (fun _ => 0))), (qn13, .inl (cA 0, 400, .inl (fun _ => 0))), (qn14, .inl (cA 0, 11, .inl (fun _ => 0))), (qn15, .inl (cA 0, 11, .inl (fun _ => 0))), (qn16, .inl (cA 4, 400, .inl (fun _ => 0))), (qn17, .inl (cA 0, 10, .inl (fun _ => 0))), (qn18, .inl (cA 0, 100, .inl (fun _ => 0)))] := hD
  refine va_last hx hb hK hP hD hS 7 1 rfl rfl (vp_in_iff.mpr (by decide)) dX10_init_180 (fun H locs hP hD hS => ?_)
  have hP : va_P D vwCl [(w0, .inr (11, [.ref qn1, .ref qn2, .ref qn3, .ref qn4, .ref qn5, .long 0, .long 0, .int 0, .int 0, .ref qn6, .int 0, .int 0, .int (-1), .ref qn7, .int 0, .int 0, .int 0, .int 0, .int 0, .int 0, .int 0, .int 0, .int 0, .int 0, .int 0, .long 0, .int 0, .ref qn8, .ref qn9, .ref qn10, .ref qn11, .ref qn12, .ref qn13, .ref qn14, .ref qn15, .ref qn16, .ref qn17, .ref qn18, .int 0])), (qn1, .inl (cA 0, 326, .inl (fun _ => 0))), (qn2, .inl (cA 0, 326, .inl (fun _ => 0))), (qn3, .inl (cA 0, 326, .inl (fun _ => 0))), (qn4, .inl (cA 0, 3260, .inl (fun _ => 0))), (qn5, .inl (cA 1, 10, .inr (.inl (fun _ => 0)))), (qn6, .inl (cA 0, 700, .inl (fun _ => 0))), (qn7, .inl (cA 1, 15, .inr (.inl (vp_updL fn30 4 rn32)))), (qn8, .inl (cA 1, 10, .inr (.inl (fun _ => 0)))), (qn9, .inl (cA 1, 10, .inr (.inl (fun _ => 0)))), (qn10, .inl (cA 1, 8, .inr (.inl (fun _ => 0)))), (qn11, .inl (cA 1, 8, .inr (.inl (fun _ => 0)))), (qn12, .inl (cA 0, 400, .inl (fun _ => 0))), (qn13, .inl (cA 0, 400, .inl (fun _ => 0))), (qn14, .inl (cA 0, 11, .inl (fun _ => 0))), (qn15, .inl (cA 0, 11, .inl (fun _ => 0))), (qn16, .inl (cA 4, 400, .inl (fun _ => 0))), (qn17, .inl (cA 0, 10, .inl (fun _ => 0))), (qn18, .inl (cA 0, 100, .inl (fun _ => 0)))] H := hP
  have hD : va_D A [(w0, .inr (11, [.ref qn1, .ref qn2, .ref qn3, .ref qn4, .ref qn5, .long 0, .long 0, .int 0, .int 0, .ref qn6, .int 0, .int 0, .int (-1), .ref qn7, .int 0, .int 0, .int 0, .int 0, .int 0, .int 0, .int 0, .int 0, .int 0, .int 0, .int 0, .long 0, .int 0, .ref qn8, .ref qn9, .ref qn10, .ref qn11, .ref qn12, .ref qn13, .ref qn14, .ref qn15, .ref qn16, .ref qn17, .ref qn18, .int 0])), (qn1, .inl (cA 0, 326, .inl (fun _ => 0))), (qn2, .inl (cA 0, 326, .inl (fun _ => 0))), (qn3, .inl (cA 0, 326, .inl (fun _ => 0))), (qn4, .inl (cA 0, 3260, .inl (fun _ => 0))), (qn5, .inl (cA 1, 10, .inr (.inl (fun _ => 0)))), (qn6, .inl (cA 0, 700, .inl (fun _ => 0))), (qn7, .inl (cA 1, 15, .inr (.inl (vp_updL fn30 4 rn32)))), (qn8, .inl (cA 1, 10, .inr (.inl (fun _ => 0)))), (qn9, .inl (cA 1, 10, .inr (.inl (fun _ => 0)))), (qn10, .inl (cA 1, 8, .inr (.inl (fun _ => 0)))), (qn11, .inl (cA 1, 8, .inr (.inl (fun _ => 0)))), (qn12, .inl (cA 0, 400, .inl (fun _ => 0))), (qn13, .inl (cA 0, 400, .inl (fun _ => 0))), (qn14, .inl (cA 0, 11, .inl (fun _ => 0))), (qn15, .inl (cA 0, 11, .inl (fun _ => 0))), (qn16, .inl (cA 4, 400, .inl (fun _ => 0))), (qn17, .inl (cA 0, 10, .inl (fun _ => 0))), (qn18, .inl (cA 0, 100, .inl (fun _ => 0)))] := hD
  generalize (vp_updL fn30 4 rn32) = fn33 at hP hD
  have hP : va_P D vwCl [(w0, .inr (11, [.ref qn1, .ref qn2, .ref qn3, .ref qn4, .ref qn5, .long 0, .long 0, .int 0, .int 0, .ref qn6, .int 0, .int 0, .int (-1), .ref qn7, .int 0, .int 0, .int 0, .int 0, .int 0, .int 0, .int 0, .int 0, .int 0, .int 0, .int 0, .long 0, .int 0, .ref qn8, .ref qn9, .ref qn10, .ref qn11, .ref qn12, .ref qn13, .ref qn14, .ref qn15, .ref qn16, .ref qn17, .ref qn18, .int 0])), (qn1, .inl (cA 0, 326, .inl (fun _ => 0))), (qn2, .inl (cA 0, 326, .inl (fun _ => 0))), (qn3, .inl (cA 0, 326, .inl (fun _ => 0))), (qn4, .inl (cA 0, 3260, .inl (fun _ => 0))), (qn5, .inl (cA 1, 10, .inr (.inl (fun _ => 0)))), (qn6, .inl (cA 0, 700, .inl (fun _ => 0))), (qn7, .inl (cA 1, 15, .inr (.inl fn33))), (qn8, .inl (cA 1, 10, .inr (.inl (fun _ => 0)))), (qn9, .inl (cA 1, 10, .inr (.inl (fun _ => 0)))), (qn10, .inl (cA 1, 8, .inr (.inl (fun _ => 0)))), (qn11, .inl (cA 1, 8, .inr (.inl (fun _ => 0)))), (qn12, .inl (cA 0, 400, .inl (fun _ => 0))), (qn13, .inl (cA 0, 400, .inl (fun _ => 0))), (qn14, .inl (cA 0, 11, .inl (fun _ => 0))), (qn15, .inl (cA 0, 11, .inl (fun _ => 0))), (qn16, .inl (cA 4, 400, .inl (fun _ => 0))), (qn17, .inl (cA 0, 10, .inl (fun _ => 0))), (qn18, .inl (cA 0, 100, .inl (fun _ => 0)))] H := hP
  have hD : va_D A [(w0, .inr (11, [.ref qn1, .ref qn2, .ref qn3, .ref qn4, .ref qn5, .long 0, .long 0, .int 0, .int 0, .ref qn6, .int 0, .int 0, .int (-1), .ref qn7, .int 0, .int 0, .int 0, .int 0, .int 0, .int 0, .int 0, .int 0, .int 0, .int 0, .int 0, .long 0, .int 0, .ref qn8, .ref qn9, .ref qn10, .ref qn11, .ref qn12, .ref qn13, .ref qn14, .ref qn15, .ref qn16, .ref qn17, .ref qn18, .int 0])), (qn1, .inl (cA 0, 326, .inl (fun _ => 0))), (qn2, .inl (cA 0, 326, .inl (fun _ => 0))), (qn3, .inl (cA 0, 326, .inl (fun _ => 0))), (qn4, .inl (cA 0, 3260, .inl (fun _ => 0))), (qn5, .inl (cA 1, 10, .inr (.inl (fun _ => 0)))), (qn6, .inl (cA 0, 700, .inl (fun _ => 0))), (qn7, .inl (cA 1, 15, .inr (.inl fn33))), (qn8, .inl (cA 1, 10, .inr (.inl (fun _ => 0)))), (qn9, .inl (cA 1, 10, .inr (.inl (fun _ => 0)))), (qn10, .inl (cA 1, 8, .inr (.inl (fun _ => 0)))), (qn11, .inl (cA 1, 8, .inr (.inl (fun _ => 0)))), (qn12, .inl (cA 0, 400, .inl (fun _ => 0))), (qn13, .inl (cA 0, 400, .inl (fun _ => 0))), (qn14, .inl (cA 0, 11, .inl (fun _ => 0))), (qn15, .inl (cA 0, 11, .inl (fun _ => 0))), (qn16, .inl (cA 4, 400, .inl (fun _ => 0))), (qn17, .inl (cA 0, 10, .inl (fun _ => 0))), (qn18, .inl (cA 0, 100, .inl (fun _ => 0)))] := hD
  refine lv_iinc (v := 5) (lv' := [(1, .int 5), (0, .ref w0)]) hx hb dX10_init_181 hl (k := 0) rfl (by first | rfl | decide +kernel) (by decide) rfl (fun ls hl => ?_)
  refine lv_goto (tgt := 163) hx hb dX10_init_184 (by decide) ?_
  refine lv_iload_n hx hb dX10_init_163 rfl (lv_at hl 0 rfl) ?_
  refine lv_bipush (v := 15) hx hb dX10_init_164 (by decide) ?_
  refine lv_icmp_ge (tgt := 187) hx hb dX10_init_166 (by decide) (fun c9 => absurd c9 (by decide)) (fun c34 => ?_)
  refine lv_aload_n hx hb dX10_init_169 rfl (lv_at hl 1 rfl) ?_
  refine va_get (D := D) (ci := 11) (v := .ref qn7) (C := RX10) (T := TX10) (N := 39) hx hb hts inX10 hown hK hP 0 rfl rfl 13 (by decide) (hts (.fieldLink RX10 33 "EscrowDeskModel" "keywords" "[J") (by decide +kernel)) (fun _ h9 => h9) rfl dX10_init_170 ?_
  refine lv_iload_n hx hb dX10_init_173 rfl (lv_at hl 0 rfl) ?_
  refine va_ldcS hx hb hown (hC.str 24 rfl) dX10_init_174 ?_
  refine lv_iload_n hx hb dX10_init_176 rfl (lv_at hl 0 rfl) ?_
  have hPc := hP.sub (ws' := []) [] rfl
  have hDc := hD.sub (ws' := []) [] (by decide) rfl
  have hFc := va_free (wc := []) hD hS hA [] rfl
  refine va_calll (va_runS (As := [.ref (sa 24), .int 5]) (rest := [.int 5, .ref qn7]) ⟨hx, hb, hml, hown, hts⟩ (c_m_wordAt l D cA sa 24 5 ([114, 97, 116, 101, 32, 102, 101, 101, 32, 103, 114, 97, 99, 101, 32, 100, 101, 112, 111, 115, 105, 116, 32, 109, 105, 108, 101, 115, 116, 111, 110, 101, 32, 119, 104, 101, 110, 32, 111, 114, 32, 97, 110, 100, 32, 110, 111, 116, 32, 100, 97, 121, 32, 112, 114, 111, 111, 102, 32, 100, 111, 110, 101, 32, 115, 117, 109, 32, 97, 112, 112, 114, 111, 118, 101, 100, 32, 97, 108, 119, 97, 121, 115, 32]) H.size (by decide +kernel) (by decide +kernel)) (va_cwS 2 hts gX10_init_X10_wordAt rfl rfl rfl (by decide +kernel) ⟨(Nat.le_of_ble_eq_true rfl), (Nat.le_of_ble_eq_true rfl)⟩) ⟨Wd.blind, fun U hU hW => ⟨rfl, Wd.call hPc hDc hK hC hZ hS hFc U hU hW⟩⟩ rfl rfl hl.1 rfl (lv_room (Nat.le_of_ble_eq_true rfl)) dX10_init_177 ⟨(Nat.le_of_ble_eq_true rfl), (Nat.le_of_ble_eq_true rfl)⟩) hS (fun q _ h => hFc q h) hFc (fun rn35 u t H1 locs ht hvm hw hB hz1 hk1 hS => ?_)
  obtain ⟨hP1, hD1⟩ := hB
  rw [ht] at hP1
  obtain ⟨hP, hD⟩ := va_join (wr := [(w0, .inr (11, [.ref qn1, .ref qn2, .ref qn3, .ref qn4, .ref qn5, .long 0, .long 0, .int 0, .int 0, .ref qn6, .int 0, .int 0, .int (-1), .ref qn7, .int 0, .int 0, .int 0, .int 0, .int 0, .int 0, .int 0, .int 0, .int 0, .int 0, .int 0, .long 0, .int 0, .ref qn8, .ref qn9, .ref qn10, .ref qn11, .ref qn12, .ref qn13, .ref qn14, .ref qn15, .ref qn16, .ref qn17, .ref qn18, .int 0])), (qn1, .inl (cA 0, 326, .inl (fun _ => 0))), (qn2, .inl (cA 0, 326, .inl (fun _ => 0))), (qn3, .inl (cA 0, 326, .inl (fun _ => 0))), (qn4, .inl (cA 0, 3260, .inl (fun _ => 0))), (qn5, .inl (cA 1, 10, .inr (.inl (fun _ => 0)))), (qn6, .inl (cA 0, 700, .inl (fun _ => 0))), (qn7, .inl (cA 1, 15, .inr (.inl fn33))), (qn8, .inl (cA 1, 10, .inr (.inl (fun _ => 0)))), (qn9, .inl (cA 1, 10, .inr (.inl (fun _ => 0)))), (qn10, .inl (cA 1, 8, .inr (.inl (fun _ => 0)))), (qn11, .inl (cA 1, 8, .inr (.inl (fun _ => 0)))), (qn12, .inl (cA 0, 400, .inl (fun _ => 0))), (qn13, .inl (cA 0, 400, .inl (fun _ => 0))), (qn14, .inl (cA 0, 11, .inl (fun _ => 0))), (qn15, .inl (cA 0, 11, .inl (fun _ => 0))), (qn16, .inl (cA 4, 400, .inl (fun _ => 0))), (qn17, .inl (cA 0, 10, .inl (fun _ => 0))), (qn18, .inl (cA 0, 100, .inl (fun _ => 0)))]) (w1 := []) hP hD [] [0, 1, 2, 3, 4, 5, 6, 7, 8, 9, 10, 11, 12, 13, 14, 15, 16, 17, 18] rfl rfl (by decide) (by decide) hk1 hFc hP1 hD1
  generalize H1 = H at hP hS ⊢
  have hP : va_P D vwCl [(w0, .inr (11, [.ref qn1, .ref qn2, .ref qn3, .ref qn4, .ref qn5, .long 0, .long 0, .int 0, .int 0, .ref qn6, .int 0, .int 0, .int (-1), .ref qn7, .int 0, .int 0, .int 0, .int 0, .int 0, .int 0, .int 0, .int 0, .int 0, .int 0, .int 0, .long 0, .int 0, .ref qn8, .ref qn9, .ref qn10, .ref qn11, .ref qn12, .ref qn13, .ref qn14, .ref qn15, .ref qn16, .ref qn17, .ref qn18, .int 0])), (qn1, .inl (cA 0, 326, .inl (fun _ => 0))), (qn2, .inl (cA 0, 326, .inl (fun _ => 0))), (qn3, .inl (cA 0, 326, .inl (fun _ => 0))), (qn4, .inl (cA 0, 3260, .inl (fun _ => 0))), (qn5, .inl (cA 1, 10, .inr (.inl (fun _ => 0)))), (qn6, .inl (cA 0, 700, .inl (fun _ => 0))), (qn7, .inl (cA 1, 15, .inr (.inl fn33))), (qn8, .inl (cA 1, 10, .inr (.inl (fun _ => 0)))), (qn9, .inl (cA 1, 10, .inr (.inl (fun _ => 0)))), (qn10, .inl (cA 1, 8, .inr (.inl (fun _ => 0)))), (qn11, .inl (cA 1, 8, .inr (.inl (fun _ => 0)))), (qn12, .inl (cA 0, 400, .inl (fun _ => 0))), (qn13, .inl (cA 0, 400, .inl (fun _ => 0))), (qn14, .inl (cA 0, 11, .inl (fun _ => 0))), (qn15, .inl (cA 0, 11, .inl (fun _ => 0))), (qn16, .inl (cA 4, 400, .inl (fun _ => 0))), (qn17, .inl (cA 0, 10, .inl (fun _ => 0))), (qn18, .inl (cA 0, 100, .inl (fun _ => 0)))] H := hP
  have hD : va_D A [(w0, .inr (11, [.ref qn1, .ref qn2, .ref qn3, .ref qn4, .ref qn5, .long 0, .long 0, .int 0, .int 0, .ref qn6, .int 0, .int 0, .int (-1), .ref qn7, .int 0, .int 0, .int 0, .int 0, .int 0, .int 0, .int 0, .int 0, .int 0, .int 0, .int 0, .long 0, .int 0, .ref qn8, .ref qn9, .ref qn10, .ref qn11, .ref qn12, .ref qn13, .ref qn14, .ref qn15, .ref qn16, .ref qn17, .ref qn18, .int 0])), (qn1, .inl (cA 0, 326, .inl (fun _ => 0))), (qn2, .inl (cA 0, 326, .inl (fun _ => 0))), (qn3, .inl (cA 0, 326, .inl (fun _ => 0))), (qn4, .inl (cA 0, 3260, .inl (fun _ => 0))), (qn5, .inl (cA 1, 10, .inr (.inl (fun _ => 0)))), (qn6, .inl (cA 0, 700, .inl (fun _ => 0))), (qn7, .inl (cA 1, 15, .inr (.inl fn33))), (qn8, .inl (cA 1, 10, .inr (.inl (fun _ => 0)))), (qn9, .inl (cA 1, 10, .inr (.inl (fun _ => 0)))), (qn10, .inl (cA 1, 8, .inr (.inl (fun _ => 0)))), (qn11, .inl (cA 1, 8, .inr (.inl (fun _ => 0)))), (qn12, .inl (cA 0, 400, .inl (fun _ => 0))), (qn13, .inl (cA 0, 400, .inl (fun _ => 0))), (qn14, .inl (cA 0, 11, .inl (fun _ => 0))), (qn15, .inl (cA 0, 11, .inl (fun _ => 0))), (qn16, .inl (cA 4, 400, .inl (fun _ => 0))), (qn17, .inl (cA 0, 10, .inl (fun _ => 0))), (qn18, .inl (cA 0, 100, .inl (fun _ => 0)))] := hD
  refine va_last hx hb hK hP hD hS 7 1 rfl rfl (vp_in_iff.mpr (by decide)) dX10_init_180 (fun H locs hP hD hS => ?_)
  have hP : va_P D vwCl [(w0, .inr (11, [.ref qn1, .ref qn2, .ref qn3, .ref qn4, .ref qn5, .long 0, .long 0, .int 0, .int 0, .ref qn6, .int 0, .int 0, .int (-1), .ref qn7, .int 0, .int 0, .int 0, .int 0, .int 0, .int 0, .int 0, .int 0, .int 0, .int 0, .int 0, .long 0, .int 0, .ref qn8, .ref qn9, .ref qn10, .ref qn11, .ref qn12, .ref qn13, .ref qn14, .ref qn15, .ref qn16, .ref qn17, .ref qn18, .int 0])), (qn1, .inl (cA 0, 326, .inl (fun _ => 0))), (qn2, .inl (cA 0, 326, .inl (fun _ => 0))), (qn3, .inl (cA 0, 326, .inl (fun _ => 0))), (qn4, .inl (cA 0, 3260, .inl (fun _ => 0))), (qn5, .inl (cA 1, 10, .inr (.inl (fun _ => 0)))), (qn6, .inl (cA 0, 700, .inl (fun _ => 0))), (qn7, .inl (cA 1, 15, .inr (.inl (vp_updL fn33 5 rn35)))), (qn8, .inl (cA 1, 10, .inr (.inl (fun _ => 0)))), (qn9, .inl (cA 1, 10, .inr (.inl (fun _ => 0)))), (qn10, .inl (cA 1, 8, .inr (.inl (fun _ => 0)))), (qn11, .inl (cA 1, 8, .inr (.inl (fun _ => 0)))), (qn12, .inl (cA 0, 400, .inl (fun _ => 0))), (qn13, .inl (cA 0, 400, .inl (fun _ => 0))), (qn14, .inl (cA 0, 11, .inl (fun _ => 0))), (qn15, .inl (cA 0, 11, .inl (fun _ => 0))), (qn16, .inl (cA 4, 400, .inl (fun _ => 0))), (qn17, .inl (cA 0, 10, .inl (fun _ => 0))), (qn18, .inl (cA 0, 100, .inl (fun _ => 0)))] H := hP
  have hD : va_D A [(w0, .inr (11, [.ref qn1, .ref qn2, .ref qn3, .ref qn4, .ref qn5, .long 0, .long 0, .int 0, .int 0, .ref qn6, .int 0, .int 0, .int (-1), .ref qn7, .int 0, .int 0, .int 0, .int 0, .int 0, .int 0, .int 0, .int 0, .int 0, .int 0, .int 0, .long 0, .int 0, .ref qn8, .ref qn9, .ref qn10, .ref qn11, .ref qn12, .ref qn13, .ref qn14, .ref qn15, .ref qn16, .ref qn17, .ref qn18, .int 0])), (qn1, .inl (cA 0, 326, .inl (fun _ => 0))), (qn2, .inl (cA 0, 326, .inl (fun _ => 0))), (qn3, .inl (cA 0, 326, .inl (fun _ => 0))), (qn4, .inl (cA 0, 3260, .inl (fun _ => 0))), (qn5, .inl (cA 1, 10, .inr (.inl (fun _ => 0)))), (qn6, .inl (cA 0, 700, .inl (fun _ => 0))), (qn7, .inl (cA 1, 15, .inr (.inl (vp_updL fn33 5 rn35)))), (qn8, .inl (cA 1, 10, .inr (.inl (fun _ => 0)))), (qn9, .inl (cA 1, 10, .inr (.inl (fun _ => 0)))), (qn10, .inl (cA 1, 8, .inr (.inl (fun _ => 0)))), (qn11, .inl (cA 1, 8, .inr (.inl (fun _ => 0)))), (qn12, .inl (cA 0, 400, .inl (fun _ => 0))), (qn13, .inl (cA 0, 400, .inl (fun _ => 0))), (qn14, .inl (cA 0, 11, .inl (fun _ => 0))), (qn15, .inl (cA 0, 11, .inl (fun _ => 0))), (qn16, .inl (cA 4, 400, .inl (fun _ => 0))), (qn17, .inl (cA 0, 10, .inl (fun _ => 0))), (qn18, .inl (cA 0, 100, .inl (fun _ => 0)))] := hD
  generalize (vp_updL fn33 5 rn35) = fn36 at hP hD
  have hP : va_P D vwCl [(w0, .inr (11, [.ref qn1, .ref qn2, .ref qn3, .ref qn4, .ref qn5, .long 0, .long 0, .int 0, .int 0, .ref qn6, .int 0, .int 0, .int (-1), .ref qn7, .int 0, .int 0, .int 0, .int 0, .int 0, .int 0, .int 0, .int 0, .int 0, .int 0, .int 0, .long 0, .int 0, .ref qn8, .ref qn9, .ref qn10, .ref qn11, .ref qn12, .ref qn13, .ref qn14, .ref qn15, .ref qn16, .ref qn17, .ref qn18, .int 0])), (qn1, .inl (cA 0, 326, .inl (fun _ => 0))), (qn2, .inl (cA 0, 326, .inl (fun _ => 0))), (qn3, .inl (cA 0, 326, .inl (fun _ => 0))), (qn4, .inl (cA 0, 3260, .inl (fun _ => 0))), (qn5, .inl (cA 1, 10, .inr (.inl (fun _ => 0)))), (qn6, .inl (cA 0, 700, .inl (fun _ => 0))), (qn7, .inl (cA 1, 15, .inr (.inl fn36))), (qn8, .inl (cA 1, 10, .inr (.inl (fun _ => 0)))), (qn9, .inl (cA 1, 10, .inr (.inl (fun _ => 0)))), (qn10, .inl (cA 1, 8, .inr (.inl (fun _ => 0)))), (qn11, .inl (cA 1, 8, .inr (.inl (fun _ => 0)))), (qn12, .inl (cA 0, 400, .inl (fun _ => 0))), (qn13, .inl (cA 0, 400, .inl (fun _ => 0))), (qn14, .inl (cA 0, 11, .inl (fun _ => 0))), (qn15, .inl (cA 0, 11, .inl (fun _ => 0))), (qn16, .inl (cA 4, 400, .inl (fun _ => 0))), (qn17, .inl (cA 0, 10, .inl (fun _ => 0))), (qn18, .inl (cA 0, 100, .inl (fun _ => 0)))] H := hP
  have hD : va_D A [(w0, .inr (11, [.ref qn1, .ref qn2, .ref qn3, .ref qn4, .ref qn5, .long 0, .long 0, .int 0, .int 0, .ref qn6, .int 0, .int 0, .int (-1), .ref qn7, .int 0, .int 0, .int 0, .int 0, .int 0, .int 0, .int 0, .int 0, .int 0, .int 0, .int 0, .long 0, .int 0, .ref qn8, .ref qn9, .ref qn10, .ref qn11, .ref qn12, .ref qn13, .ref qn14, .ref qn15, .ref qn16, .ref qn17, .ref qn18, .int 0])), (qn1, .inl (cA 0, 326, .inl (fun _ => 0))), (qn2, .inl (cA 0, 326, .inl (fun _ => 0))), (qn3, .inl (cA 0, 326, .inl (fun _ => 0))), (qn4, .inl (cA 0, 3260, .inl (fun _ => 0))), (qn5, .inl (cA 1, 10, .inr (.inl (fun _ => 0)))), (qn6, .inl (cA 0, 700, .inl (fun _ => 0))), (qn7, .inl (cA 1, 15, .inr (.inl fn36))), (qn8, .inl (cA 1, 10, .inr (.inl (fun _ => 0)))), (qn9, .inl (cA 1, 10, .inr (.inl (fun _ => 0)))), (qn10, .inl (cA 1, 8, .inr (.inl (fun _ => 0)))), (qn11, .inl (cA 1, 8, .inr (.inl (fun _ => 0)))), (qn12, .inl (cA 0, 400, .inl (fun _ => 0))), (qn13, .inl (cA 0, 400, .inl (fun _ => 0))), (qn14, .inl (cA 0, 11, .inl (fun _ => 0))), (qn15, .inl (cA 0, 11, .inl (fun _ => 0))), (qn16, .inl (cA 4, 400, .inl (fun _ => 0))), (qn17, .inl (cA 0, 10, .inl (fun _ => 0))), (qn18, .inl (cA 0, 100, .inl (fun _ => 0)))] := hD
  refine lv_iinc (v := 6) (lv' := [(1, .int 6), (0, .ref w0)]) hx hb dX10_init_181 hl (k := 0) rfl (by first | rfl | decide +kernel) (by decide) rfl (fun ls hl => ?_)
  refine lv_goto (tgt := 163) hx hb dX10_init_184 (by decide) ?_
  refine lv_iload_n hx hb dX10_init_163 rfl (lv_at hl 0 rfl) ?_
  refine lv_bipush (v := 15) hx hb dX10_init_164 (by decide) ?_
  refine lv_icmp_ge (tgt := 187) hx hb dX10_init_166 (by decide) (fun c9 => absurd c9 (by decide)) (fun c37 => ?_)
  refine lv_aload_n hx hb dX10_init_169 rfl (lv_at hl 1 rfl) ?_
  refine va_get (D := D) (ci := 11) (v := .ref qn7) (C := RX10) (T := TX10) (N := 39) hx hb hts inX10 hown hK hP 0 rfl rfl 13 (by decide) (hts (.fieldLink RX10 33 "EscrowDeskModel" "keywords" "[J") (by decide +kernel)) (fun _ h9 => h9) rfl dX10_init_170 ?_
  refine lv_iload_n hx hb dX10_init_173 rfl (lv_at hl 0 rfl) ?_
  refine va_ldcS hx hb hown (hC.str 24 rfl) dX10_init_174 ?_
  refine lv_iload_n hx hb dX10_init_176 rfl (lv_at hl 0 rfl) ?_
  have hPc := hP.sub (ws' := []) [] rfl
  have hDc := hD.sub (ws' := []) [] (by decide) rfl
  have hFc := va_free (wc := []) hD hS hA [] rfl
  refine va_calll (va_runS (As := [.ref (sa 24), .int 6]) (rest := [.int 6, .ref qn7]) ⟨hx, hb, hml, hown, hts⟩ (c_m_wordAt l D cA sa 24 6 ([114, 97, 116, 101, 32, 102, 101, 101, 32, 103, 114, 97, 99, 101, 32, 100, 101, 112, 111, 115, 105, 116, 32, 109, 105, 108, 101, 115, 116, 111, 110, 101, 32, 119, 104, 101, 110, 32, 111, 114, 32, 97, 110, 100, 32, 110, 111, 116, 32, 100, 97, 121, 32, 112, 114, 111, 111, 102, 32, 100, 111, 110, 101, 32, 115, 117, 109, 32, 97, 112, 112, 114, 111, 118, 101, 100, 32, 97, 108, 119, 97, 121, 115, 32]) H.size (by decide +kernel) (by decide +kernel)) (va_cwS 2 hts gX10_init_X10_wordAt rfl rfl rfl (by decide +kernel) ⟨(Nat.le_of_ble_eq_true rfl), (Nat.le_of_ble_eq_true rfl)⟩) ⟨Wd.blind, fun U hU hW => ⟨rfl, Wd.call hPc hDc hK hC hZ hS hFc U hU hW⟩⟩ rfl rfl hl.1 rfl (lv_room (Nat.le_of_ble_eq_true rfl)) dX10_init_177 ⟨(Nat.le_of_ble_eq_true rfl), (Nat.le_of_ble_eq_true rfl)⟩) hS (fun q _ h => hFc q h) hFc (fun rn38 u t H1 locs ht hvm hw hB hz1 hk1 hS => ?_)
  obtain ⟨hP1, hD1⟩ := hB
  rw [ht] at hP1
  obtain ⟨hP, hD⟩ := va_join (wr := [(w0, .inr (11, [.ref qn1, .ref qn2, .ref qn3, .ref qn4, .ref qn5, .long 0, .long 0, .int 0, .int 0, .ref qn6, .int 0, .int 0, .int (-1), .ref qn7, .int 0, .int 0, .int 0, .int 0, .int 0, .int 0, .int 0, .int 0, .int 0, .int 0, .int 0, .long 0, .int 0, .ref qn8, .ref qn9, .ref qn10, .ref qn11, .ref qn12, .ref qn13, .ref qn14, .ref qn15, .ref qn16, .ref qn17, .ref qn18, .int 0])), (qn1, .inl (cA 0, 326, .inl (fun _ => 0))), (qn2, .inl (cA 0, 326, .inl (fun _ => 0))), (qn3, .inl (cA 0, 326, .inl (fun _ => 0))), (qn4, .inl (cA 0, 3260, .inl (fun _ => 0))), (qn5, .inl (cA 1, 10, .inr (.inl (fun _ => 0)))), (qn6, .inl (cA 0, 700, .inl (fun _ => 0))), (qn7, .inl (cA 1, 15, .inr (.inl fn36))), (qn8, .inl (cA 1, 10, .inr (.inl (fun _ => 0)))), (qn9, .inl (cA 1, 10, .inr (.inl (fun _ => 0)))), (qn10, .inl (cA 1, 8, .inr (.inl (fun _ => 0)))), (qn11, .inl (cA 1, 8, .inr (.inl (fun _ => 0)))), (qn12, .inl (cA 0, 400, .inl (fun _ => 0))), (qn13, .inl (cA 0, 400, .inl (fun _ => 0))), (qn14, .inl (cA 0, 11, .inl (fun _ => 0))), (qn15, .inl (cA 0, 11, .inl (fun _ => 0))), (qn16, .inl (cA 4, 400, .inl (fun _ => 0))), (qn17, .inl (cA 0, 10, .inl (fun _ => 0))), (qn18, .inl (cA 0, 100, .inl (fun _ => 0)))]) (w1 := []) hP hD [] [0, 1, 2, 3, 4, 5, 6, 7, 8, 9, 10, 11, 12, 13, 14, 15, 16, 17, 18] rfl rfl (by decide) (by decide) hk1 hFc hP1 hD1
  generalize H1 = H at hP hS ⊢
  have hP : va_P D vwCl [(w0, .inr (11, [.ref qn1, .ref qn2, .ref qn3, .ref qn4, .ref qn5, .long 0, .long 0, .int 0, .int 0, .ref qn6, .int 0, .int 0, .int (-1), .ref qn7, .int 0, .int 0, .int 0, .int 0, .int 0, .int 0, .int 0, .int 0, .int 0, .int 0, .int 0, .long 0, .int 0, .ref qn8, .ref qn9, .ref qn10, .ref qn11, .ref qn12, .ref qn13, .ref qn14, .ref qn15, .ref qn16, .ref qn17, .ref qn18, .int 0])), (qn1, .inl (cA 0, 326, .inl (fun _ => 0))), (qn2, .inl (cA 0, 326, .inl (fun _ => 0))), (qn3, .inl (cA 0, 326, .inl (fun _ => 0))), (qn4, .inl (cA 0, 3260, .inl (fun _ => 0))), (qn5, .inl (cA 1, 10, .inr (.inl (fun _ => 0)))), (qn6, .inl (cA 0, 700, .inl (fun _ => 0))), (qn7, .inl (cA 1, 15, .inr (.inl fn36))), (qn8, .inl (cA 1, 10, .inr (.inl (fun _ => 0)))), (qn9, .inl (cA 1, 10, .inr (.inl (fun _ => 0)))), (qn10, .inl (cA 1, 8, .inr (.inl (fun _ => 0)))), (qn11, .inl (cA 1, 8, .inr (.inl (fun _ => 0)))), (qn12, .inl (cA 0, 400, .inl (fun _ => 0))), (qn13, .inl (cA 0, 400, .inl (fun _ => 0))), (qn14, .inl (cA 0, 11, .inl (fun _ => 0))), (qn15, .inl (cA 0, 11, .inl (fun _ => 0))), (qn16, .inl (cA 4, 400, .inl (fun _ => 0))), (qn17, .inl (cA 0, 10, .inl (fun _ => 0))), (qn18, .inl (cA 0, 100, .inl (fun _ => 0)))] H := hP
  have hD : va_D A [(w0, .inr (11, [.ref qn1, .ref qn2, .ref qn3, .ref qn4, .ref qn5, .long 0, .long 0, .int 0, .int 0, .ref qn6, .int 0, .int 0, .int (-1), .ref qn7, .int 0, .int 0, .int 0, .int 0, .int 0, .int 0, .int 0, .int 0, .int 0, .int 0, .int 0, .long 0, .int 0, .ref qn8, .ref qn9, .ref qn10, .ref qn11, .ref qn12, .ref qn13, .ref qn14, .ref qn15, .ref qn16, .ref qn17, .ref qn18, .int 0])), (qn1, .inl (cA 0, 326, .inl (fun _ => 0))), (qn2, .inl (cA 0, 326, .inl (fun _ => 0))), (qn3, .inl (cA 0, 326, .inl (fun _ => 0))), (qn4, .inl (cA 0, 3260, .inl (fun _ => 0))), (qn5, .inl (cA 1, 10, .inr (.inl (fun _ => 0)))), (qn6, .inl (cA 0, 700, .inl (fun _ => 0))), (qn7, .inl (cA 1, 15, .inr (.inl fn36))), (qn8, .inl (cA 1, 10, .inr (.inl (fun _ => 0)))), (qn9, .inl (cA 1, 10, .inr (.inl (fun _ => 0)))), (qn10, .inl (cA 1, 8, .inr (.inl (fun _ => 0)))), (qn11, .inl (cA 1, 8, .inr (.inl (fun _ => 0)))), (qn12, .inl (cA 0, 400, .inl (fun _ => 0))), (qn13, .inl (cA 0, 400, .inl (fun _ => 0))), (qn14, .inl (cA 0, 11, .inl (fun _ => 0))), (qn15, .inl (cA 0, 11, .inl (fun _ => 0))), (qn16, .inl (cA 4, 400, .inl (fun _ => 0))), (qn17, .inl (cA 0, 10, .inl (fun _ => 0))), (qn18, .inl (cA 0, 100, .inl (fun _ => 0)))] := hD
  refine va_last hx hb hK hP hD hS 7 1 rfl rfl (vp_in_iff.mpr (by decide)) dX10_init_180 (fun H locs hP hD hS => ?_)
  have hP : va_P D vwCl [(w0, .inr (11, [.ref qn1, .ref qn2, .ref qn3, .ref qn4, .ref qn5, .long 0, .long 0, .int 0, .int 0, .ref qn6, .int 0, .int 0, .int (-1), .ref qn7, .int 0, .int 0, .int 0, .int 0, .int 0, .int 0, .int 0, .int 0, .int 0, .int 0, .int 0, .long 0, .int 0, .ref qn8, .ref qn9, .ref qn10, .ref qn11, .ref qn12, .ref qn13, .ref qn14, .ref qn15, .ref qn16, .ref qn17, .ref qn18, .int 0])), (qn1, .inl (cA 0, 326, .inl (fun _ => 0))), (qn2, .inl (cA 0, 326, .inl (fun _ => 0))), (qn3, .inl (cA 0, 326, .inl (fun _ => 0))), (qn4, .inl (cA 0, 3260, .inl (fun _ => 0))), (qn5, .inl (cA 1, 10, .inr (.inl (fun _ => 0)))), (qn6, .inl (cA 0, 700, .inl (fun _ => 0))), (qn7, .inl (cA 1, 15, .inr (.inl (vp_updL fn36 6 rn38)))), (qn8, .inl (cA 1, 10, .inr (.inl (fun _ => 0)))), (qn9, .inl (cA 1, 10, .inr (.inl (fun _ => 0)))), (qn10, .inl (cA 1, 8, .inr (.inl (fun _ => 0)))), (qn11, .inl (cA 1, 8, .inr (.inl (fun _ => 0)))), (qn12, .inl (cA 0, 400, .inl (fun _ => 0))), (qn13, .inl (cA 0, 400, .inl (fun _ => 0))), (qn14, .inl (cA 0, 11, .inl (fun _ => 0))), (qn15, .inl (cA 0, 11, .inl (fun _ => 0))), (qn16, .inl (cA 4, 400, .inl (fun _ => 0))), (qn17, .inl (cA 0, 10, .inl (fun _ => 0))), (qn18, .inl (cA 0, 100, .inl (fun _ => 0)))] H := hP
  have hD : va_D A [(w0, .inr (11, [.ref qn1, .ref qn2, .ref qn3, .ref qn4, .ref qn5, .long 0, .long 0, .int 0, .int 0, .ref qn6, .int 0, .int 0, .int (-1), .ref qn7, .int 0, .int 0, .int 0, .int 0, .int 0, .int 0, .int 0, .int 0, .int 0, .int 0, .int 0, .long 0, .int 0, .ref qn8, .ref qn9, .ref qn10, .ref qn11, .ref qn12, .ref qn13, .ref qn14, .ref qn15, .ref qn16, .ref qn17, .ref qn18, .int 0])), (qn1, .inl (cA 0, 326, .inl (fun _ => 0))), (qn2, .inl (cA 0, 326, .inl (fun _ => 0))), (qn3, .inl (cA 0, 326, .inl (fun _ => 0))), (qn4, .inl (cA 0, 3260, .inl (fun _ => 0))), (qn5, .inl (cA 1, 10, .inr (.inl (fun _ => 0)))), (qn6, .inl (cA 0, 700, .inl (fun _ => 0))), (qn7, .inl (cA 1, 15, .inr (.inl (vp_updL fn36 6 rn38)))), (qn8, .inl (cA 1, 10, .inr (.inl (fun _ => 0)))), (qn9, .inl (cA 1, 10, .inr (.inl (fun _ => 0)))), (qn10, .inl (cA 1, 8, .inr (.inl (fun _ => 0)))), (qn11, .inl (cA 1, 8, .inr (.inl (fun _ => 0)))), (qn12, .inl (cA 0, 400, .inl (fun _ => 0))), (qn13, .inl (cA 0, 400, .inl (fun _ => 0))), (qn14, .inl (cA 0, 11, .inl (fun _ => 0))), (qn15, .inl (cA 0, 11, .inl (fun _ => 0))), (qn16, .inl (cA 4, 400, .inl (fun _ => 0))), (qn17, .inl (cA 0, 10, .inl (fun _ => 0))), (qn18, .inl (cA 0, 100, .inl (fun _ => 0)))] := hD
  generalize (vp_updL fn36 6 rn38) = fn39 at hP hD
  have hP : va_P D vwCl [(w0, .inr (11, [.ref qn1, .ref qn2, .ref qn3, .ref qn4, .ref qn5, .long 0, .long 0, .int 0, .int 0, .ref qn6, .int 0, .int 0, .int (-1), .ref qn7, .int 0, .int 0, .int 0, .int 0, .int 0, .int 0, .int 0, .int 0, .int 0, .int 0, .int 0, .long 0, .int 0, .ref qn8, .ref qn9, .ref qn10, .ref qn11, .ref qn12, .ref qn13, .ref qn14, .ref qn15, .ref qn16, .ref qn17, .ref qn18, .int 0])), (qn1, .inl (cA 0, 326, .inl (fun _ => 0))), (qn2, .inl (cA 0, 326, .inl (fun _ => 0))), (qn3, .inl (cA 0, 326, .inl (fun _ => 0))), (qn4, .inl (cA 0, 3260, .inl (fun _ => 0))), (qn5, .inl (cA 1, 10, .inr (.inl (fun _ => 0)))), (qn6, .inl (cA 0, 700, .inl (fun _ => 0))), (qn7, .inl (cA 1, 15, .inr (.inl fn39))), (qn8, .inl (cA 1, 10, .inr (.inl (fun _ => 0)))), (qn9, .inl (cA 1, 10, .inr (.inl (fun _ => 0)))), (qn10, .inl (cA 1, 8, .inr (.inl (fun _ => 0)))), (qn11, .inl (cA 1, 8, .inr (.inl (fun _ => 0)))), (qn12, .inl (cA 0, 400, .inl (fun _ => 0))), (qn13, .inl (cA 0, 400, .inl (fun _ => 0))), (qn14, .inl (cA 0, 11, .inl (fun _ => 0))), (qn15, .inl (cA 0, 11, .inl (fun _ => 0))), (qn16, .inl (cA 4, 400, .inl (fun _ => 0))), (qn17, .inl (cA 0, 10, .inl (fun _ => 0))), (qn18, .inl (cA 0, 100, .inl (fun _ => 0)))] H := hP
  have hD : va_D A [(w0, .inr (11, [.ref qn1, .ref qn2, .ref qn3, .ref qn4, .ref qn5, .long 0, .long 0, .int 0, .int 0, .ref qn6, .int 0, .int 0, .int (-1), .ref qn7, .int 0, .int 0, .int 0, .int 0, .int 0, .int 0, .int 0, .int 0, .int 0, .int 0, .int 0, .long 0, .int 0, .ref qn8, .ref qn9, .ref qn10, .ref qn11, .ref qn12, .ref qn13, .ref qn14, .ref qn15, .ref qn16, .ref qn17, .ref qn18, .int 0])), (qn1, .inl (cA 0, 326, .inl (fun _ => 0))), (qn2, .inl (cA 0, 326, .inl (fun _ => 0))), (qn3, .inl (cA 0, 326, .inl (fun _ => 0))), (qn4, .inl (cA 0, 3260, .inl (fun _ => 0))), (qn5, .inl (cA 1, 10, .inr (.inl (fun _ => 0)))), (qn6, .inl (cA 0, 700, .inl (fun _ => 0))), (qn7, .inl (cA 1, 15, .inr (.inl fn39))), (qn8, .inl (cA 1, 10, .inr (.inl (fun _ => 0)))), (qn9, .inl (cA 1, 10, .inr (.inl (fun _ => 0)))), (qn10, .inl (cA 1, 8, .inr (.inl (fun _ => 0)))), (qn11, .inl (cA 1, 8, .inr (.inl (fun _ => 0)))), (qn12, .inl (cA 0, 400, .inl (fun _ => 0))), (qn13, .inl (cA 0, 400, .inl (fun _ => 0))), (qn14, .inl (cA 0, 11, .inl (fun _ => 0))), (qn15, .inl (cA 0, 11, .inl (fun _ => 0))), (qn16, .inl (cA 4, 400, .inl (fun _ => 0))), (qn17, .inl (cA 0, 10, .inl (fun _ => 0))), (qn18, .inl (cA 0, 100, .inl (fun _ => 0)))] := hD
  refine lv_iinc (v := 7) (lv' := [(1, .int 7), (0, .ref w0)]) hx hb dX10_init_181 hl (k := 0) rfl (by first | rfl | decide +kernel) (by decide) rfl (fun ls hl => ?_)
  refine lv_goto (tgt := 163) hx hb dX10_init_184 (by decide) ?_
  refine lv_iload_n hx hb dX10_init_163 rfl (lv_at hl 0 rfl) ?_
  refine lv_bipush (v := 15) hx hb dX10_init_164 (by decide) ?_
  refine lv_icmp_ge (tgt := 187) hx hb dX10_init_166 (by decide) (fun c9 => absurd c9 (by decide)) (fun c40 => ?_)
  refine lv_aload_n hx hb dX10_init_169 rfl (lv_at hl 1 rfl) ?_
  refine va_get (D := D) (ci := 11) (v := .ref qn7) (C := RX10) (T := TX10) (N := 39) hx hb hts inX10 hown hK hP 0 rfl rfl 13 (by decide) (hts (.fieldLink RX10 33 "EscrowDeskModel" "keywords" "[J") (by decide +kernel)) (fun _ h9 => h9) rfl dX10_init_170 ?_
  refine lv_iload_n hx hb dX10_init_173 rfl (lv_at hl 0 rfl) ?_
  refine va_ldcS hx hb hown (hC.str 24 rfl) dX10_init_174 ?_
  refine lv_iload_n hx hb dX10_init_176 rfl (lv_at hl 0 rfl) ?_
  have hPc := hP.sub (ws' := []) [] rfl
  have hDc := hD.sub (ws' := []) [] (by decide) rfl
  have hFc := va_free (wc := []) hD hS hA [] rfl
  refine va_calll (va_runS (As := [.ref (sa 24), .int 7]) (rest := [.int 7, .ref qn7]) ⟨hx, hb, hml, hown, hts⟩ (c_m_wordAt l D cA sa 24 7 ([114, 97, 116, 101, 32, 102, 101, 101, 32, 103, 114, 97, 99, 101, 32, 100, 101, 112, 111, 115, 105, 116, 32, 109, 105, 108, 101, 115, 116, 111, 110, 101, 32, 119, 104, 101, 110, 32, 111, 114, 32, 97, 110, 100, 32, 110, 111, 116, 32, 100, 97, 121, 32, 112, 114, 111, 111, 102, 32, 100, 111, 110, 101, 32, 115, 117, 109, 32, 97, 112, 112, 114, 111, 118, 101, 100, 32, 97, 108, 119, 97, 121, 115, 32]) H.size (by decide +kernel) (by decide +kernel)) (va_cwS 2 hts gX10_init_X10_wordAt rfl rfl rfl (by decide +kernel) ⟨(Nat.le_of_ble_eq_true rfl), (Nat.le_of_ble_eq_true rfl)⟩) ⟨Wd.blind, fun U hU hW => ⟨rfl, Wd.call hPc hDc hK hC hZ hS hFc U hU hW⟩⟩ rfl rfl hl.1 rfl (lv_room (Nat.le_of_ble_eq_true rfl)) dX10_init_177 ⟨(Nat.le_of_ble_eq_true rfl), (Nat.le_of_ble_eq_true rfl)⟩) hS (fun q _ h => hFc q h) hFc (fun rn41 u t H1 locs ht hvm hw hB hz1 hk1 hS => ?_)
  obtain ⟨hP1, hD1⟩ := hB
  rw [ht] at hP1
  obtain ⟨hP, hD⟩ := va_join (wr := [(w0, .inr (11, [.ref qn1, .ref qn2, .ref qn3, .ref qn4, .ref qn5, .long 0, .long 0, .int 0, .int 0, .ref qn6, .int 0, .int 0, .int (-1), .ref qn7, .int 0, .int 0, .int 0, .int 0, .int 0, .int 0, .int 0, .int 0, .int 0, .int 0, .int 0, .long 0, .int 0, .ref qn8, .ref qn9, .ref qn10, .ref qn11, .ref qn12, .ref qn13, .ref qn14, .ref qn15, .ref qn16, .ref qn17, .ref qn18, .int 0])), (qn1, .inl (cA 0, 326, .inl (fun _ => 0))), (qn2, .inl (cA 0, 326, .inl (fun _ => 0))), (qn3, .inl (cA 0, 326, .inl (fun _ => 0))), (qn4, .inl (cA 0, 3260, .inl (fun _ => 0))), (qn5, .inl (cA 1, 10, .inr (.inl (fun _ => 0)))), (qn6, .inl (cA 0, 700, .inl (fun _ => 0))), (qn7, .inl (cA 1, 15, .inr (.inl fn39))), (qn8, .inl (cA 1, 10, .inr (.inl (fun _ => 0)))), (qn9, .inl (cA 1, 10, .inr (.inl (fun _ => 0)))), (qn10, .inl (cA 1, 8, .inr (.inl (fun _ => 0)))), (qn11, .inl (cA 1, 8, .inr (.inl (fun _ => 0)))), (qn12, .inl (cA 0, 400, .inl (fun _ => 0))), (qn13, .inl (cA 0, 400, .inl (fun _ => 0))), (qn14, .inl (cA 0, 11, .inl (fun _ => 0))), (qn15, .inl (cA 0, 11, .inl (fun _ => 0))), (qn16, .inl (cA 4, 400, .inl (fun _ => 0))), (qn17, .inl (cA 0, 10, .inl (fun _ => 0))), (qn18, .inl (cA 0, 100, .inl (fun _ => 0)))]) (w1 := []) hP hD [] [0, 1, 2, 3, 4, 5, 6, 7, 8, 9, 10, 11, 12, 13, 14, 15, 16, 17, 18] rfl rfl (by decide) (by decide) hk1 hFc hP1 hD1
  generalize H1 = H at hP hS ⊢
  have hP : va_P D vwCl [(w0, .inr (11, [.ref qn1, .ref qn2, .ref qn3, .ref qn4, .ref qn5, .long 0, .long 0, .int 0, .int 0, .ref qn6, .int 0, .int 0, .int (-1), .ref qn7, .int 0, .int 0, .int 0, .int 0, .int 0, .int 0, .int 0, .int 0, .int 0, .int 0, .int 0, .long 0, .int 0, .ref qn8, .ref qn9, .ref qn10, .ref qn11, .ref qn12, .ref qn13, .ref qn14, .ref qn15, .ref qn16, .ref qn17, .ref qn18, .int 0])), (qn1, .inl (cA 0, 326, .inl (fun _ => 0))), (qn2, .inl (cA 0, 326, .inl (fun _ => 0))), (qn3, .inl (cA 0, 326, .inl (fun _ => 0))), (qn4, .inl (cA 0, 3260, .inl (fun _ => 0))), (qn5, .inl (cA 1, 10, .inr (.inl (fun _ => 0)))), (qn6, .inl (cA 0, 700, .inl (fun _ => 0))), (qn7, .inl (cA 1, 15, .inr (.inl fn39))), (qn8, .inl (cA 1, 10, .inr (.inl (fun _ => 0)))), (qn9, .inl (cA 1, 10, .inr (.inl (fun _ => 0)))), (qn10, .inl (cA 1, 8, .inr (.inl (fun _ => 0)))), (qn11, .inl (cA 1, 8, .inr (.inl (fun _ => 0)))), (qn12, .inl (cA 0, 400, .inl (fun _ => 0))), (qn13, .inl (cA 0, 400, .inl (fun _ => 0))), (qn14, .inl (cA 0, 11, .inl (fun _ => 0))), (qn15, .inl (cA 0, 11, .inl (fun _ => 0))), (qn16, .inl (cA 4, 400, .inl (fun _ => 0))), (qn17, .inl (cA 0, 10, .inl (fun _ => 0))), (qn18, .inl (cA 0, 100, .inl (fun _ => 0)))] H := hP
  have hD : va_D A [(w0, .inr (11, [.ref qn1, .ref qn2, .ref qn3, .ref qn4, .ref qn5, .long 0, .long 0, .int 0, .int 0, .ref qn6, .int 0, .int 0, .int (-1), .ref qn7, .int 0, .int 0, .int 0, .int 0, .int 0, .int 0, .int 0, .int 0, .int 0, .int 0, .int 0, .long 0, .int 0, .ref qn8, .ref qn9, .ref qn10, .ref qn11, .ref qn12, .ref qn13, .ref qn14, .ref qn15, .ref qn16, .ref qn17, .ref qn18, .int 0])), (qn1, .inl (cA 0, 326, .inl (fun _ => 0))), (qn2, .inl (cA 0, 326, .inl (fun _ => 0))), (qn3, .inl (cA 0, 326, .inl (fun _ => 0))), (qn4, .inl (cA 0, 3260, .inl (fun _ => 0))), (qn5, .inl (cA 1, 10, .inr (.inl (fun _ => 0)))), (qn6, .inl (cA 0, 700, .inl (fun _ => 0))), (qn7, .inl (cA 1, 15, .inr (.inl fn39))), (qn8, .inl (cA 1, 10, .inr (.inl (fun _ => 0)))), (qn9, .inl (cA 1, 10, .inr (.inl (fun _ => 0)))), (qn10, .inl (cA 1, 8, .inr (.inl (fun _ => 0)))), (qn11, .inl (cA 1, 8, .inr (.inl (fun _ => 0)))), (qn12, .inl (cA 0, 400, .inl (fun _ => 0))), (qn13, .inl (cA 0, 400, .inl (fun _ => 0))), (qn14, .inl (cA 0, 11, .inl (fun _ => 0))), (qn15, .inl (cA 0, 11, .inl (fun _ => 0))), (qn16, .inl (cA 4, 400, .inl (fun _ => 0))), (qn17, .inl (cA 0, 10, .inl (fun _ => 0))), (qn18, .inl (cA 0, 100, .inl (fun _ => 0)))] := hD
  refine va_last hx hb hK hP hD hS 7 1 rfl rfl (vp_in_iff.mpr (by decide)) dX10_init_180 (fun H locs hP hD hS => ?_)
  have hP : va_P D vwCl [(w0, .inr (11, [.ref qn1, .ref qn2, .ref qn3, .ref qn4, .ref qn5, .long 0, .long 0, .int 0, .int 0, .ref qn6, .int 0, .int 0, .int (-1), .ref qn7, .int 0, .int 0, .int 0, .int 0, .int 0, .int 0, .int 0, .int 0, .int 0, .int 0, .int 0, .long 0, .int 0, .ref qn8, .ref qn9, .ref qn10, .ref qn11, .ref qn12, .ref qn13, .ref qn14, .ref qn15, .ref qn16, .ref qn17, .ref qn18, .int 0])), (qn1, .inl (cA 0, 326, .inl (fun _ => 0))), (qn2, .inl (cA 0, 326, .inl (fun _ => 0))), (qn3, .inl (cA 0, 326, .inl (fun _ => 0))), (qn4, .inl (cA 0, 3260, .inl (fun _ => 0))), (qn5, .inl (cA 1, 10, .inr (.inl (fun _ => 0)))), (qn6, .inl (cA 0, 700, .inl (fun _ => 0))), (qn7, .inl (cA 1, 15, .inr (.inl (vp_updL fn39 7 rn41)))), (qn8, .inl (cA 1, 10, .inr (.inl (fun _ => 0)))), (qn9, .inl (cA 1, 10, .inr (.inl (fun _ => 0)))), (qn10, .inl (cA 1, 8, .inr (.inl (fun _ => 0)))), (qn11, .inl (cA 1, 8, .inr (.inl (fun _ => 0)))), (qn12, .inl (cA 0, 400, .inl (fun _ => 0))), (qn13, .inl (cA 0, 400, .inl (fun _ => 0))), (qn14, .inl (cA 0, 11, .inl (fun _ => 0))), (qn15, .inl (cA 0, 11, .inl (fun _ => 0))), (qn16, .inl (cA 4, 400, .inl (fun _ => 0))), (qn17, .inl (cA 0, 10, .inl (fun _ => 0))), (qn18, .inl (cA 0, 100, .inl (fun _ => 0)))] H := hP
  have hD : va_D A [(w0, .inr (11, [.ref qn1, .ref qn2, .ref qn3, .ref qn4, .ref qn5, .long 0, .long 0, .int 0, .int 0, .ref qn6, .int 0, .int 0, .int (-1), .ref qn7, .int 0, .int 0, .int 0, .int 0, .int 0, .int 0, .int 0, .int 0, .int 0, .int 0, .int 0, .long 0, .int 0, .ref qn8, .ref qn9, .ref qn10, .ref qn11, .ref qn12, .ref qn13, .ref qn14, .ref qn15, .ref qn16, .ref qn17, .ref qn18, .int 0])), (qn1, .inl (cA 0, 326, .inl (fun _ => 0))), (qn2, .inl (cA 0, 326, .inl (fun _ => 0))), (qn3, .inl (cA 0, 326, .inl (fun _ => 0))), (qn4, .inl (cA 0, 3260, .inl (fun _ => 0))), (qn5, .inl (cA 1, 10, .inr (.inl (fun _ => 0)))), (qn6, .inl (cA 0, 700, .inl (fun _ => 0))), (qn7, .inl (cA 1, 15, .inr (.inl (vp_updL fn39 7 rn41)))), (qn8, .inl (cA 1, 10, .inr (.inl (fun _ => 0)))), (qn9, .inl (cA 1, 10, .inr (.inl (fun _ => 0)))), (qn10, .inl (cA 1, 8, .inr (.inl (fun _ => 0)))), (qn11, .inl (cA 1, 8, .inr (.inl (fun _ => 0)))), (qn12, .inl (cA 0, 400, .inl (fun _ => 0))), (qn13, .inl (cA 0, 400, .inl (fun _ => 0))), (qn14, .inl (cA 0, 11, .inl (fun _ => 0))), (qn15, .inl (cA 0, 11, .inl (fun _ => 0))), (qn16, .inl (cA 4, 400, .inl (fun _ => 0))), (qn17, .inl (cA 0, 10, .inl (fun _ => 0))), (qn18, .inl (cA 0, 100, .inl (fun _ => 0)))] := hD
  generalize (vp_updL fn39 7 rn41) = fn42 at hP hD
  have hP : va_P D vwCl [(w0, .inr (11, [.ref qn1, .ref qn2, .ref qn3, .ref qn4, .ref qn5, .long 0, .long 0, .int 0, .int 0, .ref qn6, .int 0, .int 0, .int (-1), .ref qn7, .int 0, .int 0, .int 0, .int 0, .int 0, .int 0, .int 0, .int 0, .int 0, .int 0, .int 0, .long 0, .int 0, .ref qn8, .ref qn9, .ref qn10, .ref qn11, .ref qn12, .ref qn13, .ref qn14, .ref qn15, .ref qn16, .ref qn17, .ref qn18, .int 0])), (qn1, .inl (cA 0, 326, .inl (fun _ => 0))), (qn2, .inl (cA 0, 326, .inl (fun _ => 0))), (qn3, .inl (cA 0, 326, .inl (fun _ => 0))), (qn4, .inl (cA 0, 3260, .inl (fun _ => 0))), (qn5, .inl (cA 1, 10, .inr (.inl (fun _ => 0)))), (qn6, .inl (cA 0, 700, .inl (fun _ => 0))), (qn7, .inl (cA 1, 15, .inr (.inl fn42))), (qn8, .inl (cA 1, 10, .inr (.inl (fun _ => 0)))), (qn9, .inl (cA 1, 10, .inr (.inl (fun _ => 0)))), (qn10, .inl (cA 1, 8, .inr (.inl (fun _ => 0)))), (qn11, .inl (cA 1, 8, .inr (.inl (fun _ => 0)))), (qn12, .inl (cA 0, 400, .inl (fun _ => 0))), (qn13, .inl (cA 0, 400, .inl (fun _ => 0))), (qn14, .inl (cA 0, 11, .inl (fun _ => 0))), (qn15, .inl (cA 0, 11, .inl (fun _ => 0))), (qn16, .inl (cA 4, 400, .inl (fun _ => 0))), (qn17, .inl (cA 0, 10, .inl (fun _ => 0))), (qn18, .inl (cA 0, 100, .inl (fun _ => 0)))] H := hP
  have hD : va_D A [(w0, .inr (11, [.ref qn1, .ref qn2, .ref qn3, .ref qn4, .ref qn5, .long 0, .long 0, .int 0, .int 0, .ref qn6, .int 0, .int 0, .int (-1), .ref qn7, .int 0, .int 0, .int 0, .int 0, .int 0, .int 0, .int 0, .int 0, .int 0, .int 0, .int 0, .long 0, .int 0, .ref qn8, .ref qn9, .ref qn10, .ref qn11, .ref qn12, .ref qn13, .ref qn14, .ref qn15, .ref qn16, .ref qn17, .ref qn18, .int 0])), (qn1, .inl (cA 0, 326, .inl (fun _ => 0))), (qn2, .inl (cA 0, 326, .inl (fun _ => 0))), (qn3, .inl (cA 0, 326, .inl (fun _ => 0))), (qn4, .inl (cA 0, 3260, .inl (fun _ => 0))), (qn5, .inl (cA 1, 10, .inr (.inl (fun _ => 0)))), (qn6, .inl (cA 0, 700, .inl (fun _ => 0))), (qn7, .inl (cA 1, 15, .inr (.inl fn42))), (qn8, .inl (cA 1, 10, .inr (.inl (fun _ => 0)))), (qn9, .inl (cA 1, 10, .inr (.inl (fun _ => 0)))), (qn10, .inl (cA 1, 8, .inr (.inl (fun _ => 0)))), (qn11, .inl (cA 1, 8, .inr (.inl (fun _ => 0)))), (qn12, .inl (cA 0, 400, .inl (fun _ => 0))), (qn13, .inl (cA 0, 400, .inl (fun _ => 0))), (qn14, .inl (cA 0, 11, .inl (fun _ => 0))), (qn15, .inl (cA 0, 11, .inl (fun _ => 0))), (qn16, .inl (cA 4, 400, .inl (fun _ => 0))), (qn17, .inl (cA 0, 10, .inl (fun _ => 0))), (qn18, .inl (cA 0, 100, .inl (fun _ => 0)))] := hD
  refine lv_iinc (v := 8) (lv' := [(1, .int 8), (0, .ref w0)]) hx hb dX10_init_181 hl (k := 0) rfl (by first | rfl | decide +kernel) (by decide) rfl (fun ls hl => ?_)
  refine lv_goto (tgt := 163) hx hb dX10_init_184 (by decide) ?_
  refine lv_iload_n hx hb dX10_init_163 rfl (lv_at hl 0 rfl) ?_
  refine lv_bipush (v := 15) hx hb dX10_init_164 (by decide) ?_
  refine lv_icmp_ge (tgt := 187) hx hb dX10_init_166 (by decide) (fun c9 => absurd c9 (by decide)) (fun c43 => ?_)
  refine lv_aload_n hx hb dX10_init_169 rfl (lv_at hl 1 rfl) ?_
  refine va_get (D := D) (ci := 11) (v := .ref qn7) (C := RX10) (T := TX10) (N := 39) hx hb hts inX10 hown hK hP 0 rfl rfl 13 (by decide) (hts (.fieldLink RX10 33 "EscrowDeskModel" "keywords" "[J") (by decide +kernel)) (fun _ h9 => h9) rfl dX10_init_170 ?_
  refine lv_iload_n hx hb dX10_init_173 rfl (lv_at hl 0 rfl) ?_
  refine va_ldcS hx hb hown (hC.str 24 rfl) dX10_init_174 ?_
  refine lv_iload_n hx hb dX10_init_176 rfl (lv_at hl 0 rfl) ?_
  have hPc := hP.sub (ws' := []) [] rfl
  have hDc := hD.sub (ws' := []) [] (by decide) rfl
  have hFc := va_free (wc := []) hD hS hA [] rfl
  refine va_calll (va_runS (As := [.ref (sa 24), .int 8]) (rest := [.int 8, .ref qn7]) ⟨hx, hb, hml, hown, hts⟩ (c_m_wordAt l D cA sa 24 8 ([114, 97, 116, 101, 32, 102, 101, 101, 32, 103, 114, 97, 99, 101, 32, 100, 101, 112, 111, 115, 105, 116, 32, 109, 105, 108, 101, 115, 116, 111, 110, 101, 32, 119, 104, 101, 110, 32, 111, 114, 32, 97, 110, 100, 32, 110, 111, 116, 32, 100, 97, 121, 32, 112, 114, 111, 111, 102, 32, 100, 111, 110, 101, 32, 115, 117, 109, 32, 97, 112, 112, 114, 111, 118, 101, 100, 32, 97, 108, 119, 97, 121, 115, 32]) H.size (by decide +kernel) (by decide +kernel)) (va_cwS 2 hts gX10_init_X10_wordAt rfl rfl rfl (by decide +kernel) ⟨(Nat.le_of_ble_eq_true rfl), (Nat.le_of_ble_eq_true rfl)⟩) ⟨Wd.blind, fun U hU hW => ⟨rfl, Wd.call hPc hDc hK hC hZ hS hFc U hU hW⟩⟩ rfl rfl hl.1 rfl (lv_room (Nat.le_of_ble_eq_true rfl)) dX10_init_177 ⟨(Nat.le_of_ble_eq_true rfl), (Nat.le_of_ble_eq_true rfl)⟩) hS (fun q _ h => hFc q h) hFc (fun rn44 u t H1 locs ht hvm hw hB hz1 hk1 hS => ?_)
  obtain ⟨hP1, hD1⟩ := hB
  rw [ht] at hP1
  obtain ⟨hP, hD⟩ := va_join (wr := [(w0, .inr (11, [.ref qn1, .ref qn2, .ref qn3, .ref qn4, .ref qn5, .long 0, .long 0, .int 0, .int 0, .ref qn6, .int 0, .int 0, .int (-1), .ref qn7, .int 0, .int 0, .int 0, .int 0, .int 0, .int 0, .int 0, .int 0, .int 0, .int 0, .int 0, .long 0, .int 0, .ref qn8, .ref qn9, .ref qn10, .ref qn11, .ref qn12, .ref qn13, .ref qn14, .ref qn15, .ref qn16, .ref qn17, .ref qn18, .int 0])), (qn1, .inl (cA 0, 326, .inl (fun _ => 0))), (qn2, .inl (cA 0, 326, .inl (fun _ => 0))), (qn3, .inl (cA 0, 326, .inl (fun _ => 0))), (qn4, .inl (cA 0, 3260, .inl (fun _ => 0))), (qn5, .inl (cA 1, 10, .inr (.inl (fun _ => 0)))), (qn6, .inl (cA 0, 700, .inl (fun _ => 0))), (qn7, .inl (cA 1, 15, .inr (.inl fn42))), (qn8, .inl (cA 1, 10, .inr (.inl (fun _ => 0)))), (qn9, .inl (cA 1, 10, .inr (.inl (fun _ => 0)))), (qn10, .inl (cA 1, 8, .inr (.inl (fun _ => 0)))), (qn11, .inl (cA 1, 8, .inr (.inl (fun _ => 0)))), (qn12, .inl (cA 0, 400, .inl (fun _ => 0))), (qn13, .inl (cA 0, 400, .inl (fun _ => 0))), (qn14, .inl (cA 0, 11, .inl (fun _ => 0))), (qn15, .inl (cA 0, 11, .inl (fun _ => 0))), (qn16, .inl (cA 4, 400, .inl (fun _ => 0))), (qn17, .inl (cA 0, 10, .inl (fun _ => 0))), (qn18, .inl (cA 0, 100, .inl (fun _ => 0)))]) (w1 := []) hP hD [] [0, 1, 2, 3, 4, 5, 6, 7, 8, 9, 10, 11, 12, 13, 14, 15, 16, 17, 18] rfl rfl (by decide) (by decide) hk1 hFc hP1 hD1
  generalize H1 = H at hP hS ⊢
  have hP : va_P D vwCl [(w0, .inr (11, [.ref qn1, .ref qn2, .ref qn3, .ref qn4, .ref qn5, .long 0, .long 0, .int 0, .int 0, .ref qn6, .int 0, .int 0, .int (-1), .ref qn7, .int 0, .int 0, .int 0, .int 0, .int 0, .int 0, .int 0, .int 0, .int 0, .int 0, .int 0, .long 0, .int 0, .ref qn8, .ref qn9, .ref qn10, .ref qn11, .ref qn12, .ref qn13, .ref qn14, .ref qn15, .ref qn16, .ref qn17, .ref qn18, .int 0])), (qn1, .inl (cA 0, 326, .inl (fun _ => 0))), (qn2, .inl (cA 0, 326, .inl (fun _ => 0))), (qn3, .inl (cA 0, 326, .inl (fun _ => 0))), (qn4, .inl (cA 0, 3260, .inl (fun _ => 0))), (qn5, .inl (cA 1, 10, .inr (.inl (fun _ => 0)))), (qn6, .inl (cA 0, 700, .inl (fun _ => 0))), (qn7, .inl (cA 1, 15, .inr (.inl fn42))), (qn8, .inl (cA 1, 10, .inr (.inl (fun _ => 0)))), (qn9, .inl (cA 1, 10, .inr (.inl (fun _ => 0)))), (qn10, .inl (cA 1, 8, .inr (.inl (fun _ => 0)))), (qn11, .inl (cA 1, 8, .inr (.inl (fun _ => 0)))), (qn12, .inl (cA 0, 400, .inl (fun _ => 0))), (qn13, .inl (cA 0, 400, .inl (fun _ => 0))), (qn14, .inl (cA 0, 11, .inl (fun _ => 0))), (qn15, .inl (cA 0, 11, .inl (fun _ => 0))), (qn16, .inl (cA 4, 400, .inl (fun _ => 0))), (qn17, .inl (cA 0, 10, .inl (fun _ => 0))), (qn18, .inl (cA 0, 100, .inl (fun _ => 0)))] H := hP
  have hD : va_D A [(w0, .inr (11, [.ref qn1, .ref qn2, .ref qn3, .ref qn4, .ref qn5, .long 0, .long 0, .int 0, .int 0, .ref qn6, .int 0, .int 0, .int (-1), .ref qn7, .int 0, .int 0, .int 0, .int 0, .int 0, .int 0, .int 0, .int 0, .int 0, .int 0, .int 0, .long 0, .int 0, .ref qn8, .ref qn9, .ref qn10, .ref qn11, .ref qn12, .ref qn13, .ref qn14, .ref qn15, .ref qn16, .ref qn17, .ref qn18, .int 0])), (qn1, .inl (cA 0, 326, .inl (fun _ => 0))), (qn2, .inl (cA 0, 326, .inl (fun _ => 0))), (qn3, .inl (cA 0, 326, .inl (fun _ => 0))), (qn4, .inl (cA 0, 3260, .inl (fun _ => 0))), (qn5, .inl (cA 1, 10, .inr (.inl (fun _ => 0)))), (qn6, .inl (cA 0, 700, .inl (fun _ => 0))), (qn7, .inl (cA 1, 15, .inr (.inl fn42))), (qn8, .inl (cA 1, 10, .inr (.inl (fun _ => 0)))), (qn9, .inl (cA 1, 10, .inr (.inl (fun _ => 0)))), (qn10, .inl (cA 1, 8, .inr (.inl (fun _ => 0)))), (qn11, .inl (cA 1, 8, .inr (.inl (fun _ => 0)))), (qn12, .inl (cA 0, 400, .inl (fun _ => 0))), (qn13, .inl (cA 0, 400, .inl (fun _ => 0))), (qn14, .inl (cA 0, 11, .inl (fun _ => 0))), (qn15, .inl (cA 0, 11, .inl (fun _ => 0))), (qn16, .inl (cA 4, 400, .inl (fun _ => 0))), (qn17, .inl (cA 0, 10, .inl (fun _ => 0))), (qn18, .inl (cA 0, 100, .inl (fun _ => 0)))] := hD
  refine va_last hx hb hK hP hD hS 7 1 rfl rfl (vp_in_iff.mpr (by decide)) dX10_init_180 (fun H locs hP hD hS => ?_)
  have hP : va_P D vwCl [(w0, .inr (11, [.ref qn1, .ref qn2, .ref qn3, .ref qn4, .ref qn5, .long 0, .long 0, .int 0, .int 0, .ref qn6, .int 0, .int 0, .int (-1), .ref qn7, .int 0, .int 0, .int 0, .int 0, .int 0, .int 0, .int 0, .int 0, .int 0, .int 0, .int 0, .long 0, .int 0, .ref qn8, .ref qn9, .ref qn10, .ref qn11, .ref qn12, .ref qn13, .ref qn14, .ref qn15, .ref qn16, .ref qn17, .ref qn18, .int 0])), (qn1, .inl (cA 0, 326, .inl (fun _ => 0))), (qn2, .inl (cA 0, 326, .inl (fun _ => 0))), (qn3, .inl (cA 0, 326, .inl (fun _ => 0))), (qn4, .inl (cA 0, 3260, .inl (fun _ => 0))), (qn5, .inl (cA 1, 10, .inr (.inl (fun _ => 0)))), (qn6, .inl (cA 0, 700, .inl (fun _ => 0))), (qn7, .inl (cA 1, 15, .inr (.inl (vp_updL fn42 8 rn44)))), (qn8, .inl (cA 1, 10, .inr (.inl (fun _ => 0)))), (qn9, .inl (cA 1, 10, .inr (.inl (fun _ => 0)))), (qn10, .inl (cA 1, 8, .inr (.inl (fun _ => 0)))), (qn11, .inl (cA 1, 8, .inr (.inl (fun _ => 0)))), (qn12, .inl (cA 0, 400, .inl (fun _ => 0))), (qn13, .inl (cA 0, 400, .inl (fun _ => 0))), (qn14, .inl (cA 0, 11, .inl (fun _ => 0))), (qn15, .inl (cA 0, 11, .inl (fun _ => 0))), (qn16, .inl (cA 4, 400, .inl (fun _ => 0))), (qn17, .inl (cA 0, 10, .inl (fun _ => 0))), (qn18, .inl (cA 0, 100, .inl (fun _ => 0)))] H := hP
  have hD : va_D A [(w0, .inr (11, [.ref qn1, .ref qn2, .ref qn3, .ref qn4, .ref qn5, .long 0, .long 0, .int 0, .int 0, .ref qn6, .int 0, .int 0, .int (-1), .ref qn7, .int 0, .int 0, .int 0, .int 0, .int 0, .int 0, .int 0, .int 0, .int 0, .int 0, .int 0, .long 0, .int 0, .ref qn8, .ref qn9, .ref qn10, .ref qn11, .ref qn12, .ref qn13, .ref qn14, .ref qn15, .ref qn16, .ref qn17, .ref qn18, .int 0])), (qn1, .inl (cA 0, 326, .inl (fun _ => 0))), (qn2, .inl (cA 0, 326, .inl (fun _ => 0))), (qn3, .inl (cA 0, 326, .inl (fun _ => 0))), (qn4, .inl (cA 0, 3260, .inl (fun _ => 0))), (qn5, .inl (cA 1, 10, .inr (.inl (fun _ => 0)))), (qn6, .inl (cA 0, 700, .inl (fun _ => 0))), (qn7, .inl (cA 1, 15, .inr (.inl (vp_updL fn42 8 rn44)))), (qn8, .inl (cA 1, 10, .inr (.inl (fun _ => 0)))), (qn9, .inl (cA 1, 10, .inr (.inl (fun _ => 0)))), (qn10, .inl (cA 1, 8, .inr (.inl (fun _ => 0)))), (qn11, .inl (cA 1, 8, .inr (.inl (fun _ => 0)))), (qn12, .inl (cA 0, 400, .inl (fun _ => 0))), (qn13, .inl (cA 0, 400, .inl (fun _ => 0))), (qn14, .inl (cA 0, 11, .inl (fun _ => 0))), (qn15, .inl (cA 0, 11, .inl (fun _ => 0))), (qn16, .inl (cA 4, 400, .inl (fun _ => 0))), (qn17, .inl (cA 0, 10, .inl (fun _ => 0))), (qn18, .inl (cA 0, 100, .inl (fun _ => 0)))] := hD
  generalize (vp_updL fn42 8 rn44) = fn45 at hP hD
  have hP : va_P D vwCl [(w0, .inr (11, [.ref qn1, .ref qn2, .ref qn3, .ref qn4, .ref qn5, .long 0, .long 0, .int 0, .int 0, .ref qn6, .int 0, .int 0, .int (-1), .ref qn7, .int 0, .int 0, .int 0, .int 0, .int 0, .int 0, .int 0, .int 0, .int 0, .int 0, .int 0, .long 0, .int 0, .ref qn8, .ref qn9, .ref qn10, .ref qn11, .ref qn12, .ref qn13, .ref qn14, .ref qn15, .ref qn16, .ref qn17, .ref qn18, .int 0])), (qn1, .inl (cA 0, 326, .inl (fun _ => 0))), (qn2, .inl (cA 0, 326, .inl (fun _ => 0))), (qn3, .inl (cA 0, 326, .inl (fun _ => 0))), (qn4, .inl (cA 0, 3260, .inl (fun _ => 0))), (qn5, .inl (cA 1, 10, .inr (.inl (fun _ => 0)))), (qn6, .inl (cA 0, 700, .inl (fun _ => 0))), (qn7, .inl (cA 1, 15, .inr (.inl fn45))), (qn8, .inl (cA 1, 10, .inr (.inl (fun _ => 0)))), (qn9, .inl (cA 1, 10, .inr (.inl (fun _ => 0)))), (qn10, .inl (cA 1, 8, .inr (.inl (fun _ => 0)))), (qn11, .inl (cA 1, 8, .inr (.inl (fun _ => 0)))), (qn12, .inl (cA 0, 400, .inl (fun _ => 0))), (qn13, .inl (cA 0, 400, .inl (fun _ => 0))), (qn14, .inl (cA 0, 11, .inl (fun _ => 0))), (qn15, .inl (cA 0, 11, .inl (fun _ => 0))), (qn16, .inl (cA 4, 400, .inl (fun _ => 0))), (qn17, .inl (cA 0, 10, .inl (fun _ => 0))), (qn18, .inl (cA 0, 100, .inl (fun _ => 0)))] H := hP
  have hD : va_D A [(w0, .inr (11, [.ref qn1, .ref qn2, .ref qn3, .ref qn4, .ref qn5, .long 0, .long 0, .int 0, .int 0, .ref qn6, .int 0, .int 0, .int (-1), .ref qn7, .int 0, .int 0, .int 0, .int 0, .int 0, .int 0, .int 0, .int 0, .int 0, .int 0, .int 0, .long 0, .int 0, .ref qn8, .ref qn9, .ref qn10, .ref qn11, .ref qn12, .ref qn13, .ref qn14, .ref qn15, .ref qn16, .ref qn17, .ref qn18, .int 0])), (qn1, .inl (cA 0, 326, .inl (fun _ => 0))), (qn2, .inl (cA 0, 326, .inl (fun _ => 0))), (qn3, .inl (cA 0, 326, .inl (fun _ => 0))), (qn4, .inl (cA 0, 3260, .inl (fun _ => 0))), (qn5, .inl (cA 1, 10, .inr (.inl (fun _ => 0)))), (qn6, .inl (cA 0, 700, .inl (fun _ => 0))), (qn7, .inl (cA 1, 15, .inr (.inl fn45))), (qn8, .inl (cA 1, 10, .inr (.inl (fun _ => 0)))), (qn9, .inl (cA 1, 10, .inr (.inl (fun _ => 0)))), (qn10, .inl (cA 1, 8, .inr (.inl (fun _ => 0)))), (qn11, .inl (cA 1, 8, .inr (.inl (fun _ => 0)))), (qn12, .inl (cA 0, 400, .inl (fun _ => 0))), (qn13, .inl (cA 0, 400, .inl (fun _ => 0))), (qn14, .inl (cA 0, 11, .inl (fun _ => 0))), (qn15, .inl (cA 0, 11, .inl (fun _ => 0))), (qn16, .inl (cA 4, 400, .inl (fun _ => 0))), (qn17, .inl (cA 0, 10, .inl (fun _ => 0))), (qn18, .inl (cA 0, 100, .inl (fun _ => 0)))] := hD
  refine lv_iinc (v := 9) (lv' := [(1, .int 9), (0, .ref w0)]) hx hb dX10_init_181 hl (k := 0) rfl (by first | rfl | decide +kernel) (by decide) rfl (fun ls hl => ?_)
  refine lv_goto (tgt := 163) hx hb dX10_init_184 (by decide) ?_
  refine lv_iload_n hx hb dX10_init_163 rfl (lv_at hl 0 rfl) ?_
  refine lv_bipush (v := 15) hx hb dX10_init_164 (by decide) ?_
  refine lv_icmp_ge (tgt := 187) hx hb dX10_init_166 (by decide) (fun c9 => absurd c9 (by decide)) (fun c46 => ?_)
  refine lv_aload_n hx hb dX10_init_169 rfl (lv_at hl 1 rfl) ?_
  refine va_get (D := D) (ci := 11) (v := .ref qn7) (C := RX10) (T := TX10) (N := 39) hx hb hts inX10 hown hK hP 0 rfl rfl 13 (by decide) (hts (.fieldLink RX10 33 "EscrowDeskModel" "keywords" "[J") (by decide +kernel)) (fun _ h9 => h9) rfl dX10_init_170 ?_
  refine lv_iload_n hx hb dX10_init_173 rfl (lv_at hl 0 rfl) ?_
  refine va_ldcS hx hb hown (hC.str 24 rfl) dX10_init_174 ?_
  refine lv_iload_n hx hb dX10_init_176 rfl (lv_at hl 0 rfl) ?_
  have hPc := hP.sub (ws' := []) [] rfl
  have hDc := hD.sub (ws' := []) [] (by decide) rfl
  have hFc := va_free (wc := []) hD hS hA [] rfl
  refine va_calll (va_runS (As := [.ref (sa 24), .int 9]) (rest := [.int 9, .ref qn7]) ⟨hx, hb, hml, hown, hts⟩ (c_m_wordAt l D cA sa 24 9 ([114, 97, 116, 101, 32, 102, 101, 101, 32, 103, 114, 97, 99, 101, 32, 100, 101, 112, 111, 115, 105, 116, 32, 109, 105, 108, 101, 115, 116, 111, 110, 101, 32, 119, 104, 101, 110, 32, 111, 114, 32, 97, 110, 100, 32, 110, 111, 116, 32, 100, 97, 121, 32, 112, 114, 111, 111, 102, 32, 100, 111, 110, 101, 32, 115, 117, 109, 32, 97, 112, 112, 114, 111, 118, 101, 100, 32, 97, 108, 119, 97, 121, 115, 32]) H.size (by decide +kernel) (by decide +kernel)) (va_cwS 2 hts gX10_init_X10_wordAt rfl rfl rfl (by decide +kernel) ⟨(Nat.le_of_ble_eq_true rfl), (Nat.le_of_ble_eq_true rfl)⟩) ⟨Wd.blind, fun U hU hW => ⟨rfl, Wd.call hPc hDc hK hC hZ hS hFc U hU hW⟩⟩ rfl rfl hl.1 rfl (lv_room (Nat.le_of_ble_eq_true rfl)) dX10_init_177 ⟨(Nat.le_of_ble_eq_true rfl), (Nat.le_of_ble_eq_true rfl)⟩) hS (fun q _ h => hFc q h) hFc (fun rn47 u t H1 locs ht hvm hw hB hz1 hk1 hS => ?_)
  obtain ⟨hP1, hD1⟩ := hB
  rw [ht] at hP1
  obtain ⟨hP, hD⟩ := va_join (wr := [(w0, .inr (11, [.ref qn1, .ref qn2, .ref qn3, .ref qn4, .ref qn5, .long 0, .long 0, .int 0, .int 0, .ref qn6, .int 0, .int 0, .int (-1), .ref qn7, .int 0, .int 0, .int 0, .int 0, .int 0, .int 0, .int 0, .int 0, .int 0, .int 0, .int 0, .long 0, .int 0, .ref qn8, .ref qn9, .ref qn10, .ref qn11, .ref qn12, .ref qn13, .ref qn14, .ref qn15, .ref qn16, .ref qn17, .ref qn18, .int 0])), (qn1, .inl (cA 0, 326, .inl (fun _ => 0))), (qn2, .inl (cA 0, 326, .inl (fun _ => 0))), (qn3, .inl (cA 0, 326, .inl (fun _ => 0))), (qn4, .inl (cA 0, 3260, .inl (fun _ => 0))), (qn5, .inl (cA 1, 10, .inr (.inl (fun _ => 0)))), (qn6, .inl (cA 0, 700, .inl (fun _ => 0))), (qn7, .inl (cA 1, 15, .inr (.inl fn45))), (qn8, .inl (cA 1, 10, .inr (.inl (fun _ => 0)))), (qn9, .inl (cA 1, 10, .inr (.inl (fun _ => 0)))), (qn10, .inl (cA 1, 8, .inr (.inl (fun _ => 0)))), (qn11, .inl (cA 1, 8, .inr (.inl (fun _ => 0)))), (qn12, .inl (cA 0, 400, .inl (fun _ => 0))), (qn13, .inl (cA 0, 400, .inl (fun _ => 0))), (qn14, .inl (cA 0, 11, .inl (fun _ => 0))), (qn15, .inl (cA 0, 11, .inl (fun _ => 0))), (qn16, .inl (cA 4, 400, .inl (fun _ => 0))), (qn17, .inl (cA 0, 10, .inl (fun _ => 0))), (qn18, .inl (cA 0, 100, .inl (fun _ => 0)))]) (w1 := []) hP hD [] [0, 1, 2, 3, 4, 5, 6, 7, 8, 9, 10, 11, 12, 13, 14, 15, 16, 17, 18] rfl rfl (by decide) (by decide) hk1 hFc hP1 hD1
  generalize H1 = H at hP hS ⊢
  have hP : va_P D vwCl [(w0, .inr (11, [.ref qn1, .ref qn2, .ref qn3, .ref qn4, .ref qn5, .long 0, .long 0, .int 0, .int 0, .ref qn6, .int 0, .int 0, .int (-1), .ref qn7, .int 0, .int 0, .int 0, .int 0, .int 0, .int 0, .int 0, .int 0, .int 0, .int 0, .int 0, .long 0, .int 0, .ref qn8, .ref qn9, .ref qn10, .ref qn11, .ref qn12, .ref qn13, .ref qn14, .ref qn15, .ref qn16, .ref qn17, .ref qn18, .int 0])), (qn1, .inl (cA 0, 326, .inl (fun _ => 0))), (qn2, .inl (cA 0, 326, .inl (fun _ => 0))), (qn3, .inl (cA 0, 326, .inl (fun _ => 0))), (qn4, .inl (cA 0, 3260, .inl (fun _ => 0))), (qn5, .inl (cA 1, 10, .inr (.inl (fun _ => 0)))), (qn6, .inl (cA 0, 700, .inl (fun _ => 0))), (qn7, .inl (cA 1, 15, .inr (.inl fn45))), (qn8, .inl (cA 1, 10, .inr (.inl (fun _ => 0)))), (qn9, .inl (cA 1, 10, .inr (.inl (fun _ => 0)))), (qn10, .inl (cA 1, 8, .inr (.inl (fun _ => 0)))), (qn11, .inl (cA 1, 8, .inr (.inl (fun _ => 0)))), (qn12, .inl (cA 0, 400, .inl (fun _ => 0))), (qn13, .inl (cA 0, 400, .inl (fun _ => 0))), (qn14, .inl (cA 0, 11, .inl (fun _ => 0))), (qn15, .inl (cA 0, 11, .inl (fun _ => 0))), (qn16, .inl (cA 4, 400, .inl (fun _ => 0))), (qn17, .inl (cA 0, 10, .inl (fun _ => 0))), (qn18, .inl (cA 0, 100, .inl (fun _ => 0)))] H := hP
  have hD : va_D A [(w0, .inr (11, [.ref qn1, .ref qn2, .ref qn3, .ref qn4, .ref qn5, .long 0, .long 0, .int 0, .int 0, .ref qn6, .int 0, .int 0, .int (-1), .ref qn7, .int 0, .int 0, .int 0, .int 0, .int 0, .int 0, .int 0, .int 0, .int 0, .int 0, .int 0, .long 0, .int 0, .ref qn8, .ref qn9, .ref qn10, .ref qn11, .ref qn12, .ref qn13, .ref qn14, .ref qn15, .ref qn16, .ref qn17, .ref qn18, .int 0])), (qn1, .inl (cA 0, 326, .inl (fun _ => 0))), (qn2, .inl (cA 0, 326, .inl (fun _ => 0))), (qn3, .inl (cA 0, 326, .inl (fun _ => 0))), (qn4, .inl (cA 0, 3260, .inl (fun _ => 0))), (qn5, .inl (cA 1, 10, .inr (.inl (fun _ => 0)))), (qn6, .inl (cA 0, 700, .inl (fun _ => 0))), (qn7, .inl (cA 1, 15, .inr (.inl fn45))), (qn8, .inl (cA 1, 10, .inr (.inl (fun _ => 0)))), (qn9, .inl (cA 1, 10, .inr (.inl (fun _ => 0)))), (qn10, .inl (cA 1, 8, .inr (.inl (fun _ => 0)))), (qn11, .inl (cA 1, 8, .inr (.inl (fun _ => 0)))), (qn12, .inl (cA 0, 400, .inl (fun _ => 0))), (qn13, .inl (cA 0, 400, .inl (fun _ => 0))), (qn14, .inl (cA 0, 11, .inl (fun _ => 0))), (qn15, .inl (cA 0, 11, .inl (fun _ => 0))), (qn16, .inl (cA 4, 400, .inl (fun _ => 0))), (qn17, .inl (cA 0, 10, .inl (fun _ => 0))), (qn18, .inl (cA 0, 100, .inl (fun _ => 0)))] := hD
  refine va_last hx hb hK hP hD hS 7 1 rfl rfl (vp_in_iff.mpr (by decide)) dX10_init_180 (fun H locs hP hD hS => ?_)
  have hP : va_P D vwCl [(w0, .inr (11, [.ref qn1, .ref qn2, .ref qn3, .ref qn4, .ref qn5, .long 0, .long 0, .int 0, .int 0, .ref qn6, .int 0, .int 0, .int (-1), .ref qn7, .int 0, .int 0, .int 0, .int 0, .int 0, .int 0, .int 0, .int 0, .int 0, .int 0, .int 0, .long 0, .int 0, .ref qn8, .ref qn9, .ref qn10, .ref qn11, .ref qn12, .ref qn13, .ref qn14, .ref qn15, .ref qn16, .ref qn17, .ref qn18, .int 0])), (qn1, .inl (cA 0, 326, .inl (fun _ => 0))), (qn2, .inl (cA 0, 326, .inl (fun _ => 0))), (qn3, .inl (cA 0, 326, .inl (fun _ => 0))), (qn4, .inl (cA 0, 3260, .inl (fun _ => 0))), (qn5, .inl (cA 1, 10, .inr (.inl (fun _ => 0)))), (qn6, .inl (cA 0, 700, .inl (fun _ => 0))), (qn7, .inl (cA 1, 15, .inr (.inl (vp_updL fn45 9 rn47)))), (qn8, .inl (cA 1, 10, .inr (.inl (fun _ => 0)))), (qn9, .inl (cA 1, 10, .inr (.inl (fun _ => 0)))), (qn10, .inl (cA 1, 8, .inr (.inl (fun _ => 0)))), (qn11, .inl (cA 1, 8, .inr (.inl (fun _ => 0)))), (qn12, .inl (cA 0, 400, .inl (fun _ => 0))), (qn13, .inl (cA 0, 400, .inl (fun _ => 0))), (qn14, .inl (cA 0, 11, .inl (fun _ => 0))), (qn15, .inl (cA 0, 11, .inl (fun _ => 0))), (qn16, .inl (cA 4, 400, .inl (fun _ => 0))), (qn17, .inl (cA 0, 10, .inl (fun _ => 0))), (qn18, .inl (cA 0, 100, .inl (fun _ => 0)))] H := hP
  have hD : va_D A [(w0, .inr (11, [.ref qn1, .ref qn2, .ref qn3, .ref qn4, .ref qn5, .long 0, .long 0, .int 0, .int 0, .ref qn6, .int 0, .int 0, .int (-1), .ref qn7, .int 0, .int 0, .int 0, .int 0, .int 0, .int 0, .int 0, .int 0, .int 0, .int 0, .int 0, .long 0, .int 0, .ref qn8, .ref qn9, .ref qn10, .ref qn11, .ref qn12, .ref qn13, .ref qn14, .ref qn15, .ref qn16, .ref qn17, .ref qn18, .int 0])), (qn1, .inl (cA 0, 326, .inl (fun _ => 0))), (qn2, .inl (cA 0, 326, .inl (fun _ => 0))), (qn3, .inl (cA 0, 326, .inl (fun _ => 0))), (qn4, .inl (cA 0, 3260, .inl (fun _ => 0))), (qn5, .inl (cA 1, 10, .inr (.inl (fun _ => 0)))), (qn6, .inl (cA 0, 700, .inl (fun _ => 0))), (qn7, .inl (cA 1, 15, .inr (.inl (vp_updL fn45 9 rn47)))), (qn8, .inl (cA 1, 10, .inr (.inl (fun _ => 0)))), (qn9, .inl (cA 1, 10, .inr (.inl (fun _ => 0)))), (qn10, .inl (cA 1, 8, .inr (.inl (fun _ => 0)))), (qn11, .inl (cA 1, 8, .inr (.inl (fun _ => 0)))), (qn12, .inl (cA 0, 400, .inl (fun _ => 0))), (qn13, .inl (cA 0, 400, .inl (fun _ => 0))), (qn14, .inl (cA 0, 11, .inl (fun _ => 0))), (qn15, .inl (cA 0, 11, .inl (fun _ => 0))), (qn16, .inl (cA 4, 400, .inl (fun _ => 0))), (qn17, .inl (cA 0, 10, .inl (fun _ => 0))), (qn18, .inl (cA 0, 100, .inl (fun _ => 0)))] := hD
  generalize (vp_updL fn45 9 rn47) = fn48 at hP hD
  have hP : va_P D vwCl [(w0, .inr (11, [.ref qn1, .ref qn2, .ref qn3, .ref qn4, .ref qn5, .long 0, .long 0, .int 0, .int 0, .ref qn6, .int 0, .int 0, .int (-1), .ref qn7, .int 0, .int 0, .int 0, .int 0, .int 0, .int 0, .int 0, .int 0, .int 0, .int 0, .int 0, .long 0, .int 0, .ref qn8, .ref qn9, .ref qn10, .ref qn11, .ref qn12, .ref qn13, .ref qn14, .ref qn15, .ref qn16, .ref qn17, .ref qn18, .int 0])), (qn1, .inl (cA 0, 326, .inl (fun _ => 0))), (qn2, .inl (cA 0, 326, .inl (fun _ => 0))), (qn3, .inl (cA 0, 326, .inl (fun _ => 0))), (qn4, .inl (cA 0, 3260, .inl (fun _ => 0))), (qn5, .inl (cA 1, 10, .inr (.inl (fun _ => 0)))), (qn6, .inl (cA 0, 700, .inl (fun _ => 0))), (qn7, .inl (cA 1, 15, .inr (.inl fn48))), (qn8, .inl (cA 1, 10, .inr (.inl (fun _ => 0)))), (qn9, .inl (cA 1, 10, .inr (.inl (fun _ => 0)))), (qn10, .inl (cA 1, 8, .inr (.inl (fun _ => 0)))), (qn11, .inl (cA 1, 8, .inr (.inl (fun _ => 0)))), (qn12, .inl (cA 0, 400, .inl (fun _ => 0))), (qn13, .inl (cA 0, 400, .inl (fun _ => 0))), (qn14, .inl (cA 0, 11, .inl (fun _ => 0))), (qn15, .inl (cA 0, 11, .inl (fun _ => 0))), (qn16, .inl (cA 4, 400, .inl (fun _ => 0))), (qn17, .inl (cA 0, 10, .inl (fun _ => 0))), (qn18, .inl (cA 0, 100, .inl (fun _ => 0)))] H := hP
  have hD : va_D A [(w0, .inr (11, [.ref qn1, .ref qn2, .ref qn3, .ref qn4, .ref qn5, .long 0, .long 0, .int 0, .int 0, .ref qn6, .int 0, .int 0, .int (-1), .ref qn7, .int 0, .int 0, .int 0, .int 0, .int 0, .int 0, .int 0, .int 0, .int 0, .int 0, .int 0, .long 0, .int 0, .ref qn8, .ref qn9, .ref qn10, .ref qn11, .ref qn12, .ref qn13, .ref qn14, .ref qn15, .ref qn16, .ref qn17, .ref qn18, .int 0])), (qn1, .inl (cA 0, 326, .inl (fun _ => 0))), (qn2, .inl (cA 0, 326, .inl (fun _ => 0))), (qn3, .inl (cA 0, 326, .inl (fun _ => 0))), (qn4, .inl (cA 0, 3260, .inl (fun _ => 0))), (qn5, .inl (cA 1, 10, .inr (.inl (fun _ => 0)))), (qn6, .inl (cA 0, 700, .inl (fun _ => 0))), (qn7, .inl (cA 1, 15, .inr (.inl fn48))), (qn8, .inl (cA 1, 10, .inr (.inl (fun _ => 0)))), (qn9, .inl (cA 1, 10, .inr (.inl (fun _ => 0)))), (qn10, .inl (cA 1, 8, .inr (.inl (fun _ => 0)))), (qn11, .inl (cA 1, 8, .inr (.inl (fun _ => 0)))), (qn12, .inl (cA 0, 400, .inl (fun _ => 0))), (qn13, .inl (cA 0, 400, .inl (fun _ => 0))), (qn14, .inl (cA 0, 11, .inl (fun _ => 0))), (qn15, .inl (cA 0, 11, .inl (fun _ => 0))), (qn16, .inl (cA 4, 400, .inl (fun _ => 0))), (qn17, .inl (cA 0, 10, .inl (fun _ => 0))), (qn18, .inl (cA 0, 100, .inl (fun _ => 0)))] := hD
  refine lv_iinc (v := 10) (lv' := [(1, .int 10), (0, .ref w0)]) hx hb dX10_init_181 hl (k := 0) rfl (by first | rfl | decide +kernel) (by decide) rfl (fun ls hl => ?_)
  refine lv_goto (tgt := 163) hx hb dX10_init_184 (by decide) ?_
  refine lv_iload_n hx hb dX10_init_163 rfl (lv_at hl 0 rfl) ?_
  refine lv_bipush (v := 15) hx hb dX10_init_164 (by decide) ?_
  refine lv_icmp_ge (tgt := 187) hx hb dX10_init_166 (by decide) (fun c9 => absurd c9 (by decide)) (fun c49 => ?_)
  refine lv_aload_n hx hb dX10_init_169 rfl (lv_at hl 1 rfl) ?_
  refine va_get (D := D) (ci := 11) (v := .ref qn7) (C := RX10) (T := TX10) (N := 39) hx hb hts inX10 hown hK hP 0 rfl rfl 13 (by decide) (hts (.fieldLink RX10 33 "EscrowDeskModel" "keywords" "[J") (by decide +kernel)) (fun _ h9 => h9) rfl dX10_init_170 ?_
  refine lv_iload_n hx hb dX10_init_173 rfl (lv_at hl 0 rfl) ?_
  refine va_ldcS hx hb hown (hC.str 24 rfl) dX10_init_174 ?_
  refine lv_iload_n hx hb dX10_init_176 rfl (lv_at hl 0 rfl) ?_
  have hPc := hP.sub (ws' := []) [] rfl
  have hDc := hD.sub (ws' := []) [] (by decide) rfl
  have hFc := va_free (wc := []) hD hS hA [] rfl
  refine va_calll (va_runS (As := [.ref (sa 24), .int 10]) (rest := [.int 10, .ref qn7]) ⟨hx, hb, hml, hown, hts⟩ (c_m_wordAt l D cA sa 24 10 ([114, 97, 116, 101, 32, 102, 101, 101, 32, 103, 114, 97, 99, 101, 32, 100, 101, 112, 111, 115, 105, 116, 32, 109, 105, 108, 101, 115, 116, 111, 110, 101, 32, 119, 104, 101, 110, 32, 111, 114, 32, 97, 110, 100, 32, 110, 111, 116, 32, 100, 97, 121, 32, 112, 114, 111, 111, 102, 32, 100, 111, 110, 101, 32, 115, 117, 109, 32, 97, 112, 112, 114, 111, 118, 101, 100, 32, 97, 108, 119, 97, 121, 115, 32]) H.size (by decide +kernel) (by decide +kernel)) (va_cwS 2 hts gX10_init_X10_wordAt rfl rfl rfl (by decide +kernel) ⟨(Nat.le_of_ble_eq_true rfl), (Nat.le_of_ble_eq_true rfl)⟩) ⟨Wd.blind, fun U hU hW => ⟨rfl, Wd.call hPc hDc hK hC hZ hS hFc U hU hW⟩⟩ rfl rfl hl.1 rfl (lv_room (Nat.le_of_ble_eq_true rfl)) dX10_init_177 ⟨(Nat.le_of_ble_eq_true rfl), (Nat.le_of_ble_eq_true rfl)⟩) hS (fun q _ h => hFc q h) hFc (fun rn50 u t H1 locs ht hvm hw hB hz1 hk1 hS => ?_)
  obtain ⟨hP1, hD1⟩ := hB
  rw [ht] at hP1
  obtain ⟨hP, hD⟩ := va_join (wr := [(w0, .inr (11, [.ref qn1, .ref qn2, .ref qn3, .ref qn4, .ref qn5, .long 0, .long 0, .int 0, .int 0, .ref qn6, .int 0, .int 0, .int (-1), .ref qn7, .int 0, .int 0, .int 0, .int 0, .int 0, .int 0, .int 0, .int 0, .int 0, .int 0, .int 0, .long 0, .int 0, .ref qn8, .ref qn9, .ref qn10, .ref qn11, .ref qn12, .ref qn13, .ref qn14, .ref qn15, .ref qn16, .ref qn17, .ref qn18, .int 0])), (qn1, .inl (cA 0, 326, .inl (fun _ => 0))), (qn2, .inl (cA 0, 326, .inl (fun _ => 0))), (qn3, .inl (cA 0, 326, .inl (fun _ => 0))), (qn4, .inl (cA 0, 3260, .inl (fun _ => 0))), (qn5, .inl (cA 1, 10, .inr (.inl (fun _ => 0)))), (qn6, .inl (cA 0, 700, .inl (fun _ => 0))), (qn7, .inl (cA 1, 15, .inr (.inl fn48))), (qn8, .inl (cA 1, 10, .inr (.inl (fun _ => 0)))), (qn9, .inl (cA 1, 10, .inr (.inl (fun _ => 0)))), (qn10, .inl (cA 1, 8, .inr (.inl (fun _ => 0)))), (qn11, .inl (cA 1, 8, .inr (.inl (fun _ => 0)))), (qn12, .inl (cA 0, 400, .inl (fun _ => 0))), (qn13, .inl (cA 0, 400, .inl (fun _ => 0))), (qn14, .inl (cA 0, 11, .inl (fun _ => 0))), (qn15, .inl (cA 0, 11, .inl (fun _ => 0))), (qn16, .inl (cA 4, 400, .inl (fun _ => 0))), (qn17, .inl (cA 0, 10, .inl (fun _ => 0))), (qn18, .inl (cA 0, 100, .inl (fun _ => 0)))]) (w1 := []) hP hD [] [0, 1, 2, 3, 4, 5, 6, 7, 8, 9, 10, 11, 12, 13, 14, 15, 16, 17, 18] rfl rfl (by decide) (by decide) hk1 hFc hP1 hD1
  generalize H1 = H at hP hS ⊢
  have hP : va_P D vwCl [(w0, .inr (11, [.ref qn1, .ref qn2, .ref qn3, .ref qn4, .ref qn5, .long 0, .long 0, .int 0, .int 0, .ref qn6, .int 0, .int 0, .int (-1), .ref qn7, .int 0, .int 0, .int 0, .int 0, .int 0, .int 0, .int 0, .int 0, .int 0, .int 0, .int 0, .long 0, .int 0, .ref qn8, .ref qn9, .ref qn10, .ref qn11, .ref qn12, .ref qn13, .ref qn14, .ref qn15, .ref qn16, .ref qn17, .ref qn18, .int 0])), (qn1, .inl (cA 0, 326, .inl (fun _ => 0))), (qn2, .inl (cA 0, 326, .inl (fun _ => 0))), (qn3, .inl (cA 0, 326, .inl (fun _ => 0))), (qn4, .inl (cA 0, 3260, .inl (fun _ => 0))), (qn5, .inl (cA 1, 10, .inr (.inl (fun _ => 0)))), (qn6, .inl (cA 0, 700, .inl (fun _ => 0))), (qn7, .inl (cA 1, 15, .inr (.inl fn48))), (qn8, .inl (cA 1, 10, .inr (.inl (fun _ => 0)))), (qn9, .inl (cA 1, 10, .inr (.inl (fun _ => 0)))), (qn10, .inl (cA 1, 8, .inr (.inl (fun _ => 0)))), (qn11, .inl (cA 1, 8, .inr (.inl (fun _ => 0)))), (qn12, .inl (cA 0, 400, .inl (fun _ => 0))), (qn13, .inl (cA 0, 400, .inl (fun _ => 0))), (qn14, .inl (cA 0, 11, .inl (fun _ => 0))), (qn15, .inl (cA 0, 11, .inl (fun _ => 0))), (qn16, .inl (cA 4, 400, .inl (fun _ => 0))), (qn17, .inl (cA 0, 10, .inl (fun _ => 0))), (qn18, .inl (cA 0, 100, .inl (fun _ => 0)))] H := hP
  have hD : va_D A [(w0, .inr (11, [.ref qn1, .ref qn2, .ref qn3, .ref qn4, .ref qn5, .long 0, .long 0, .int 0, .int 0, .ref qn6, .int 0, .int 0, .int (-1), .ref qn7, .int 0, .int 0, .int 0, .int 0, .int 0, .int 0, .int 0, .int 0, .int 0, .int 0, .int 0, .long 0, .int 0, .ref qn8, .ref qn9, .ref qn10, .ref qn11, .ref qn12, .ref qn13, .ref qn14, .ref qn15, .ref qn16, .ref qn17, .ref qn18, .int 0])), (qn1, .inl (cA 0, 326, .inl (fun _ => 0))), (qn2, .inl (cA 0, 326, .inl (fun _ => 0))), (qn3, .inl (cA 0, 326, .inl (fun _ => 0))), (qn4, .inl (cA 0, 3260, .inl (fun _ => 0))), (qn5, .inl (cA 1, 10, .inr (.inl (fun _ => 0)))), (qn6, .inl (cA 0, 700, .inl (fun _ => 0))), (qn7, .inl (cA 1, 15, .inr (.inl fn48))), (qn8, .inl (cA 1, 10, .inr (.inl (fun _ => 0)))), (qn9, .inl (cA 1, 10, .inr (.inl (fun _ => 0)))), (qn10, .inl (cA 1, 8, .inr (.inl (fun _ => 0)))), (qn11, .inl (cA 1, 8, .inr (.inl (fun _ => 0)))), (qn12, .inl (cA 0, 400, .inl (fun _ => 0))), (qn13, .inl (cA 0, 400, .inl (fun _ => 0))), (qn14, .inl (cA 0, 11, .inl (fun _ => 0))), (qn15, .inl (cA 0, 11, .inl (fun _ => 0))), (qn16, .inl (cA 4, 400, .inl (fun _ => 0))), (qn17, .inl (cA 0, 10, .inl (fun _ => 0))), (qn18, .inl (cA 0, 100, .inl (fun _ => 0)))] := hD
  refine va_last hx hb hK hP hD hS 7 1 rfl rfl (vp_in_iff.mpr (by decide)) dX10_init_180 (fun H locs hP hD hS => ?_)
  have hP : va_P D vwCl [(w0, .inr (11, [.ref qn1, .ref qn2, .ref qn3, .ref qn4, .ref qn5, .long 0, .long 0, .int 0, .int 0, .ref qn6, .int 0, .int 0, .int (-1), .ref qn7, .int 0, .int 0, .int 0, .int 0, .int 0, .int 0, .int 0, .int 0, .int 0, .int 0, .int 0, .long 0, .int 0, .ref qn8, .ref qn9, .ref qn10, .ref qn11, .ref qn12, .ref qn13, .ref qn14, .ref qn15, .ref qn16, .ref qn17, .ref qn18, .int 0])), (qn1, .inl (cA 0, 326, .inl (fun _ => 0))), (qn2, .inl (cA 0, 326, .inl (fun _ => 0))), (qn3, .inl (cA 0, 326, .inl (fun _ => 0))), (qn4, .inl (cA 0, 3260, .inl (fun _ => 0))), (qn5, .inl (cA 1, 10, .inr (.inl (fun _ => 0)))), (qn6, .inl (cA 0, 700, .inl (fun _ => 0))), (qn7, .inl (cA 1, 15, .inr (.inl (vp_updL fn48 10 rn50)))), (qn8, .inl (cA 1, 10, .inr (.inl (fun _ => 0)))), (qn9, .inl (cA 1, 10, .inr (.inl (fun _ => 0)))), (qn10, .inl (cA 1, 8, .inr (.inl (fun _ => 0)))), (qn11, .inl (cA 1, 8, .inr (.inl (fun _ => 0)))), (qn12, .inl (cA 0, 400, .inl (fun _ => 0))), (qn13, .inl (cA 0, 400, .inl (fun _ => 0))), (qn14, .inl (cA 0, 11, .inl (fun _ => 0))), (qn15, .inl (cA 0, 11, .inl (fun _ => 0))), (qn16, .inl (cA 4, 400, .inl (fun _ => 0))), (qn17, .inl (cA 0, 10, .inl (fun _ => 0))), (qn18, .inl (cA 0, 100, .inl (fun _ => 0)))] H := hP
  have hD : va_D A [(w0, .inr (11, [.ref qn1, .ref qn2, .ref qn3, .ref qn4, .ref qn5, .long 0, .long 0, .int 0, .int 0, .ref qn6, .int 0, .int 0, .int (-1), .ref qn7, .int 0, .int 0, .int 0, .int 0, .int 0, .int 0, .int 0, .int 0, .int 0, .int 0, .int 0, .long 0, .int 0, .ref qn8, .ref qn9, .ref qn10, .ref qn11, .ref qn12, .ref qn13, .ref qn14, .ref qn15, .ref qn16, .ref qn17, .ref qn18, .int 0])), (qn1, .inl (cA 0, 326, .inl (fun _ => 0))), (qn2, .inl (cA 0, 326, .inl (fun _ => 0))), (qn3, .inl (cA 0, 326, .inl (fun _ => 0))), (qn4, .inl (cA 0, 3260, .inl (fun _ => 0))), (qn5, .inl (cA 1, 10, .inr (.inl (fun _ => 0)))), (qn6, .inl (cA 0, 700, .inl (fun _ => 0))), (qn7, .inl (cA 1, 15, .inr (.inl (vp_updL fn48 10 rn50)))), (qn8, .inl (cA 1, 10, .inr (.inl (fun _ => 0)))), (qn9, .inl (cA 1, 10, .inr (.inl (fun _ => 0)))), (qn10, .inl (cA 1, 8, .inr (.inl (fun _ => 0)))), (qn11, .inl (cA 1, 8, .inr (.inl (fun _ => 0)))), (qn12, .inl (cA 0, 400, .inl (fun _ => 0))), (qn13, .inl (cA 0, 400, .inl (fun _ => 0))), (qn14, .inl (cA 0, 11, .inl (fun _ => 0))), (qn15, .inl (cA 0, 11, .inl (fun _ => 0))), (qn16, .inl (cA 4, 400, .inl (fun _ => 0))), (qn17, .inl (cA 0, 10, .inl (fun _ => 0))), (qn18, .inl (cA 0, 100, .inl (fun _ => 0)))] := hD
  generalize (vp_updL fn48 10 rn50) = fn51 at hP hD
  have hP : va_P D vwCl [(w0, .inr (11, [.ref qn1, .ref qn2, .ref qn3, .ref qn4, .ref qn5, .long 0, .long 0, .int 0, .int 0, .ref qn6, .int 0, .int 0, .int (-1), .ref qn7, .int 0, .int 0, .int 0, .int 0, .int 0, .int 0, .int 0, .int 0, .int 0, .int 0, .int 0, .long 0, .int 0, .ref qn8, .ref qn9, .ref qn10, .ref qn11, .ref qn12, .ref qn13, .ref qn14, .ref qn15, .ref qn16, .ref qn17, .ref qn18, .int 0])), (qn1, .inl (cA 0, 326, .inl (fun _ => 0))), (qn2, .inl (cA 0, 326, .inl (fun _ => 0))), (qn3, .inl (cA 0, 326, .inl (fun _ => 0))), (qn4, .inl (cA 0, 3260, .inl (fun _ => 0))), (qn5, .inl (cA 1, 10, .inr (.inl (fun _ => 0)))), (qn6, .inl (cA 0, 700, .inl (fun _ => 0))), (qn7, .inl (cA 1, 15, .inr (.inl fn51))), (qn8, .inl (cA 1, 10, .inr (.inl (fun _ => 0)))), (qn9, .inl (cA 1, 10, .inr (.inl (fun _ => 0)))), (qn10, .inl (cA 1, 8, .inr (.inl (fun _ => 0)))), (qn11, .inl (cA 1, 8, .inr (.inl (fun _ => 0)))), (qn12, .inl (cA 0, 400, .inl (fun _ => 0))), (qn13, .inl (cA 0, 400, .inl (fun _ => 0))), (qn14, .inl (cA 0, 11, .inl (fun _ => 0))), (qn15, .inl (cA 0, 11, .inl (fun _ => 0))), (qn16, .inl (cA 4, 400, .inl (fun _ => 0))), (qn17, .inl (cA 0, 10, .inl (fun _ => 0))), (qn18, .inl (cA 0, 100, .inl (fun _ => 0)))] H := hP
  have hD : va_D A [(w0, .inr (11, [.ref qn1, .ref qn2, .ref qn3, .ref qn4, .ref qn5, .long 0, .long 0, .int 0, .int 0, .ref qn6, .int 0, .int 0, .int (-1), .ref qn7, .int 0, .int 0, .int 0, .int 0, .int 0, .int 0, .int 0, .int 0, .int 0, .int 0, .int 0, .long 0, .int 0, .ref qn8, .ref qn9, .ref qn10, .ref qn11, .ref qn12, .ref qn13, .ref qn14, .ref qn15, .ref qn16, .ref qn17, .ref qn18, .int 0])), (qn1, .inl (cA 0, 326, .inl (fun _ => 0))), (qn2, .inl (cA 0, 326, .inl (fun _ => 0))), (qn3, .inl (cA 0, 326, .inl (fun _ => 0))), (qn4, .inl (cA 0, 3260, .inl (fun _ => 0))), (qn5, .inl (cA 1, 10, .inr (.inl (fun _ => 0)))), (qn6, .inl (cA 0, 700, .inl (fun _ => 0))), (qn7, .inl (cA 1, 15, .inr (.inl fn51))), (qn8, .inl (cA 1, 10, .inr (.inl (fun _ => 0)))), (qn9, .inl (cA 1, 10, .inr (.inl (fun _ => 0)))), (qn10, .inl (cA 1, 8, .inr (.inl (fun _ => 0)))), (qn11, .inl (cA 1, 8, .inr (.inl (fun _ => 0)))), (qn12, .inl (cA 0, 400, .inl (fun _ => 0))), (qn13, .inl (cA 0, 400, .inl (fun _ => 0))), (qn14, .inl (cA 0, 11, .inl (fun _ => 0))), (qn15, .inl (cA 0, 11, .inl (fun _ => 0))), (qn16, .inl (cA 4, 400, .inl (fun _ => 0))), (qn17, .inl (cA 0, 10, .inl (fun _ => 0))), (qn18, .inl (cA 0, 100, .inl (fun _ => 0)))] := hD
  refine lv_iinc (v := 11) (lv' := [(1, .int 11), (0, .ref w0)]) hx hb dX10_init_181 hl (k := 0) rfl (by first | rfl | decide +kernel) (by decide) rfl (fun ls hl => ?_)
  refine lv_goto (tgt := 163) hx hb dX10_init_184 (by decide) ?_
  refine lv_iload_n hx hb dX10_init_163 rfl (lv_at hl 0 rfl) ?_
  refine lv_bipush (v := 15) hx hb dX10_init_164 (by decide) ?_
  refine lv_icmp_ge (tgt := 187) hx hb dX10_init_166 (by decide) (fun c9 => absurd c9 (by decide)) (fun c52 => ?_)
  refine lv_aload_n hx hb dX10_init_169 rfl (lv_at hl 1 rfl) ?_
  refine va_get (D := D) (ci := 11) (v := .ref qn7) (C := RX10) (T := TX10) (N := 39) hx hb hts inX10 hown hK hP 0 rfl rfl 13 (by decide) (hts (.fieldLink RX10 33 "EscrowDeskModel" "keywords" "[J") (by decide +kernel)) (fun _ h9 => h9) rfl dX10_init_170 ?_
  refine lv_iload_n hx hb dX10_init_173 rfl (lv_at hl 0 rfl) ?_
  refine va_ldcS hx hb hown (hC.str 24 rfl) dX10_init_174 ?_
  refine lv_iload_n hx hb dX10_init_176 rfl (lv_at hl 0 rfl) ?_
  have hPc := hP.sub (ws' := []) [] rfl
  have hDc := hD.sub (ws' := []) [] (by decide) rfl
  have hFc := va_free (wc := []) hD hS hA [] rfl
  refine va_calll (va_runS (As := [.ref (sa 24), .int 11]) (rest := [.int 11, .ref qn7]) ⟨hx, hb, hml, hown, hts⟩ (c_m_wordAt l D cA sa 24 11 ([114, 97, 116, 101, 32, 102, 101, 101, 32, 103, 114, 97, 99, 101, 32, 100, 101, 112, 111, 115, 105, 116, 32, 109, 105, 108, 101, 115, 116, 111, 110, 101, 32, 119, 104, 101, 110, 32, 111, 114, 32, 97, 110, 100, 32, 110, 111, 116, 32, 100, 97, 121, 32, 112, 114, 111, 111, 102, 32, 100, 111, 110, 101, 32, 115, 117, 109, 32, 97, 112, 112, 114, 111, 118, 101, 100, 32, 97, 108, 119, 97, 121, 115, 32]) H.size (by decide +kernel) (by decide +kernel)) (va_cwS 2 hts gX10_init_X10_wordAt rfl rfl rfl (by decide +kernel) ⟨(Nat.le_of_ble_eq_true rfl), (Nat.le_of_ble_eq_true rfl)⟩) ⟨Wd.blind, fun U hU hW => ⟨rfl, Wd.call hPc hDc hK hC hZ hS hFc U hU hW⟩⟩ rfl rfl hl.1 rfl (lv_room (Nat.le_of_ble_eq_true rfl)) dX10_init_177 ⟨(Nat.le_of_ble_eq_true rfl), (Nat.le_of_ble_eq_true rfl)⟩) hS (fun q _ h => hFc q h) hFc (fun rn53 u t H1 locs ht hvm hw hB hz1 hk1 hS => ?_)
  obtain ⟨hP1, hD1⟩ := hB
  rw [ht] at hP1
  obtain ⟨hP, hD⟩ := va_join (wr := [(w0, .inr (11, [.ref qn1, .ref qn2, .ref qn3, .ref qn4, .ref qn5, .long 0, .long 0, .int 0, .int 0, .ref qn6, .int 0, .int 0, .int (-1), .ref qn7, .int 0, .int 0, .int 0, .int 0, .int 0, .int 0, .int 0, .int 0, .int 0, .int 0, .int 0, .long 0, .int 0, .ref qn8, .ref qn9, .ref qn10, .ref qn11, .ref qn12, .ref qn13, .ref qn14, .ref qn15, .ref qn16, .ref qn17, .ref qn18, .int 0])), (qn1, .inl (cA 0, 326, .inl (fun _ => 0))), (qn2, .inl (cA 0, 326, .inl (fun _ => 0))), (qn3, .inl (cA 0, 326, .inl (fun _ => 0))), (qn4, .inl (cA 0, 3260, .inl (fun _ => 0))), (qn5, .inl (cA 1, 10, .inr (.inl (fun _ => 0)))), (qn6, .inl (cA 0, 700, .inl (fun _ => 0))), (qn7, .inl (cA 1, 15, .inr (.inl fn51))), (qn8, .inl (cA 1, 10, .inr (.inl (fun _ => 0)))), (qn9, .inl (cA 1, 10, .inr (.inl (fun _ => 0)))), (qn10, .inl (cA 1, 8, .inr (.inl (fun _ => 0)))), (qn11, .inl (cA 1, 8, .inr (.inl (fun _ => 0)))), (qn12, .inl (cA 0, 400, .inl (fun _ => 0))), (qn13, .inl (cA 0, 400, .inl (fun _ => 0))), (qn14, .inl (cA 0, 11, .inl (fun _ => 0))), (qn15, .inl (cA 0, 11, .inl (fun _ => 0))), (qn16, .inl (cA 4, 400, .inl (fun _ => 0))), (qn17, .inl (cA 0, 10, .inl (fun _ => 0))), (qn18, .inl (cA 0, 100, .inl (fun _ => 0)))]) (w1 := []) hP hD [] [0, 1, 2, 3, 4, 5, 6, 7, 8, 9, 10, 11, 12, 13, 14, 15, 16, 17, 18] rfl rfl (by decide) (by decide) hk1 hFc hP1 hD1
  generalize H1 = H at hP hS ⊢
  have hP : va_P D vwCl [(w0, .inr (11, [.ref qn1, .ref qn2, .ref qn3, .ref qn4, .ref qn5, .long 0, .long 0, .int 0, .int 0, .ref qn6, .int 0, .int 0, .int (-1), .ref qn7, .int 0, .int 0, .int 0, .int 0, .int 0, .int 0, .int 0, .int 0, .int 0, .int 0, .int 0, .long 0, .int 0, .ref qn8, .ref qn9, .ref qn10, .ref qn11, .ref qn12, .ref qn13, .ref qn14, .ref qn15, .ref qn16, .ref qn17, .ref qn18, .int 0])), (qn1, .inl (cA 0, 326, .inl (fun _ => 0))), (qn2, .inl (cA 0, 326, .inl (fun _ => 0))), (qn3, .inl (cA 0, 326, .inl (fun _ => 0))), (qn4, .inl (cA 0, 3260, .inl (fun _ => 0))), (qn5, .inl (cA 1, 10, .inr (.inl (fun _ => 0)))), (qn6, .inl (cA 0, 700, .inl (fun _ => 0))), (qn7, .inl (cA 1, 15, .inr (.inl fn51))), (qn8, .inl (cA 1, 10, .inr (.inl (fun _ => 0)))), (qn9, .inl (cA 1, 10, .inr (.inl (fun _ => 0)))), (qn10, .inl (cA 1, 8, .inr (.inl (fun _ => 0)))), (qn11, .inl (cA 1, 8, .inr (.inl (fun _ => 0)))), (qn12, .inl (cA 0, 400, .inl (fun _ => 0))), (qn13, .inl (cA 0, 400, .inl (fun _ => 0))), (qn14, .inl (cA 0, 11, .inl (fun _ => 0))), (qn15, .inl (cA 0, 11, .inl (fun _ => 0))), (qn16, .inl (cA 4, 400, .inl (fun _ => 0))), (qn17, .inl (cA 0, 10, .inl (fun _ => 0))), (qn18, .inl (cA 0, 100, .inl (fun _ => 0)))] H := hP
  have hD : va_D A [(w0, .inr (11, [.ref qn1, .ref qn2, .ref qn3, .ref qn4, .ref qn5, .long 0, .long 0, .int 0, .int 0, .ref qn6, .int 0, .int 0, .int (-1), .ref qn7, .int 0, .int 0, .int 0, .int 0, .int 0, .int 0, .int 0, .int 0, .int 0, .int 0, .int 0, .long 0, .int 0, .ref qn8, .ref qn9, .ref qn10, .ref qn11, .ref qn12, .ref qn13, .ref qn14, .ref qn15, .ref qn16, .ref qn17, .ref qn18, .int 0])), (qn1, .inl (cA 0, 326, .inl (fun _ => 0))), (qn2, .inl (cA 0, 326, .inl (fun _ => 0))), (qn3, .inl (cA 0, 326, .inl (fun _ => 0))), (qn4, .inl (cA 0, 3260, .inl (fun _ => 0))), (qn5, .inl (cA 1, 10, .inr (.inl (fun _ => 0)))), (qn6, .inl (cA 0, 700, .inl (fun _ => 0))), (qn7, .inl (cA 1, 15, .inr (.inl fn51))), (qn8, .inl (cA 1, 10, .inr (.inl (fun _ => 0)))), (qn9, .inl (cA 1, 10, .inr (.inl (fun _ => 0)))), (qn10, .inl (cA 1, 8, .inr (.inl (fun _ => 0)))), (qn11, .inl (cA 1, 8, .inr (.inl (fun _ => 0)))), (qn12, .inl (cA 0, 400, .inl (fun _ => 0))), (qn13, .inl (cA 0, 400, .inl (fun _ => 0))), (qn14, .inl (cA 0, 11, .inl (fun _ => 0))), (qn15, .inl (cA 0, 11, .inl (fun _ => 0))), (qn16, .inl (cA 4, 400, .inl (fun _ => 0))), (qn17, .inl (cA 0, 10, .inl (fun _ => 0))), (qn18, .inl (cA 0, 100, .inl (fun _ => 0)))] := hD
  refine va_last hx hb hK hP hD hS 7 1 rfl rfl (vp_in_iff.mpr (by decide)) dX10_init_180 (fun H locs hP hD hS => ?_)
  have hP : va_P D vwCl [(w0, .inr (11, [.ref qn1, .ref qn2, .ref qn3, .ref qn4, .ref qn5, .long 0, .long 0, .int 0, .int 0, .ref qn6, .int 0, .int 0, .int (-1), .ref qn7, .int 0, .int 0, .int 0, .int 0, .int 0, .int 0, .int 0, .int 0, .int 0, .int 0, .int 0, .long 0, .int 0, .ref qn8, .ref qn9, .ref qn10, .ref qn11, .ref qn12, .ref qn13, .ref qn14, .ref qn15, .ref qn16, .ref qn17, .ref qn18, .int 0])), (qn1, .inl (cA 0, 326, .inl (fun _ => 0))), (qn2, .inl (cA 0, 326, .inl (fun _ => 0))), (qn3, .inl (cA 0, 326, .inl (fun _ => 0))), (qn4, .inl (cA 0, 3260, .inl (fun _ => 0))), (qn5, .inl (cA 1, 10, .inr (.inl (fun _ => 0)))), (qn6, .inl (cA 0, 700, .inl (fun _ => 0))), (qn7, .inl (cA 1, 15, .inr (.inl (vp_updL fn51 11 rn53)))), (qn8, .inl (cA 1, 10, .inr (.inl (fun _ => 0)))), (qn9, .inl (cA 1, 10, .inr (.inl (fun _ => 0)))), (qn10, .inl (cA 1, 8, .inr (.inl (fun _ => 0)))), (qn11, .inl (cA 1, 8, .inr (.inl (fun _ => 0)))), (qn12, .inl (cA 0, 400, .inl (fun _ => 0))), (qn13, .inl (cA 0, 400, .inl (fun _ => 0))), (qn14, .inl (cA 0, 11, .inl (fun _ => 0))), (qn15, .inl (cA 0, 11, .inl (fun _ => 0))), (qn16, .inl (cA 4, 400, .inl (fun _ => 0))), (qn17, .inl (cA 0, 10, .inl (fun _ => 0))), (qn18, .inl (cA 0, 100, .inl (fun _ => 0)))] H := hP
  have hD : va_D A [(w0, .inr (11, [.ref qn1, .ref qn2, .ref qn3, .ref qn4, .ref qn5, .long 0, .long 0, .int 0, .int 0, .ref qn6, .int 0, .int 0, .int (-1), .ref qn7, .int 0, .int 0, .int 0, .int 0, .int 0, .int 0, .int 0, .int 0, .int 0, .int 0, .int 0, .long 0, .int 0, .ref qn8, .ref qn9, .ref qn10, .ref qn11, .ref qn12, .ref qn13, .ref qn14, .ref qn15, .ref qn16, .ref qn17, .ref qn18, .int 0])), (qn1, .inl (cA 0, 326, .inl (fun _ => 0))), (qn2, .inl (cA 0, 326, .inl (fun _ => 0))), (qn3, .inl (cA 0, 326, .inl (fun _ => 0))), (qn4, .inl (cA 0, 3260, .inl (fun _ => 0))), (qn5, .inl (cA 1, 10, .inr (.inl (fun _ => 0)))), (qn6, .inl (cA 0, 700, .inl (fun _ => 0))), (qn7, .inl (cA 1, 15, .inr (.inl (vp_updL fn51 11 rn53)))), (qn8, .inl (cA 1, 10, .inr (.inl (fun _ => 0)))), (qn9, .inl (cA 1, 10, .inr (.inl (fun _ => 0)))), (qn10, .inl (cA 1, 8, .inr (.inl (fun _ => 0)))), (qn11, .inl (cA 1, 8, .inr (.inl (fun _ => 0)))), (qn12, .inl (cA 0, 400, .inl (fun _ => 0))), (qn13, .inl (cA 0, 400, .inl (fun _ => 0))), (qn14, .inl (cA 0, 11, .inl (fun _ => 0))), (qn15, .inl (cA 0, 11, .inl (fun _ => 0))), (qn16, .inl (cA 4, 400, .inl (fun _ => 0))), (qn17, .inl (cA 0, 10, .inl (fun _ => 0))), (qn18, .inl (cA 0, 100, .inl (fun _ => 0)))] := hD
  generalize (vp_updL fn51 11 rn53) = fn54 at hP hD
  have hP : va_P D vwCl [(w0, .inr (11, [.ref qn1, .ref qn2, .ref qn3, .ref qn4, .ref qn5, .long 0, .long 0, .int 0, .int 0, .ref qn6, .int 0, .int 0, .int (-1), .ref qn7, .int 0, .int 0, .int 0, .int 0, .int 0, .int 0, .int 0, .int 0, .int 0, .int 0, .int 0, .long 0, .int 0, .ref qn8, .ref qn9, .ref qn10, .ref qn11, .ref qn12, .ref qn13, .ref qn14, .ref qn15, .ref qn16, .ref qn17, .ref qn18, .int 0])), (qn1, .inl (cA 0, 326, .inl (fun _ => 0))), (qn2, .inl (cA 0, 326, .inl (fun _ => 0))), (qn3, .inl (cA 0, 326, .inl (fun _ => 0))), (qn4, .inl (cA 0, 3260, .inl (fun _ => 0))), (qn5, .inl (cA 1, 10, .inr (.inl (fun _ => 0)))), (qn6, .inl (cA 0, 700, .inl (fun _ => 0))), (qn7, .inl (cA 1, 15, .inr (.inl fn54))), (qn8, .inl (cA 1, 10, .inr (.inl (fun _ => 0)))), (qn9, .inl (cA 1, 10, .inr (.inl (fun _ => 0)))), (qn10, .inl (cA 1, 8, .inr (.inl (fun _ => 0)))), (qn11, .inl (cA 1, 8, .inr (.inl (fun _ => 0)))), (qn12, .inl (cA 0, 400, .inl (fun _ => 0))), (qn13, .inl (cA 0, 400, .inl (fun _ => 0))), (qn14, .inl (cA 0, 11, .inl (fun _ => 0))), (qn15, .inl (cA 0, 11, .inl (fun _ => 0))), (qn16, .inl (cA 4, 400, .inl (fun _ => 0))), (qn17, .inl (cA 0, 10, .inl (fun _ => 0))), (qn18, .inl (cA 0, 100, .inl (fun _ => 0)))] H := hP
  have hD : va_D A [(w0, .inr (11, [.ref qn1, .ref qn2, .ref qn3, .ref qn4, .ref qn5, .long 0, .long 0, .int 0, .int 0, .ref qn6, .int 0, .int 0, .int (-1), .ref qn7, .int 0, .int 0, .int 0, .int 0, .int 0, .int 0, .int 0, .int 0, .int 0, .int 0, .int 0, .long 0, .int 0, .ref qn8, .ref qn9, .ref qn10, .ref qn11, .ref qn12, .ref qn13, .ref qn14, .ref qn15, .ref qn16, .ref qn17, .ref qn18, .int 0])), (qn1, .inl (cA 0, 326, .inl (fun _ => 0))), (qn2, .inl (cA 0, 326, .inl (fun _ => 0))), (qn3, .inl (cA 0, 326, .inl (fun _ => 0))), (qn4, .inl (cA 0, 3260, .inl (fun _ => 0))), (qn5, .inl (cA 1, 10, .inr (.inl (fun _ => 0)))), (qn6, .inl (cA 0, 700, .inl (fun _ => 0))), (qn7, .inl (cA 1, 15, .inr (.inl fn54))), (qn8, .inl (cA 1, 10, .inr (.inl (fun _ => 0)))), (qn9, .inl (cA 1, 10, .inr (.inl (fun _ => 0)))), (qn10, .inl (cA 1, 8, .inr (.inl (fun _ => 0)))), (qn11, .inl (cA 1, 8, .inr (.inl (fun _ => 0)))), (qn12, .inl (cA 0, 400, .inl (fun _ => 0))), (qn13, .inl (cA 0, 400, .inl (fun _ => 0))), (qn14, .inl (cA 0, 11, .inl (fun _ => 0))), (qn15, .inl (cA 0, 11, .inl (fun _ => 0))), (qn16, .inl (cA 4, 400, .inl (fun _ => 0))), (qn17, .inl (cA 0, 10, .inl (fun _ => 0))), (qn18, .inl (cA 0, 100, .inl (fun _ => 0)))] := hD
  refine lv_iinc (v := 12) (lv' := [(1, .int 12), (0, .ref w0)]) hx hb dX10_init_181 hl (k := 0) rfl (by first | rfl | decide +kernel) (by decide) rfl (fun ls hl => ?_)
  refine lv_goto (tgt := 163) hx hb dX10_init_184 (by decide) ?_
  refine lv_iload_n hx hb dX10_init_163 rfl (lv_at hl 0 rfl) ?_
  refine lv_bipush (v := 15) hx hb dX10_init_164 (by decide) ?_
  refine lv_icmp_ge (tgt := 187) hx hb dX10_init_166 (by decide) (fun c9 => absurd c9 (by decide)) (fun c55 => ?_)
  refine lv_aload_n hx hb dX10_init_169 rfl (lv_at hl 1 rfl) ?_
  refine va_get (D := D) (ci := 11) (v := .ref qn7) (C := RX10) (T := TX10) (N := 39) hx hb hts inX10 hown hK hP 0 rfl rfl 13 (by decide) (hts (.fieldLink RX10 33 "EscrowDeskModel" "keywords" "[J") (by decide +kernel)) (fun _ h9 => h9) rfl dX10_init_170 ?_
  refine lv_iload_n hx hb dX10_init_173 rfl (lv_at hl 0 rfl) ?_
  refine va_ldcS hx hb hown (hC.str 24 rfl) dX10_init_174 ?_
  refine lv_iload_n hx hb dX10_init_176 rfl (lv_at hl 0 rfl) ?_
  have hPc := hP.sub (ws' := []) [] rfl
  have hDc := hD.sub (ws' := []) [] (by decide) rfl
  have hFc := va_free (wc := []) hD hS hA [] rfl
  refine va_calll (va_runS (As := [.ref (sa 24), .int 12]) (rest := [.int 12, .ref qn7]) ⟨hx, hb, hml, hown, hts⟩ (c_m_wordAt l D cA sa 24 12 ([114, 97, 116, 101, 32, 102, 101, 101, 32, 103, 114, 97, 99, 101, 32, 100, 101, 112, 111, 115, 105, 116, 32, 109, 105, 108, 101, 115, 116, 111, 110, 101, 32, 119, 104, 101, 110, 32, 111, 114, 32, 97, 110, 100, 32, 110, 111, 116, 32, 100, 97, 121, 32, 112, 114, 111, 111, 102, 32, 100, 111, 110, 101, 32, 115, 117, 109, 32, 97, 112, 112, 114, 111, 118, 101, 100, 32, 97, 108, 119, 97, 121, 115, 32]) H.size (by decide +kernel) (by decide +kernel)) (va_cwS 2 hts gX10_init_X10_wordAt rfl rfl rfl (by decide +kernel) ⟨(Nat.le_of_ble_eq_true rfl), (Nat.le_of_ble_eq_true rfl)⟩) ⟨Wd.blind, fun U hU hW => ⟨rfl, Wd.call hPc hDc hK hC hZ hS hFc U hU hW⟩⟩ rfl rfl hl.1 rfl (lv_room (Nat.le_of_ble_eq_true rfl)) dX10_init_177 ⟨(Nat.le_of_ble_eq_true rfl), (Nat.le_of_ble_eq_true rfl)⟩) hS (fun q _ h => hFc q h) hFc (fun rn56 u t H1 locs ht hvm hw hB hz1 hk1 hS => ?_)
  obtain ⟨hP1, hD1⟩ := hB
  rw [ht] at hP1
  obtain ⟨hP, hD⟩ := va_join (wr := [(w0, .inr (11, [.ref qn1, .ref qn2, .ref qn3, .ref qn4, .ref qn5, .long 0, .long 0, .int 0, .int 0, .ref qn6, .int 0, .int 0, .int (-1), .ref qn7, .int 0, .int 0, .int 0, .int 0, .int 0, .int 0, .int 0, .int 0, .int 0, .int 0, .int 0, .long 0, .int 0, .ref qn8, .ref qn9, .ref qn10, .ref qn11, .ref qn12, .ref qn13, .ref qn14, .ref qn15, .ref qn16, .ref qn17, .ref qn18, .int 0])), (qn1, .inl (cA 0, 326, .inl (fun _ => 0))), (qn2, .inl (cA 0, 326, .inl (fun _ => 0))), (qn3, .inl (cA 0, 326, .inl (fun _ => 0))), (qn4, .inl (cA 0, 3260, .inl (fun _ => 0))), (qn5, .inl (cA 1, 10, .inr (.inl (fun _ => 0)))), (qn6, .inl (cA 0, 700, .inl (fun _ => 0))), (qn7, .inl (cA 1, 15, .inr (.inl fn54))), (qn8, .inl (cA 1, 10, .inr (.inl (fun _ => 0)))), (qn9, .inl (cA 1, 10, .inr (.inl (fun _ => 0)))), (qn10, .inl (cA 1, 8, .inr (.inl (fun _ => 0)))), (qn11, .inl (cA 1, 8, .inr (.inl (fun _ => 0)))), (qn12, .inl (cA 0, 400, .inl (fun _ => 0))), (qn13, .inl (cA 0, 400, .inl (fun _ => 0))), (qn14, .inl (cA 0, 11, .inl (fun _ => 0))), (qn15, .inl (cA 0, 11, .inl (fun _ => 0))), (qn16, .inl (cA 4, 400, .inl (fun _ => 0))), (qn17, .inl (cA 0, 10, .inl (fun _ => 0))), (qn18, .inl (cA 0, 100, .inl (fun _ => 0)))]) (w1 := []) hP hD [] [0, 1, 2, 3, 4, 5, 6, 7, 8, 9, 10, 11, 12, 13, 14, 15, 16, 17, 18] rfl rfl (by decide) (by decide) hk1 hFc hP1 hD1
  generalize H1 = H at hP hS ⊢
  have hP : va_P D vwCl [(w0, .inr (11, [.ref qn1, .ref qn2, .ref qn3, .ref qn4, .ref qn5, .long 0, .long 0, .int 0, .int 0, .ref qn6, .int 0, .int 0, .int (-1), .ref qn7, .int 0, .int 0, .int 0, .int 0, .int 0, .int 0, .int 0, .int 0, .int 0, .int 0, .int 0, .long 0, .int 0, .ref qn8, .ref qn9, .ref qn10, .ref qn11, .ref qn12, .ref qn13, .ref qn14, .ref qn15, .ref qn16, .ref qn17, .ref qn18, .int 0])), (qn1, .inl (cA 0, 326, .inl (fun _ => 0))), (qn2, .inl (cA 0, 326, .inl (fun _ => 0))), (qn3, .inl (cA 0, 326, .inl (fun _ => 0))), (qn4, .inl (cA 0, 3260, .inl (fun _ => 0))), (qn5, .inl (cA 1, 10, .inr (.inl (fun _ => 0)))), (qn6, .inl (cA 0, 700, .inl (fun _ => 0))), (qn7, .inl (cA 1, 15, .inr (.inl fn54))), (qn8, .inl (cA 1, 10, .inr (.inl (fun _ => 0)))), (qn9, .inl (cA 1, 10, .inr (.inl (fun _ => 0)))), (qn10, .inl (cA 1, 8, .inr (.inl (fun _ => 0)))), (qn11, .inl (cA 1, 8, .inr (.inl (fun _ => 0)))), (qn12, .inl (cA 0, 400, .inl (fun _ => 0))), (qn13, .inl (cA 0, 400, .inl (fun _ => 0))), (qn14, .inl (cA 0, 11, .inl (fun _ => 0))), (qn15, .inl (cA 0, 11, .inl (fun _ => 0))), (qn16, .inl (cA 4, 400, .inl (fun _ => 0))), (qn17, .inl (cA 0, 10, .inl (fun _ => 0))), (qn18, .inl (cA 0, 100, .inl (fun _ => 0)))] H := hP
  have hD : va_D A [(w0, .inr (11, [.ref qn1, .ref qn2, .ref qn3, .ref qn4, .ref qn5, .long 0, .long 0, .int 0, .int 0, .ref qn6, .int 0, .int 0, .int (-1), .ref qn7, .int 0, .int 0, .int 0, .int 0, .int 0, .int 0, .int 0, .int 0, .int 0, .int 0, .int 0, .long 0, .int 0, .ref qn8, .ref qn9, .ref qn10, .ref qn11, .ref qn12, .ref qn13, .ref qn14, .ref qn15, .ref qn16, .ref qn17, .ref qn18, .int 0])), (qn1, .inl (cA 0, 326, .inl (fun _ => 0))), (qn2, .inl (cA 0, 326, .inl (fun _ => 0))), (qn3, .inl (cA 0, 326, .inl (fun _ => 0))), (qn4, .inl (cA 0, 3260, .inl (fun _ => 0))), (qn5, .inl (cA 1, 10, .inr (.inl (fun _ => 0)))), (qn6, .inl (cA 0, 700, .inl (fun _ => 0))), (qn7, .inl (cA 1, 15, .inr (.inl fn54))), (qn8, .inl (cA 1, 10, .inr (.inl (fun _ => 0)))), (qn9, .inl (cA 1, 10, .inr (.inl (fun _ => 0)))), (qn10, .inl (cA 1, 8, .inr (.inl (fun _ => 0)))), (qn11, .inl (cA 1, 8, .inr (.inl (fun _ => 0)))), (qn12, .inl (cA 0, 400, .inl (fun _ => 0))), (qn13, .inl (cA 0, 400, .inl (fun _ => 0))), (qn14, .inl (cA 0, 11, .inl (fun _ => 0))), (qn15, .inl (cA 0, 11, .inl (fun _ => 0))), (qn16, .inl (cA 4, 400, .inl (fun _ => 0))), (qn17, .inl (cA 0, 10, .inl (fun _ => 0))), (qn18, .inl (cA 0, 100, .inl (fun _ => 0)))] := hD
  refine va_last hx hb hK hP hD hS 7 1 rfl rfl (vp_in_iff.mpr (by decide)) dX10_init_180 (fun H locs hP hD hS => ?_)
  have hP : va_P D vwCl [(w0, .inr (11, [.ref qn1, .ref qn2, .ref qn3, .ref qn4, .ref qn5, .long 0, .long 0, .int 0, .int 0, .ref qn6, .int 0, .int 0, .int (-1), .ref qn7, .int 0, .int 0, .int 0, .int 0, .int 0, .int 0, .int 0, .int 0, .int 0, .int 0, .int 0, .long 0, .int 0, .ref qn8, .ref qn9, .ref qn10, .ref qn11, .ref qn12, .ref qn13, .ref qn14, .ref qn15, .ref qn16, .ref qn17, .ref qn18, .int 0])), (qn1, .inl (cA 0, 326, .inl (fun _ => 0))), (qn2, .inl (cA 0, 326, .inl (fun _ => 0))), (qn3, .inl (cA 0, 326, .inl (fun _ => 0))), (qn4, .inl (cA 0, 3260, .inl (fun _ => 0))), (qn5, .inl (cA 1, 10, .inr (.inl (fun _ => 0)))), (qn6, .inl (cA 0, 700, .inl (fun _ => 0))), (qn7, .inl (cA 1, 15, .inr (.inl (vp_updL fn54 12 rn56)))), (qn8, .inl (cA 1, 10, .inr (.inl (fun _ => 0)))), (qn9, .inl (cA 1, 10, .inr (.inl (fun _ => 0)))), (qn10, .inl (cA 1, 8, .inr (.inl (fun _ => 0)))), (qn11, .inl (cA 1, 8, .inr (.inl (fun _ => 0)))), (qn12, .inl (cA 0, 400, .inl (fun _ => 0))), (qn13, .inl (cA 0, 400, .inl (fun _ => 0))), (qn14, .inl (cA 0, 11, .inl (fun _ => 0))), (qn15, .inl (cA 0, 11, .inl (fun _ => 0))), (qn16, .inl (cA 4, 400, .inl (fun _ => 0))), (qn17, .inl (cA 0, 10, .inl (fun _ => 0))), (qn18, .inl (cA 0, 100, .inl (fun _ => 0)))] H := hP
  have hD : va_D A [(w0, .inr (11, [.ref qn1, .ref qn2, .ref qn3, .ref qn4, .ref qn5, .long 0, .long 0, .int 0, .int 0, .ref qn6, .int 0, .int 0, .int (-1), .ref qn7, .int 0, .int 0, .int 0, .int 0, .int 0, .int 0, .int 0, .int 0, .int 0, .int 0, .int 0, .long 0, .int 0, .ref qn8, .ref qn9, .ref qn10, .ref qn11, .ref qn12, .ref qn13, .ref qn14, .ref qn15, .ref qn16, .ref qn17, .ref qn18, .int 0])), (qn1, .inl (cA 0, 326, .inl (fun _ => 0))), (qn2, .inl (cA 0, 326, .inl (fun _ => 0))), (qn3, .inl (cA 0, 326, .inl (fun _ => 0))), (qn4, .inl (cA 0, 3260, .inl (fun _ => 0))), (qn5, .inl (cA 1, 10, .inr (.inl (fun _ => 0)))), (qn6, .inl (cA 0, 700, .inl (fun _ => 0))), (qn7, .inl (cA 1, 15, .inr (.inl (vp_updL fn54 12 rn56)))), (qn8, .inl (cA 1, 10, .inr (.inl (fun _ => 0)))), (qn9, .inl (cA 1, 10, .inr (.inl (fun _ => 0)))), (qn10, .inl (cA 1, 8, .inr (.inl (fun _ => 0)))), (qn11, .inl (cA 1, 8, .inr (.inl (fun _ => 0)))), (qn12, .inl (cA 0, 400, .inl (fun _ => 0))), (qn13, .inl (cA 0, 400, .inl (fun _ => 0))), (qn14, .inl (cA 0, 11, .inl (fun _ => 0))), (qn15, .inl (cA 0, 11, .inl (fun _ => 0))), (qn16, .inl (cA 4, 400, .inl (fun _ => 0))), (qn17, .inl (cA 0, 10, .inl (fun _ => 0))), (qn18, .inl (cA 0, 100, .inl (fun _ => 0)))] := hD
  generalize (vp_updL fn54 12 rn56) = fn57 at hP hD
  have hP : va_P D vwCl [(w0, .inr (11, [.ref qn1, .ref qn2, .ref qn3, .ref qn4, .ref qn5, .long 0, .long 0, .int 0, .int 0, .ref qn6, .int 0, .int 0, .int (-1), .ref qn7, .int 0, .int 0, .int 0, .int 0, .int 0, .int 0, .int 0, .int 0, .int 0, .int 0, .int 0, .long 0, .int 0, .ref qn8, .ref qn9, .ref qn10, .ref qn11, .ref qn12, .ref qn13, .ref qn14, .ref qn15, .ref qn16, .ref qn17, .ref qn18, .int 0])), (qn1, .inl (cA 0, 326, .inl (fun _ => 0))), (qn2, .inl (cA 0, 326, .inl (fun _ => 0))), (qn3, .inl (cA 0, 326, .inl (fun _ => 0))), (qn4, .inl (cA 0, 3260, .inl (fun _ => 0))), (qn5, .inl (cA 1, 10, .inr (.inl (fun _ => 0)))), (qn6, .inl (cA 0, 700, .inl (fun _ => 0))), (qn7, .inl (cA 1, 15, .inr (.inl fn57))), (qn8, .inl (cA 1, 10, .inr (.inl (fun _ => 0)))), (qn9, .inl (cA 1, 10, .inr (.inl (fun _ => 0)))), (qn10, .inl (cA 1, 8, .inr (.inl (fun _ => 0)))), (qn11, .inl (cA 1, 8, .inr (.inl (fun _ => 0)))), (qn12, .inl (cA 0, 400, .inl (fun _ => 0))), (qn13, .inl (cA 0, 400, .inl (fun _ => 0))), (qn14, .inl (cA 0, 11, .inl (fun _ => 0))), (qn15, .inl (cA 0, 11, .inl (fun _ => 0))), (qn16, .inl (cA 4, 400, .inl (fun _ => 0))), (qn17, .inl (cA 0, 10, .inl (fun _ => 0))), (qn18, .inl (cA 0, 100, .inl (fun _ => 0)))] H := hP
  have hD : va_D A [(w0, .inr (11, [.ref qn1, .ref qn2, .ref qn3, .ref qn4, .ref qn5, .long 0, .long 0, .int 0, .int 0, .ref qn6, .int 0, .int 0, .int (-1), .ref qn7, .int 0, .int 0, .int 0, .int 0, .int 0, .int 0, .int 0, .int 0, .int 0, .int 0, .int 0, .long 0, .int 0, .ref qn8, .ref qn9, .ref qn10, .ref qn11, .ref qn12, .ref qn13, .ref qn14, .ref qn15, .ref qn16, .ref qn17, .ref qn18, .int 0])), (qn1, .inl (cA 0, 326, .inl (fun _ => 0))), (qn2, .inl (cA 0, 326, .inl (fun _ => 0))), (qn3, .inl (cA 0, 326, .inl (fun _ => 0))), (qn4, .inl (cA 0, 3260, .inl (fun _ => 0))), (qn5, .inl (cA 1, 10, .inr (.inl (fun _ => 0)))), (qn6, .inl (cA 0, 700, .inl (fun _ => 0))), (qn7, .inl (cA 1, 15, .inr (.inl fn57))), (qn8, .inl (cA 1, 10, .inr (.inl (fun _ => 0)))), (qn9, .inl (cA 1, 10, .inr (.inl (fun _ => 0)))), (qn10, .inl (cA 1, 8, .inr (.inl (fun _ => 0)))), (qn11, .inl (cA 1, 8, .inr (.inl (fun _ => 0)))), (qn12, .inl (cA 0, 400, .inl (fun _ => 0))), (qn13, .inl (cA 0, 400, .inl (fun _ => 0))), (qn14, .inl (cA 0, 11, .inl (fun _ => 0))), (qn15, .inl (cA 0, 11, .inl (fun _ => 0))), (qn16, .inl (cA 4, 400, .inl (fun _ => 0))), (qn17, .inl (cA 0, 10, .inl (fun _ => 0))), (qn18, .inl (cA 0, 100, .inl (fun _ => 0)))] := hD
  refine lv_iinc (v := 13) (lv' := [(1, .int 13), (0, .ref w0)]) hx hb dX10_init_181 hl (k := 0) rfl (by first | rfl | decide +kernel) (by decide) rfl (fun ls hl => ?_)
  refine lv_goto (tgt := 163) hx hb dX10_init_184 (by decide) ?_
  refine lv_iload_n hx hb dX10_init_163 rfl (lv_at hl 0 rfl) ?_
  refine lv_bipush (v := 15) hx hb dX10_init_164 (by decide) ?_
  refine lv_icmp_ge (tgt := 187) hx hb dX10_init_166 (by decide) (fun c9 => absurd c9 (by decide)) (fun c58 => ?_)
  refine lv_aload_n hx hb dX10_init_169 rfl (lv_at hl 1 rfl) ?_
  refine va_get (D := D) (ci := 11) (v := .ref qn7) (C := RX10) (T := TX10) (N := 39) hx hb hts inX10 hown hK hP 0 rfl rfl 13 (by decide) (hts (.fieldLink RX10 33 "EscrowDeskModel" "keywords" "[J") (by decide +kernel)) (fun _ h9 => h9) rfl dX10_init_170 ?_
  refine lv_iload_n hx hb dX10_init_173 rfl (lv_at hl 0 rfl) ?_
  refine va_ldcS hx hb hown (hC.str 24 rfl) dX10_init_174 ?_
  refine lv_iload_n hx hb dX10_init_176 rfl (lv_at hl 0 rfl) ?_
  have hPc := hP.sub (ws' := []) [] rfl
  have hDc := hD.sub (ws' := []) [] (by decide) rfl
  have hFc := va_free (wc := []) hD hS hA [] rfl
  refine va_calll (va_runS (As := [.ref (sa 24), .int 13]) (rest := [.int 13, .ref qn7]) ⟨hx, hb, hml, hown, hts⟩ (c_m_wordAt l D cA sa 24 13 ([114, 97, 116, 101, 32, 102, 101, 101, 32, 103, 114, 97, 99, 101, 32, 100, 101, 112, 111, 115, 105, 116, 32, 109, 105, 108, 101, 115, 116, 111, 110, 101, 32, 119, 104, 101, 110, 32, 111, 114, 32, 97, 110, 100, 32, 110, 111, 116, 32, 100, 97, 121, 32, 112, 114, 111, 111, 102, 32, 100, 111, 110, 101, 32, 115, 117, 109, 32, 97, 112, 112, 114, 111, 118, 101, 100, 32, 97, 108, 119, 97, 121, 115, 32]) H.size (by decide +kernel) (by decide +kernel)) (va_cwS 2 hts gX10_init_X10_wordAt rfl rfl rfl (by decide +kernel) ⟨(Nat.le_of_ble_eq_true rfl), (Nat.le_of_ble_eq_true rfl)⟩) ⟨Wd.blind, fun U hU hW => ⟨rfl, Wd.call hPc hDc hK hC hZ hS hFc U hU hW⟩⟩ rfl rfl hl.1 rfl (lv_room (Nat.le_of_ble_eq_true rfl)) dX10_init_177 ⟨(Nat.le_of_ble_eq_true rfl), (Nat.le_of_ble_eq_true rfl)⟩) hS (fun q _ h => hFc q h) hFc (fun rn59 u t H1 locs ht hvm hw hB hz1 hk1 hS => ?_)
  obtain ⟨hP1, hD1⟩ := hB
  rw [ht] at hP1
  obtain ⟨hP, hD⟩ := va_join (wr := [(w0, .inr (11, [.ref qn1, .ref qn2, .ref qn3, .ref qn4, .ref qn5, .long 0, .long 0, .int 0, .int 0, .ref qn6, .int 0, .int 0, .int (-1), .ref qn7, .int 0, .int 0, .int 0, .int 0, .int 0, .int 0, .int 0, .int 0, .int 0, .int 0, .int 0, .long 0, .int 0, .ref qn8, .ref qn9, .ref qn10, .ref qn11, .ref qn12, .ref qn13, .ref qn14, .ref qn15, .ref qn16, .ref qn17, .ref qn18, .int 0])), (qn1, .inl (cA 0, 326, .inl (fun _ => 0))), (qn2, .inl (cA 0, 326, .inl (fun _ => 0))), (qn3, .inl (cA 0, 326, .inl (fun _ => 0))), (qn4, .inl (cA 0, 3260, .inl (fun _ => 0))), (qn5, .inl (cA 1, 10, .inr (.inl (fun _ => 0)))), (qn6, .inl (cA 0, 700, .inl (fun _ => 0))), (qn7, .inl (cA 1, 15, .inr (.inl fn57))), (qn8, .inl (cA 1, 10, .inr (.inl (fun _ => 0)))), (qn9, .inl (cA 1, 10, .inr (.inl (fun _ => 0)))), (qn10, .inl (cA 1, 8, .inr (.inl (fun _ => 0)))), (qn11, .inl (cA 1, 8, .inr (.inl (fun _ => 0)))), (qn12, .inl (cA 0, 400, .inl (fun _ => 0))), (qn13, .inl (cA 0, 400, .inl (fun _ => 0))), (qn14, .inl (cA 0, 11, .inl (fun _ => 0))), (qn15, .inl (cA 0, 11, .inl (fun _ => 0))), (qn16, .inl (cA 4, 400, .inl (fun _ => 0))), (qn17, .inl (cA 0, 10, .inl (fun _ => 0))), (qn18, .inl (cA 0, 100, .inl (fun _ => 0)))]) (w1 := []) hP hD [] [0, 1, 2, 3, 4, 5, 6, 7, 8, 9, 10, 11, 12, 13, 14, 15, 16, 17, 18] rfl rfl (by decide) (by decide) hk1 hFc hP1 hD1
  generalize H1 = H at hP hS ⊢
  have hP : va_P D vwCl [(w0, .inr (11, [.ref qn1, .ref qn2, .ref qn3, .ref qn4, .ref qn5, .long 0, .long 0, .int 0, .int 0, .ref qn6, .int 0, .int 0, .int (-1), .ref qn7, .int 0, .int 0, .int 0, .int 0, .int 0, .int 0, .int 0, .int 0, .int 0, .int 0, .int 0, .long 0, .int 0, .ref qn8, .ref qn9, .ref qn10, .ref qn11, .ref qn12, .ref qn13, .ref qn14, .ref qn15, .ref qn16, .ref qn17, .ref qn18, .int 0])), (qn1, .inl (cA 0, 326, .inl (fun _ => 0))), (qn2, .inl (cA 0, 326, .inl (fun _ => 0))), (qn3, .inl (cA 0, 326, .inl (fun _ => 0))), (qn4, .inl (cA 0, 3260, .inl (fun _ => 0))), (qn5, .inl (cA 1, 10, .inr (.inl (fun _ => 0)))), (qn6, .inl (cA 0, 700, .inl (fun _ => 0))), (qn7, .inl (cA 1, 15, .inr (.inl fn57))), (qn8, .inl (cA 1, 10, .inr (.inl (fun _ => 0)))), (qn9, .inl (cA 1, 10, .inr (.inl (fun _ => 0)))), (qn10, .inl (cA 1, 8, .inr (.inl (fun _ => 0)))), (qn11, .inl (cA 1, 8, .inr (.inl (fun _ => 0)))), (qn12, .inl (cA 0, 400, .inl (fun _ => 0))), (qn13, .inl (cA 0, 400, .inl (fun _ => 0))), (qn14, .inl (cA 0, 11, .inl (fun _ => 0))), (qn15, .inl (cA 0, 11, .inl (fun _ => 0))), (qn16, .inl (cA 4, 400, .inl (fun _ => 0))), (qn17, .inl (cA 0, 10, .inl (fun _ => 0))), (qn18, .inl (cA 0, 100, .inl (fun _ => 0)))] H := hP
  have hD : va_D A [(w0, .inr (11, [.ref qn1, .ref qn2, .ref qn3, .ref qn4, .ref qn5, .long 0, .long 0, .int 0, .int 0, .ref qn6, .int 0, .int 0, .int (-1), .ref qn7, .int 0, .int 0, .int 0, .int 0, .int 0, .int 0, .int 0, .int 0, .int 0, .int 0, .int 0, .long 0, .int 0, .ref qn8, .ref qn9, .ref qn10, .ref qn11, .ref qn12, .ref qn13, .ref qn14, .ref qn15, .ref qn16, .ref qn17, .ref qn18, .int 0])), (qn1, .inl (cA 0, 326, .inl (fun _ => 0))), (qn2, .inl (cA 0, 326, .inl (fun _ => 0))), (qn3, .inl (cA 0, 326, .inl (fun _ => 0))), (qn4, .inl (cA 0, 3260, .inl (fun _ => 0))), (qn5, .inl (cA 1, 10, .inr (.inl (fun _ => 0)))), (qn6, .inl (cA 0, 700, .inl (fun _ => 0))), (qn7, .inl (cA 1, 15, .inr (.inl fn57))), (qn8, .inl (cA 1, 10, .inr (.inl (fun _ => 0)))), (qn9, .inl (cA 1, 10, .inr (.inl (fun _ => 0)))), (qn10, .inl (cA 1, 8, .inr (.inl (fun _ => 0)))), (qn11, .inl (cA 1, 8, .inr (.inl (fun _ => 0)))), (qn12, .inl (cA 0, 400, .inl (fun _ => 0))), (qn13, .inl (cA 0, 400, .inl (fun _ => 0))), (qn14, .inl (cA 0, 11, .inl (fun _ => 0))), (qn15, .inl (cA 0, 11, .inl (fun _ => 0))), (qn16, .inl (cA 4, 400, .inl (fun _ => 0))), (qn17, .inl (cA 0, 10, .inl (fun _ => 0))), (qn18, .inl (cA 0, 100, .inl (fun _ => 0)))] := hD
  refine va_last hx hb hK hP hD hS 7 1 rfl rfl (vp_in_iff.mpr (by decide)) dX10_init_180 (fun H locs hP hD hS => ?_)
  have hP : va_P D vwCl [(w0, .inr (11, [.ref qn1, .ref qn2, .ref qn3, .ref qn4, .ref qn5, .long 0, .long 0, .int 0, .int 0, .ref qn6, .int 0, .int 0, .int (-1), .ref qn7, .int 0, .int 0, .int 0, .int 0, .int 0, .int 0, .int 0, .int 0, .int 0, .int 0, .int 0, .long 0, .int 0, .ref qn8, .ref qn9, .ref qn10, .ref qn11, .ref qn12, .ref qn13, .ref qn14, .ref qn15, .ref qn16, .ref qn17, .ref qn18, .int 0])), (qn1, .inl (cA 0, 326, .inl (fun _ => 0))), (qn2, .inl (cA 0, 326, .inl (fun _ => 0))), (qn3, .inl (cA 0, 326, .inl (fun _ => 0))), (qn4, .inl (cA 0, 3260, .inl (fun _ => 0))), (qn5, .inl (cA 1, 10, .inr (.inl (fun _ => 0)))), (qn6, .inl (cA 0, 700, .inl (fun _ => 0))), (qn7, .inl (cA 1, 15, .inr (.inl (vp_updL fn57 13 rn59)))), (qn8, .inl (cA 1, 10, .inr (.inl (fun _ => 0)))), (qn9, .inl (cA 1, 10, .inr (.inl (fun _ => 0)))), (qn10, .inl (cA 1, 8, .inr (.inl (fun _ => 0)))), (qn11, .inl (cA 1, 8, .inr (.inl (fun _ => 0)))), (qn12, .inl (cA 0, 400, .inl (fun _ => 0))), (qn13, .inl (cA 0, 400, .inl (fun _ => 0))), (qn14, .inl (cA 0, 11, .inl (fun _ => 0))), (qn15, .inl (cA 0, 11, .inl (fun _ => 0))), (qn16, .inl (cA 4, 400, .inl (fun _ => 0))), (qn17, .inl (cA 0, 10, .inl (fun _ => 0))), (qn18, .inl (cA 0, 100, .inl (fun _ => 0)))] H := hP
  have hD : va_D A [(w0, .inr (11, [.ref qn1, .ref qn2, .ref qn3, .ref qn4, .ref qn5, .long 0, .long 0, .int 0, .int 0, .ref qn6, .int 0, .int 0, .int (-1), .ref qn7, .int 0, .int 0, .int 0, .int 0, .int 0, .int 0, .int 0, .int 0, .int 0, .int 0, .int 0, .long 0, .int 0, .ref qn8, .ref qn9, .ref qn10, .ref qn11, .ref qn12, .ref qn13, .ref qn14, .ref qn15, .ref qn16, .ref qn17, .ref qn18, .int 0])), (qn1, .inl (cA 0, 326, .inl (fun _ => 0))), (qn2, .inl (cA 0, 326, .inl (fun _ => 0))), (qn3, .inl (cA 0, 326, .inl (fun _ => 0))), (qn4, .inl (cA 0, 3260, .inl (fun _ => 0))), (qn5, .inl (cA 1, 10, .inr (.inl (fun _ => 0)))), (qn6, .inl (cA 0, 700, .inl (fun _ => 0))), (qn7, .inl (cA 1, 15, .inr (.inl (vp_updL fn57 13 rn59)))), (qn8, .inl (cA 1, 10, .inr (.inl (fun _ => 0)))), (qn9, .inl (cA 1, 10, .inr (.inl (fun _ => 0)))), (qn10, .inl (cA 1, 8, .inr (.inl (fun _ => 0)))), (qn11, .inl (cA 1, 8, .inr (.inl (fun _ => 0)))), (qn12, .inl (cA 0, 400, .inl (fun _ => 0))), (qn13, .inl (cA 0, 400, .inl (fun _ => 0))), (qn14, .inl (cA 0, 11, .inl (fun _ => 0))), (qn15, .inl (cA 0, 11, .inl (fun _ => 0))), (qn16, .inl (cA 4, 400, .inl (fun _ => 0))), (qn17, .inl (cA 0, 10, .inl (fun _ => 0))), (qn18, .inl (cA 0, 100, .inl (fun _ => 0)))] := hD
  generalize (vp_updL fn57 13 rn59) = fn60 at hP hD
  have hP : va_P D vwCl [(w0, .inr (11, [.ref qn1, .ref qn2, .ref qn3, .ref qn4, .ref qn5, .long 0, .long 0, .int 0, .int 0, .ref qn6, .int 0, .int 0, .int (-1), .ref qn7, .int 0, .int 0, .int 0, .int 0, .int 0, .int 0, .int 0, .int 0, .int 0, .int 0, .int 0, .long 0, .int 0, .ref qn8, .ref qn9, .ref qn10, .ref qn11, .ref qn12, .ref qn13, .ref qn14, .ref qn15, .ref qn16, .ref qn17, .ref qn18, .int 0])), (qn1, .inl (cA 0, 326, .inl (fun _ => 0))), (qn2, .inl (cA 0, 326, .inl (fun _ => 0))), (qn3, .inl (cA 0, 326, .inl (fun _ => 0))), (qn4, .inl (cA 0, 3260, .inl (fun _ => 0))), (qn5, .inl (cA 1, 10, .inr (.inl (fun _ => 0)))), (qn6, .inl (cA 0, 700, .inl (fun _ => 0))), (qn7, .inl (cA 1, 15, .inr (.inl fn60))), (qn8, .inl (cA 1, 10, .inr (.inl (fun _ => 0)))), (qn9, .inl (cA 1, 10, .inr (.inl (fun _ => 0)))), (qn10, .inl (cA 1, 8, .inr (.inl (fun _ => 0)))), (qn11, .inl (cA 1, 8, .inr (.inl (fun _ => 0)))), (qn12, .inl (cA 0, 400, .inl (fun _ => 0))), (qn13, .inl (cA 0, 400, .inl (fun _ => 0))), (qn14, .inl (cA 0, 11, .inl (fun _ => 0))), (qn15, .inl (cA 0, 11, .inl (fun _ => 0))), (qn16, .inl (cA 4, 400, .inl (fun _ => 0))), (qn17, .inl (cA 0, 10, .inl (fun _ => 0))), (qn18, .inl (cA 0, 100, .inl (fun _ => 0)))] H := hP
  have hD : va_D A [(w0, .inr (11, [.ref qn1, .ref qn2, .ref qn3, .ref qn4, .ref qn5, .long 0, .long 0, .int 0, .int 0, .ref qn6, .int 0, .int 0, .int (-1), .ref qn7, .int 0, .int 0, .int 0, .int 0, .int 0, .int 0, .int 0, .int 0, .int 0, .int 0, .int 0, .long 0, .int 0, .ref qn8, .ref qn9, .ref qn10, .ref qn11, .ref qn12, .ref qn13, .ref qn14, .ref qn15, .ref qn16, .ref qn17, .ref qn18, .int 0])), (qn1, .inl (cA 0, 326, .inl (fun _ => 0))), (qn2, .inl (cA 0, 326, .inl (fun _ => 0))), (qn3, .inl (cA 0, 326, .inl (fun _ => 0))), (qn4, .inl (cA 0, 3260, .inl (fun _ => 0))), (qn5, .inl (cA 1, 10, .inr (.inl (fun _ => 0)))), (qn6, .inl (cA 0, 700, .inl (fun _ => 0))), (qn7, .inl (cA 1, 15, .inr (.inl fn60))), (qn8, .inl (cA 1, 10, .inr (.inl (fun _ => 0)))), (qn9, .inl (cA 1, 10, .inr (.inl (fun _ => 0)))), (qn10, .inl (cA 1, 8, .inr (.inl (fun _ => 0)))), (qn11, .inl (cA 1, 8, .inr (.inl (fun _ => 0)))), (qn12, .inl (cA 0, 400, .inl (fun _ => 0))), (qn13, .inl (cA 0, 400, .inl (fun _ => 0))), (qn14, .inl (cA 0, 11, .inl (fun _ => 0))), (qn15, .inl (cA 0, 11, .inl (fun _ => 0))), (qn16, .inl (cA 4, 400, .inl (fun _ => 0))), (qn17, .inl (cA 0, 10, .inl (fun _ => 0))), (qn18, .inl (cA 0, 100, .inl (fun _ => 0)))] := hD
  refine lv_iinc (v := 14) (lv' := [(1, .int 14), (0, .ref w0)]) hx hb dX10_init_181 hl (k := 0) rfl (by first | rfl | decide +kernel) (by decide) rfl (fun ls hl => ?_)
  refine lv_goto (tgt := 163) hx hb dX10_init_184 (by decide) ?_
  refine lv_iload_n hx hb dX10_init_163 rfl (lv_at hl 0 rfl) ?_
  refine lv_bipush (v := 15) hx hb dX10_init_164 (by decide) ?_
  refine lv_icmp_ge (tgt := 187) hx hb dX10_init_166 (by decide) (fun c9 => absurd c9 (by decide)) (fun c61 => ?_)
  refine lv_aload_n hx hb dX10_init_169 rfl (lv_at hl 1 rfl) ?_
  refine va_get (D := D) (ci := 11) (v := .ref qn7) (C := RX10) (T := TX10) (N := 39) hx hb hts inX10 hown hK hP 0 rfl rfl 13 (by decide) (hts (.fieldLink RX10 33 "EscrowDeskModel" "keywords" "[J") (by decide +kernel)) (fun _ h9 => h9) rfl dX10_init_170 ?_
  refine lv_iload_n hx hb dX10_init_173 rfl (lv_at hl 0 rfl) ?_
  refine va_ldcS hx hb hown (hC.str 24 rfl) dX10_init_174 ?_
  refine lv_iload_n hx hb dX10_init_176 rfl (lv_at hl 0 rfl) ?_
  have hPc := hP.sub (ws' := []) [] rfl
  have hDc := hD.sub (ws' := []) [] (by decide) rfl
  have hFc := va_free (wc := []) hD hS hA [] rfl
  refine va_calll (va_runS (As := [.ref (sa 24), .int 14]) (rest := [.int 14, .ref qn7]) ⟨hx, hb, hml, hown, hts⟩ (c_m_wordAt l D cA sa 24 14 ([114, 97, 116, 101, 32, 102, 101, 101, 32, 103, 114, 97, 99, 101, 32, 100, 101, 112, 111, 115, 105, 116, 32, 109, 105, 108, 101, 115, 116, 111, 110, 101, 32, 119, 104, 101, 110, 32, 111, 114, 32, 97, 110, 100, 32, 110, 111, 116, 32, 100, 97, 121, 32, 112, 114, 111, 111, 102, 32, 100, 111, 110, 101, 32, 115, 117, 109, 32, 97, 112, 112, 114, 111, 118, 101, 100, 32, 97, 108, 119, 97, 121, 115, 32]) H.size (by decide +kernel) (by decide +kernel)) (va_cwS 2 hts gX10_init_X10_wordAt rfl rfl rfl (by decide +kernel) ⟨(Nat.le_of_ble_eq_true rfl), (Nat.le_of_ble_eq_true rfl)⟩) ⟨Wd.blind, fun U hU hW => ⟨rfl, Wd.call hPc hDc hK hC hZ hS hFc U hU hW⟩⟩ rfl rfl hl.1 rfl (lv_room (Nat.le_of_ble_eq_true rfl)) dX10_init_177 ⟨(Nat.le_of_ble_eq_true rfl), (Nat.le_of_ble_eq_true rfl)⟩) hS (fun q _ h => hFc q h) hFc (fun rn62 u t H1 locs ht hvm hw hB hz1 hk1 hS => ?_)
  obtain ⟨hP1, hD1⟩ := hB
  rw [ht] at hP1
  obtain ⟨hP, hD⟩ := va_join (wr := [(w0, .inr (11, [.ref qn1, .ref qn2, .ref qn3, .ref qn4, .ref qn5, .long 0, .long 0, .int 0, .int 0, .ref qn6, .int 0, .int 0, .int (-1), .ref qn7, .int 0, .int 0, .int 0, .int 0, .int 0, .int 0, .int 0, .int 0, .int 0, .int 0, .int 0, .long 0, .int 0, .ref qn8, .ref qn9, .ref qn10, .ref qn11, .ref qn12, .ref qn13, .ref qn14, .ref qn15, .ref qn16, .ref qn17, .ref qn18, .int 0])), (qn1, .inl (cA 0, 326, .inl (fun _ => 0))), (qn2, .inl (cA 0, 326, .inl (fun _ => 0))), (qn3, .inl (cA 0, 326, .inl (fun _ => 0))), (qn4, .inl (cA 0, 3260, .inl (fun _ => 0))), (qn5, .inl (cA 1, 10, .inr (.inl (fun _ => 0)))), (qn6, .inl (cA 0, 700, .inl (fun _ => 0))), (qn7, .inl (cA 1, 15, .inr (.inl fn60))), (qn8, .inl (cA 1, 10, .inr (.inl (fun _ => 0)))), (qn9, .inl (cA 1, 10, .inr (.inl (fun _ => 0)))), (qn10, .inl (cA 1, 8, .inr (.inl (fun _ => 0)))), (qn11, .inl (cA 1, 8, .inr (.inl (fun _ => 0)))), (qn12, .inl (cA 0, 400, .inl (fun _ => 0))), (qn13, .inl (cA 0, 400, .inl (fun _ => 0))), (qn14, .inl (cA 0, 11, .inl (fun _ => 0))), (qn15, .inl (cA 0, 11, .inl (fun _ => 0))), (qn16, .inl (cA 4, 400, .inl (fun _ => 0))), (qn17, .inl (cA 0, 10, .inl (fun _ => 0))), (qn18, .inl (cA 0, 100, .inl (fun _ => 0)))]) (w1 := []) hP hD [] [0, 1, 2, 3, 4, 5, 6, 7, 8, 9, 10, 11, 12, 13, 14, 15, 16, 17, 18] rfl rfl (by decide) (by decide) hk1 hFc hP1 hD1
  generalize H1 = H at hP hS ⊢
  have hP : va_P D vwCl [(w0, .inr (11, [.ref qn1, .ref qn2, .ref qn3, .ref qn4, .ref qn5, .long 0, .long 0, .int 0, .int 0, .ref qn6, .int 0, .int 0, .int (-1), .ref qn7, .int 0, .int 0, .int 0, .int 0, .int 0, .int 0, .int 0, .int 0, .int 0, .int 0, .int 0, .long 0, .int 0, .ref qn8, .ref qn9, .ref qn10, .ref qn11, .ref qn12, .ref qn13, .ref qn14, .ref qn15, .ref qn16, .ref qn17, .ref qn18, .int 0])), (qn1, .inl (cA 0, 326, .inl (fun _ => 0))), (qn2, .inl (cA 0, 326, .inl (fun _ => 0))), (qn3, .inl (cA 0, 326, .inl (fun _ => 0))), (qn4, .inl (cA 0, 3260, .inl (fun _ => 0))), (qn5, .inl (cA 1, 10, .inr (.inl (fun _ => 0)))), (qn6, .inl (cA 0, 700, .inl (fun _ => 0))), (qn7, .inl (cA 1, 15, .inr (.inl fn60))), (qn8, .inl (cA 1, 10, .inr (.inl (fun _ => 0)))), (qn9, .inl (cA 1, 10, .inr (.inl (fun _ => 0)))), (qn10, .inl (cA 1, 8, .inr (.inl (fun _ => 0)))), (qn11, .inl (cA 1, 8, .inr (.inl (fun _ => 0)))), (qn12, .inl (cA 0, 400, .inl (fun _ => 0))), (qn13, .inl (cA 0, 400, .inl (fun _ => 0))), (qn14, .inl (cA 0, 11, .inl (fun _ => 0))), (qn15, .inl (cA 0, 11, .inl (fun _ => 0))), (qn16, .inl (cA 4, 400, .inl (fun _ => 0))), (qn17, .inl (cA 0, 10, .inl (fun _ => 0))), (qn18, .inl (cA 0, 100, .inl (fun _ => 0)))] H := hP
  have hD : va_D A [(w0, .inr (11, [.ref qn1, .ref qn2, .ref qn3, .ref qn4, .ref qn5, .long 0, .long 0, .int 0, .int 0, .ref qn6, .int 0, .int 0, .int (-1), .ref qn7, .int 0, .int 0, .int 0, .int 0, .int 0, .int 0, .int 0, .int 0, .int 0, .int 0, .int 0, .long 0, .int 0, .ref qn8, .ref qn9, .ref qn10, .ref qn11, .ref qn12, .ref qn13, .ref qn14, .ref qn15, .ref qn16, .ref qn17, .ref qn18, .int 0])), (qn1, .inl (cA 0, 326, .inl (fun _ => 0))), (qn2, .inl (cA 0, 326, .inl (fun _ => 0))), (qn3, .inl (cA 0, 326, .inl (fun _ => 0))), (qn4, .inl (cA 0, 3260, .inl (fun _ => 0))), (qn5, .inl (cA 1, 10, .inr (.inl (fun _ => 0)))), (qn6, .inl (cA 0, 700, .inl (fun _ => 0))), (qn7, .inl (cA 1, 15, .inr (.inl fn60))), (qn8, .inl (cA 1, 10, .inr (.inl (fun _ => 0)))), (qn9, .inl (cA 1, 10, .inr (.inl (fun _ => 0)))), (qn10, .inl (cA 1, 8, .inr (.inl (fun _ => 0)))), (qn11, .inl (cA 1, 8, .inr (.inl (fun _ => 0)))), (qn12, .inl (cA 0, 400, .inl (fun _ => 0))), (qn13, .inl (cA 0, 400, .inl (fun _ => 0))), (qn14, .inl (cA 0, 11, .inl (fun _ => 0))), (qn15, .inl (cA 0, 11, .inl (fun _ => 0))), (qn16, .inl (cA 4, 400, .inl (fun _ => 0))), (qn17, .inl (cA 0, 10, .inl (fun _ => 0))), (qn18, .inl (cA 0, 100, .inl (fun _ => 0)))] := hD
  refine va_last hx hb hK hP hD hS 7 1 rfl rfl (vp_in_iff.mpr (by decide)) dX10_init_180 (fun H locs hP hD hS => ?_)
  have hP : va_P D vwCl [(w0, .inr (11, [.ref qn1, .ref qn2, .ref qn3, .ref qn4, .ref qn5, .long 0, .long 0, .int 0, .int 0, .ref qn6, .int 0, .int 0, .int (-1), .ref qn7, .int 0, .int 0, .int 0, .int 0, .int 0, .int 0, .int 0, .int 0, .int 0, .int 0, .int 0, .long 0, .int 0, .ref qn8, .ref qn9, .ref qn10, .ref qn11, .ref qn12, .ref qn13, .ref qn14, .ref qn15, .ref qn16, .ref qn17, .ref qn18, .int 0])), (qn1, .inl (cA 0, 326, .inl (fun _ => 0))), (qn2, .inl (cA 0, 326, .inl (fun _ => 0))), (qn3, .inl (cA 0, 326, .inl (fun _ => 0))), (qn4, .inl (cA 0, 3260, .inl (fun _ => 0))), (qn5, .inl (cA 1, 10, .inr (.inl (fun _ => 0)))), (qn6, .inl (cA 0, 700, .inl (fun _ => 0))), (qn7, .inl (cA 1, 15, .inr (.inl (vp_updL fn60 14 rn62)))), (qn8, .inl (cA 1, 10, .inr (.inl (fun _ => 0)))), (qn9, .inl (cA 1, 10, .inr (.inl (fun _ => 0)))), (qn10, .inl (cA 1, 8, .inr (.inl (fun _ => 0)))), (qn11, .inl (cA 1, 8, .inr (.inl (fun _ => 0)))), (qn12, .inl (cA 0, 400, .inl (fun _ => 0))), (qn13, .inl (cA 0, 400, .inl (fun _ => 0))), (qn14, .inl (cA 0, 11, .inl (fun _ => 0))), (qn15, .inl (cA 0, 11, .inl (fun _ => 0))), (qn16, .inl (cA 4, 400, .inl (fun _ => 0))), (qn17, .inl (cA 0, 10, .inl (fun _ => 0))), (qn18, .inl (cA 0, 100, .inl (fun _ => 0)))] H := hP
  have hD : va_D A [(w0, .inr (11, [.ref qn1, .ref qn2, .ref qn3, .ref qn4, .ref qn5, .long 0, .long 0, .int 0, .int 0, .ref qn6, .int 0, .int 0, .int (-1), .ref qn7, .int 0, .int 0, .int 0, .int 0, .int 0, .int 0, .int 0, .int 0, .int 0, .int 0, .int 0, .long 0, .int 0, .ref qn8, .ref qn9, .ref qn10, .ref qn11, .ref qn12, .ref qn13, .ref qn14, .ref qn15, .ref qn16, .ref qn17, .ref qn18, .int 0])), (qn1, .inl (cA 0, 326, .inl (fun _ => 0))), (qn2, .inl (cA 0, 326, .inl (fun _ => 0))), (qn3, .inl (cA 0, 326, .inl (fun _ => 0))), (qn4, .inl (cA 0, 3260, .inl (fun _ => 0))), (qn5, .inl (cA 1, 10, .inr (.inl (fun _ => 0)))), (qn6, .inl (cA 0, 700, .inl (fun _ => 0))), (qn7, .inl (cA 1, 15, .inr (.inl (vp_updL fn60 14 rn62)))), (qn8, .inl (cA 1, 10, .inr (.inl (fun _ => 0)))), (qn9, .inl (cA 1, 10, .inr (.inl (fun _ => 0)))), (qn10, .inl (cA 1, 8, .inr (.inl (fun _ => 0)))), (qn11, .inl (cA 1, 8, .inr (.inl (fun _ => 0)))), (qn12, .inl (cA 0, 400, .inl (fun _ => 0))), (qn13, .inl (cA 0, 400, .inl (fun _ => 0))), (qn14, .inl (cA 0, 11, .inl (fun _ => 0))), (qn15, .inl (cA 0, 11, .inl (fun _ => 0))), (qn16, .inl (cA 4, 400, .inl (fun _ => 0))), (qn17, .inl (cA 0, 10, .inl (fun _ => 0))), (qn18, .inl (cA 0, 100, .inl (fun _ => 0)))] := hD
  generalize (vp_updL fn60 14 rn62) = fn63 at hP hD
  have hP : va_P D vwCl [(w0, .inr (11, [.ref qn1, .ref qn2, .ref qn3, .ref qn4, .ref qn5, .long 0, .long 0, .int 0, .int 0, .ref qn6, .int 0, .int 0, .int (-1), .ref qn7, .int 0, .int 0, .int 0, .int 0, .int 0, .int 0, .int 0, .int 0, .int 0, .int 0, .int 0, .long 0, .int 0, .ref qn8, .ref qn9, .ref qn10, .ref qn11, .ref qn12, .ref qn13, .ref qn14, .ref qn15, .ref qn16, .ref qn17, .ref qn18, .int 0])), (qn1, .inl (cA 0, 326, .inl (fun _ => 0))), (qn2, .inl (cA 0, 326, .inl (fun _ => 0))), (qn3, .inl (cA 0, 326, .inl (fun _ => 0))), (qn4, .inl (cA 0, 3260, .inl (fun _ => 0))), (qn5, .inl (cA 1, 10, .inr (.inl (fun _ => 0)))), (qn6, .inl (cA 0, 700, .inl (fun _ => 0))), (qn7, .inl (cA 1, 15, .inr (.inl fn63))), (qn8, .inl (cA 1, 10, .inr (.inl (fun _ => 0)))), (qn9, .inl (cA 1, 10, .inr (.inl (fun _ => 0)))), (qn10, .inl (cA 1, 8, .inr (.inl (fun _ => 0)))), (qn11, .inl (cA 1, 8, .inr (.inl (fun _ => 0)))), (qn12, .inl (cA 0, 400, .inl (fun _ => 0))), (qn13, .inl (cA 0, 400, .inl (fun _ => 0))), (qn14, .inl (cA 0, 11, .inl (fun _ => 0))), (qn15, .inl (cA 0, 11, .inl (fun _ => 0))), (qn16, .inl (cA 4, 400, .inl (fun _ => 0))), (qn17, .inl (cA 0, 10, .inl (fun _ => 0))), (qn18, .inl (cA 0, 100, .inl (fun _ => 0)))] H := hP
  have hD : va_D A [(w0, .inr (11, [.ref qn1, .ref qn2, .ref qn3, .ref qn4, .ref qn5, .long 0, .long 0, .int 0, .int 0, .ref qn6, .int 0, .int 0, .int (-1), .ref qn7, .int 0, .int 0, .int 0, .int 0, .int 0, .int 0, .int 0, .int 0, .int 0, .int 0, .int 0, .long 0, .int 0, .ref qn8, .ref qn9, .ref qn10, .ref qn11, .ref qn12, .ref qn13, .ref qn14, .ref qn15, .ref qn16, .ref qn17, .ref qn18, .int 0])), (qn1, .inl (cA 0, 326, .inl (fun _ => 0))), (qn2, .inl (cA 0, 326, .inl (fun _ => 0))), (qn3, .inl (cA 0, 326, .inl (fun _ => 0))), (qn4, .inl (cA 0, 3260, .inl (fun _ => 0))), (qn5, .inl (cA 1, 10, .inr (.inl (fun _ => 0)))), (qn6, .inl (cA 0, 700, .inl (fun _ => 0))), (qn7, .inl (cA 1, 15, .inr (.inl fn63))), (qn8, .inl (cA 1, 10, .inr (.inl (fun _ => 0)))), (qn9, .inl (cA 1, 10, .inr (.inl (fun _ => 0)))), (qn10, .inl (cA 1, 8, .inr (.inl (fun _ => 0)))), (qn11, .inl (cA 1, 8, .inr (.inl (fun _ => 0)))), (qn12, .inl (cA 0, 400, .inl (fun _ => 0))), (qn13, .inl (cA 0, 400, .inl (fun _ => 0))), (qn14, .inl (cA 0, 11, .inl (fun _ => 0))), (qn15, .inl (cA 0, 11, .inl (fun _ => 0))), (qn16, .inl (cA 4, 400, .inl (fun _ => 0))), (qn17, .inl (cA 0, 10, .inl (fun _ => 0))), (qn18, .inl (cA 0, 100, .inl (fun _ => 0)))] := hD
  refine lv_iinc (v := 15) (lv' := [(1, .int 15), (0, .ref w0)]) hx hb dX10_init_181 hl (k := 0) rfl (by first | rfl | decide +kernel) (by decide) rfl (fun ls hl => ?_)
  refine lv_goto (tgt := 163) hx hb dX10_init_184 (by decide) ?_
  refine lv_iload_n hx hb dX10_init_163 rfl (lv_at hl 0 rfl) ?_
  refine lv_bipush (v := 15) hx hb dX10_init_164 (by decide) ?_
  refine lv_icmp_ge (tgt := 187) hx hb dX10_init_166 (by decide) (fun c64 => ?_) (fun c9 => absurd c9 (by decide))
  refine lv_aload_n hx hb dX10_init_187 rfl (lv_at hl 1 rfl) ?_
  refine va_get (D := D) (ci := 11) (v := .ref qn1) (C := RX10) (T := TX10) (N := 39) hx hb hts inX10 hown hK hP 0 rfl rfl 0 (by decide) (hts (.fieldLink RX10 7 "EscrowDeskModel" "s" "[I") (by decide +kernel)) (fun _ h9 => h9) rfl dX10_init_188 ?_
  have hPc := hP.sub (ws' := [(qn1, .inl (cA 0, 326, .inl (fun _ => 0)))]) [1] rfl
  have hDc := hD.sub (ws' := [(qn1, .inl (cA 0, 326, .inl (fun _ => 0)))]) [1] (by decide) rfl
  have hFc := va_free (wc := [(qn1, .inl (cA 0, 326, .inl (fun _ => 0)))]) hD hS hA [1] rfl
  refine va_callv (va_runS (As := [.ref qn1]) (rest := []) ⟨hx, hb, hml, hown, hts⟩ (c_m_reset l D cA sa qn1 (fun _ => 0) H.size) (va_cwS 1 hts gX10_init_X10_reset rfl rfl rfl (by decide +kernel) ⟨(Nat.le_of_ble_eq_true rfl), (Nat.le_of_ble_eq_true rfl)⟩) ⟨Wd.blind, fun U hU hW => ⟨rfl, Wd.call hPc hDc hK hC hZ hS hFc U hU hW⟩⟩ rfl rfl hl.1 rfl (lv_room (Nat.le_of_ble_eq_true rfl)) dX10_init_191 ⟨(Nat.le_of_ble_eq_true rfl), (Nat.le_of_ble_eq_true rfl)⟩) hS (fun q _ h => hFc q h) hFc (fun u t H1 locs ht hvm hw hB hz1 hk1 hS => ?_)
  obtain ⟨fn65, hn66, hP1, hD1⟩ := hB
  rw [ht] at hP1
  obtain ⟨hP, hD⟩ := va_join (wr := [(w0, .inr (11, [.ref qn1, .ref qn2, .ref qn3, .ref qn4, .ref qn5, .long 0, .long 0, .int 0, .int 0, .ref qn6, .int 0, .int 0, .int (-1), .ref qn7, .int 0, .int 0, .int 0, .int 0, .int 0, .int 0, .int 0, .int 0, .int 0, .int 0, .int 0, .long 0, .int 0, .ref qn8, .ref qn9, .ref qn10, .ref qn11, .ref qn12, .ref qn13, .ref qn14, .ref qn15, .ref qn16, .ref qn17, .ref qn18, .int 0])), (qn2, .inl (cA 0, 326, .inl (fun _ => 0))), (qn3, .inl (cA 0, 326, .inl (fun _ => 0))), (qn4, .inl (cA 0, 3260, .inl (fun _ => 0))), (qn5, .inl (cA 1, 10, .inr (.inl (fun _ => 0)))), (qn6, .inl (cA 0, 700, .inl (fun _ => 0))), (qn7, .inl (cA 1, 15, .inr (.inl fn63))), (qn8, .inl (cA 1, 10, .inr (.inl (fun _ => 0)))), (qn9, .inl (cA 1, 10, .inr (.inl (fun _ => 0)))), (qn10, .inl (cA 1, 8, .inr (.inl (fun _ => 0)))), (qn11, .inl (cA 1, 8, .inr (.inl (fun _ => 0)))), (qn12, .inl (cA 0, 400, .inl (fun _ => 0))), (qn13, .inl (cA 0, 400, .inl (fun _ => 0))), (qn14, .inl (cA 0, 11, .inl (fun _ => 0))), (qn15, .inl (cA 0, 11, .inl (fun _ => 0))), (qn16, .inl (cA 4, 400, .inl (fun _ => 0))), (qn17, .inl (cA 0, 10, .inl (fun _ => 0))), (qn18, .inl (cA 0, 100, .inl (fun _ => 0)))]) (w1 := [(qn1, .inl (cA 0, 326, .inl fn65))]) hP hD [1] [0, 2, 3, 4, 5, 6, 7, 8, 9, 10, 11, 12, 13, 14, 15, 16, 17, 18] rfl rfl (by decide) (by decide) hk1 hFc hP1 hD1
  generalize H1 = H at hP hS ⊢
  have hP : va_P D vwCl [(w0, .inr (11, [.ref qn1, .ref qn2, .ref qn3, .ref qn4, .ref qn5, .long 0, .long 0, .int 0, .int 0, .ref qn6, .int 0, .int 0, .int (-1), .ref qn7, .int 0, .int 0, .int 0, .int 0, .int 0, .int 0, .int 0, .int 0, .int 0, .int 0, .int 0, .long 0, .int 0, .ref qn8, .ref qn9, .ref qn10, .ref qn11, .ref qn12, .ref qn13, .ref qn14, .ref qn15, .ref qn16, .ref qn17, .ref qn18, .int 0])), (qn2, .inl (cA 0, 326, .inl (fun _ => 0))), (qn3, .inl (cA 0, 326, .inl (fun _ => 0))), (qn4, .inl (cA 0, 3260, .inl (fun _ => 0))), (qn5, .inl (cA 1, 10, .inr (.inl (fun _ => 0)))), (qn6, .inl (cA 0, 700, .inl (fun _ => 0))), (qn7, .inl (cA 1, 15, .inr (.inl fn63))), (qn8, .inl (cA 1, 10, .inr (.inl (fun _ => 0)))), (qn9, .inl (cA 1, 10, .inr (.inl (fun _ => 0)))), (qn10, .inl (cA 1, 8, .inr (.inl (fun _ => 0)))), (qn11, .inl (cA 1, 8, .inr (.inl (fun _ => 0)))), (qn12, .inl (cA 0, 400, .inl (fun _ => 0))), (qn13, .inl (cA 0, 400, .inl (fun _ => 0))), (qn14, .inl (cA 0, 11, .inl (fun _ => 0))), (qn15, .inl (cA 0, 11, .inl (fun _ => 0))), (qn16, .inl (cA 4, 400, .inl (fun _ => 0))), (qn17, .inl (cA 0, 10, .inl (fun _ => 0))), (qn18, .inl (cA 0, 100, .inl (fun _ => 0))), (qn1, .inl (cA 0, 326, .inl fn65))] H := hP
  have hD : va_D A [(w0, .inr (11, [.ref qn1, .ref qn2, .ref qn3, .ref qn4, .ref qn5, .long 0, .long 0, .int 0, .int 0, .ref qn6, .int 0, .int 0, .int (-1), .ref qn7, .int 0, .int 0, .int 0, .int 0, .int 0, .int 0, .int 0, .int 0, .int 0, .int 0, .int 0, .long 0, .int 0, .ref qn8, .ref qn9, .ref qn10, .ref qn11, .ref qn12, .ref qn13, .ref qn14, .ref qn15, .ref qn16, .ref qn17, .ref qn18, .int 0])), (qn2, .inl (cA 0, 326, .inl (fun _ => 0))), (qn3, .inl (cA 0, 326, .inl (fun _ => 0))), (qn4, .inl (cA 0, 3260, .inl (fun _ => 0))), (qn5, .inl (cA 1, 10, .inr (.inl (fun _ => 0)))), (qn6, .inl (cA 0, 700, .inl (fun _ => 0))), (qn7, .inl (cA 1, 15, .inr (.inl fn63))), (qn8, .inl (cA 1, 10, .inr (.inl (fun _ => 0)))), (qn9, .inl (cA 1, 10, .inr (.inl (fun _ => 0)))), (qn10, .inl (cA 1, 8, .inr (.inl (fun _ => 0)))), (qn11, .inl (cA 1, 8, .inr (.inl (fun _ => 0)))), (qn12, .inl (cA 0, 400, .inl (fun _ => 0))), (qn13, .inl (cA 0, 400, .inl (fun _ => 0))), (qn14, .inl (cA 0, 11, .inl (fun _ => 0))), (qn15, .inl (cA 0, 11, .inl (fun _ => 0))), (qn16, .inl (cA 4, 400, .inl (fun _ => 0))), (qn17, .inl (cA 0, 10, .inl (fun _ => 0))), (qn18, .inl (cA 0, 100, .inl (fun _ => 0))), (qn1, .inl (cA 0, 326, .inl fn65))] := hD
  have hP9 := hP.sub (ws' := [(w0, .inr (11, [.ref qn1, .ref qn2, .ref qn3, .ref qn4, .ref qn5, .long 0, .long 0, .int 0, .int 0, .ref qn6, .int 0, .int 0, .int (-1), .ref qn7, .int 0, .int 0, .int 0, .int 0, .int 0, .int 0, .int 0, .int 0, .int 0, .int 0, .int 0, .long 0, .int 0, .ref qn8, .ref qn9, .ref qn10, .ref qn11, .ref qn12, .ref qn13, .ref qn14, .ref qn15, .ref qn16, .ref qn17, .ref qn18, .int 0])), (qn1, .inl (cA 0, 326, .inl fn65)), (qn2, .inl (cA 0, 326, .inl (fun _ => 0))), (qn3, .inl (cA 0, 326, .inl (fun _ => 0))), (qn4, .inl (cA 0, 3260, .inl (fun _ => 0))), (qn5, .inl (cA 1, 10, .inr (.inl (fun _ => 0)))), (qn6, .inl (cA 0, 700, .inl (fun _ => 0))), (qn7, .inl (cA 1, 15, .inr (.inl fn63))), (qn8, .inl (cA 1, 10, .inr (.inl (fun _ => 0)))), (qn9, .inl (cA 1, 10, .inr (.inl (fun _ => 0)))), (qn10, .inl (cA 1, 8, .inr (.inl (fun _ => 0)))), (qn11, .inl (cA 1, 8, .inr (.inl (fun _ => 0)))), (qn12, .inl (cA 0, 400, .inl (fun _ => 0))), (qn13, .inl (cA 0, 400, .inl (fun _ => 0))), (qn14, .inl (cA 0, 11, .inl (fun _ => 0))), (qn15, .inl (cA 0, 11, .inl (fun _ => 0))), (qn16, .inl (cA 4, 400, .inl (fun _ => 0))), (qn17, .inl (cA 0, 10, .inl (fun _ => 0))), (qn18, .inl (cA 0, 100, .inl (fun _ => 0)))]) [0, 18, 1, 2, 3, 4, 5, 6, 7, 8, 9, 10, 11, 12, 13, 14, 15, 16, 17] rfl
  have hD9 := hD.sub (ws' := [(w0, .inr (11, [.ref qn1, .ref qn2, .ref qn3, .ref qn4, .ref qn5, .long 0, .long 0, .int 0, .int 0, .ref qn6, .int 0, .int 0, .int (-1), .ref qn7, .int 0, .int 0, .int 0, .int 0, .int 0, .int 0, .int 0, .int 0, .int 0, .int 0, .int 0, .long 0, .int 0, .ref qn8, .ref qn9, .ref qn10, .ref qn11, .ref qn12, .ref qn13, .ref qn14, .ref qn15, .ref qn16, .ref qn17, .ref qn18, .int 0])), (qn1, .inl (cA 0, 326, .inl fn65)), (qn2, .inl (cA 0, 326, .inl (fun _ => 0))), (qn3, .inl (cA 0, 326, .inl (fun _ => 0))), (qn4, .inl (cA 0, 3260, .inl (fun _ => 0))), (qn5, .inl (cA 1, 10, .inr (.inl (fun _ => 0)))), (qn6, .inl (cA 0, 700, .inl (fun _ => 0))), (qn7, .inl (cA 1, 15, .inr (.inl fn63))), (qn8, .inl (cA 1, 10, .inr (.inl (fun _ => 0)))), (qn9, .inl (cA 1, 10, .inr (.inl (fun _ => 0)))), (qn10, .inl (cA 1, 8, .inr (.inl (fun _ => 0)))), (qn11, .inl (cA 1, 8, .inr (.inl (fun _ => 0)))), (qn12, .inl (cA 0, 400, .inl (fun _ => 0))), (qn13, .inl (cA 0, 400, .inl (fun _ => 0))), (qn14, .inl (cA 0, 11, .inl (fun _ => 0))), (qn15, .inl (cA 0, 11, .inl (fun _ => 0))), (qn16, .inl (cA 4, 400, .inl (fun _ => 0))), (qn17, .inl (cA 0, 10, .inl (fun _ => 0))), (qn18, .inl (cA 0, 100, .inl (fun _ => 0)))]) [0, 18, 1, 2, 3, 4, 5, 6, 7, 8, 9, 10, 11, 12, 13, 14, 15, 16, 17] (by decide) rfl
  refine W.widen (k := 18) (n := 6331) (Nat.le_of_ble_eq_true rfl) (Nat.le_of_ble_eq_true rfl) ?_
  exact W.vret hx hb hr (fun t ht hW => ⟨⟨(), rfl, trivial, qn1, qn2, qn3, qn4, qn5, qn6, qn7, qn8, qn9, qn10, qn11, qn12, qn13, qn14, qn15, qn16, qn17, qn18, fn63, fn65, hn66, by rw [ht]; exact hP9, hD9⟩, hS.F ht⟩) hS.2.2 dX10_init_194

