theorem dX3_marked_49 : decode cX3_marked 49 = .ok (.iload_n 1, 1) := by decide +kernel
theorem dX3_marked_50 : decode cX3_marked 50 = .ok (.invokevirtual 144, 3) := by decide +kernel
theorem dX3_marked_53 : decode cX3_marked 53 = .ok (.ireturn, 1) := by decide +kernel
theorem dX3_latestCycleStillHolds_0 : decode cX3_latestCycleStillHolds 0 = .ok (.aload_n 0, 1) := by decide +kernel
theorem dX3_latestCycleStillHolds_1 : decode cX3_latestCycleStillHolds 1 = .ok (.getfield 32, 3) := by decide +kernel
theorem dX3_latestCycleStillHolds_4 : decode cX3_latestCycleStillHolds 4 = .ok (.ifCond .ne 21, 3) := by decide +kernel
theorem dX3_latestCycleStillHolds_7 : decode cX3_latestCycleStillHolds 7 = .ok (.aload_n 0, 1) := by decide +kernel
theorem dX3_latestCycleStillHolds_8 : decode cX3_latestCycleStillHolds 8 = .ok (.getfield 42, 3) := by decide +kernel
theorem dX3_latestCycleStillHolds_11 : decode cX3_latestCycleStillHolds 11 = .ok (.ifCond .le 14, 3) := by decide +kernel
theorem dX3_latestCycleStillHolds_14 : decode cX3_latestCycleStillHolds 14 = .ok (.aload_n 0, 1) := by decide +kernel
theorem dX3_latestCycleStillHolds_15 : decode cX3_latestCycleStillHolds 15 = .ok (.getfield 36, 3) := by decide +kernel
theorem dX3_latestCycleStillHolds_18 : decode cX3_latestCycleStillHolds 18 = .ok (.ifCond .ne 7, 3) := by decide +kernel
theorem dX3_latestCycleStillHolds_21 : decode cX3_latestCycleStillHolds 21 = .ok (.iconst 1, 1) := by decide +kernel
theorem dX3_latestCycleStillHolds_22 : decode cX3_latestCycleStillHolds 22 = .ok (.goto 4, 3) := by decide +kernel
theorem dX3_latestCycleStillHolds_25 : decode cX3_latestCycleStillHolds 25 = .ok (.iconst 0, 1) := by decide +kernel
theorem dX3_latestCycleStillHolds_26 : decode cX3_latestCycleStillHolds 26 = .ok (.ireturn, 1) := by decide +kernel
theorem dX3_lost_0 : decode cX3_lost 0 = .ok (.aload_n 0, 1) := by decide +kernel
theorem dX3_lost_1 : decode cX3_lost 1 = .ok (.invokevirtual 139, 3) := by decide +kernel
theorem dX3_lost_4 : decode cX3_lost 4 = .ok (.ifCond .ne 13, 3) := by decide +kernel
theorem dX3_lost_7 : decode cX3_lost 7 = .ok (.new 60, 3) := by decide +kernel
theorem dX3_lost_10 : decode cX3_lost 10 = .ok (.dup, 1) := by decide +kernel
theorem dX3_lost_11 : decode cX3_lost 11 = .ok (.ldc 147, 2) := by decide +kernel
theorem dX3_lost_13 : decode cX3_lost 13 = .ok (.invokespecial 64, 3) := by decide +kernel
theorem dX3_lost_16 : decode cX3_lost 16 = .ok (.athrow, 1) := by decide +kernel
theorem dX3_lost_17 : decode cX3_lost 17 = .ok (.aload_n 0, 1) := by decide +kernel
theorem dX3_lost_18 : decode cX3_lost 18 = .ok (.getfield 28, 3) := by decide +kernel
theorem dX3_lost_21 : decode cX3_lost 21 = .ok (.invokevirtual 149, 3) := by decide +kernel
theorem dX3_lost_24 : decode cX3_lost 24 = .ok (.iconst 0, 1) := by decide +kernel
theorem dX3_lost_25 : decode cX3_lost 25 = .ok (.istore_n 1, 1) := by decide +kernel
theorem dX3_lost_26 : decode cX3_lost 26 = .ok (.iconst 0, 1) := by decide +kernel
theorem dX3_lost_27 : decode cX3_lost 27 = .ok (.istore_n 2, 1) := by decide +kernel
theorem dX3_lost_28 : decode cX3_lost 28 = .ok (.iload_n 2, 1) := by decide +kernel
theorem dX3_lost_29 : decode cX3_lost 29 = .ok (.sipush 400, 3) := by decide +kernel
theorem dX3_lost_32 : decode cX3_lost 32 = .ok (.if_icmp .ge 34, 3) := by decide +kernel
theorem dX3_lost_35 : decode cX3_lost 35 = .ok (.aload_n 0, 1) := by decide +kernel
theorem dX3_lost_36 : decode cX3_lost 36 = .ok (.getfield 28, 3) := by decide +kernel
theorem dX3_lost_39 : decode cX3_lost 39 = .ok (.iload_n 2, 1) := by decide +kernel
theorem dX3_lost_40 : decode cX3_lost 40 = .ok (.invokevirtual 152, 3) := by decide +kernel
theorem dX3_lost_43 : decode cX3_lost 43 = .ok (.ifCond .eq 17, 3) := by decide +kernel
theorem dX3_lost_46 : decode cX3_lost 46 = .ok (.aload_n 0, 1) := by decide +kernel
theorem dX3_lost_47 : decode cX3_lost 47 = .ok (.getfield 21, 3) := by decide +kernel
theorem dX3_lost_50 : decode cX3_lost 50 = .ok (.iload_n 2, 1) := by decide +kernel
theorem dX3_lost_51 : decode cX3_lost 51 = .ok (.invokevirtual 144, 3) := by decide +kernel
theorem dX3_lost_54 : decode cX3_lost 54 = .ok (.ifCond .ne 6, 3) := by decide +kernel
theorem dX3_lost_57 : decode cX3_lost 57 = .ok (.iinc 1 1, 3) := by decide +kernel
theorem dX3_lost_60 : decode cX3_lost 60 = .ok (.iinc 2 1, 3) := by decide +kernel
theorem dX3_lost_63 : decode cX3_lost 63 = .ok (.goto (-35), 3) := by decide +kernel
theorem dX3_lost_66 : decode cX3_lost 66 = .ok (.iload_n 1, 1) := by decide +kernel
theorem dX3_lost_67 : decode cX3_lost 67 = .ok (.ireturn, 1) := by decide +kernel
theorem dX3_count_0 : decode cX3_count 0 = .ok (.iload_n 1, 1) := by decide +kernel
theorem dX3_count_1 : decode cX3_count 1 = .ok (.tableswitch 93 0 5 #[39, 47, 55, 70, 75, 80], 39) := by decide +kernel
theorem dX3_count_40 : decode cX3_count 40 = .ok (.aload_n 0, 1) := by decide +kernel
theorem dX3_count_41 : decode cX3_count 41 = .ok (.getfield 10, 3) := by decide +kernel
theorem dX3_count_44 : decode cX3_count 44 = .ok (.invokevirtual 155, 3) := by decide +kernel
theorem dX3_count_47 : decode cX3_count 47 = .ok (.ireturn, 1) := by decide +kernel
theorem dX3_count_48 : decode cX3_count 48 = .ok (.aload_n 0, 1) := by decide +kernel
theorem dX3_count_49 : decode cX3_count 49 = .ok (.getfield 10, 3) := by decide +kernel
theorem dX3_count_52 : decode cX3_count 52 = .ok (.invokevirtual 158, 3) := by decide +kernel
theorem dX3_count_55 : decode cX3_count 55 = .ok (.ireturn, 1) := by decide +kernel
theorem dX3_count_56 : decode cX3_count 56 = .ok (.aload_n 0, 1) := by decide +kernel
theorem dX3_count_57 : decode cX3_count 57 = .ok (.getfield 28, 3) := by decide +kernel
theorem dX3_count_60 : decode cX3_count 60 = .ok (.invokevirtual 149, 3) := by decide +kernel
theorem dX3_count_63 : decode cX3_count 63 = .ok (.aload_n 0, 1) := by decide +kernel
theorem dX3_count_64 : decode cX3_count 64 = .ok (.getfield 28, 3) := by decide +kernel
theorem dX3_count_67 : decode cX3_count 67 = .ok (.invokevirtual 161, 3) := by decide +kernel
theorem dX3_count_70 : decode cX3_count 70 = .ok (.ireturn, 1) := by decide +kernel
theorem dX3_count_71 : decode cX3_count 71 = .ok (.aload_n 0, 1) := by decide +kernel
theorem dX3_count_72 : decode cX3_count 72 = .ok (.getfield 42, 3) := by decide +kernel
theorem dX3_count_75 : decode cX3_count 75 = .ok (.ireturn, 1) := by decide +kernel
theorem dX3_count_76 : decode cX3_count 76 = .ok (.aload_n 0, 1) := by decide +kernel
theorem dX3_count_77 : decode cX3_count 77 = .ok (.getfield 46, 3) := by decide +kernel
theorem dX3_count_80 : decode cX3_count 80 = .ok (.ireturn, 1) := by decide +kernel
theorem dX3_count_81 : decode cX3_count 81 = .ok (.aload_n 0, 1) := by decide +kernel
theorem dX3_count_82 : decode cX3_count 82 = .ok (.getfield 32, 3) := by decide +kernel
theorem dX3_count_85 : decode cX3_count 85 = .ok (.ifCond .eq 7, 3) := by decide +kernel
theorem dX3_count_88 : decode cX3_count 88 = .ok (.iconst 1, 1) := by decide +kernel
theorem dX3_count_89 : decode cX3_count 89 = .ok (.goto 4, 3) := by decide +kernel
theorem dX3_count_92 : decode cX3_count 92 = .ok (.iconst 0, 1) := by decide +kernel
theorem dX3_count_93 : decode cX3_count 93 = .ok (.ireturn, 1) := by decide +kernel
theorem dX3_count_94 : decode cX3_count 94 = .ok (.new 49, 3) := by decide +kernel
theorem dX3_count_97 : decode cX3_count 97 = .ok (.dup, 1) := by decide +kernel
theorem dX3_count_98 : decode cX3_count 98 = .ok (.ldc 164, 2) := by decide +kernel
theorem dX3_count_100 : decode cX3_count 100 = .ok (.invokespecial 53, 3) := by decide +kernel
theorem dX3_count_103 : decode cX3_count 103 = .ok (.athrow, 1) := by decide +kernel
