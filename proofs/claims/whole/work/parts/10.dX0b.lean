theorem dX0_fieldOf_3 : decode cX0_fieldOf 3 = .ok (.invokevirtual 36, 3) := by decide +kernel
theorem dX0_fieldOf_6 : decode cX0_fieldOf 6 = .ok (.ifCond .eq 17, 3) := by decide +kernel
theorem dX0_fieldOf_9 : decode cX0_fieldOf 9 = .ok (.aload_n 0, 1) := by decide +kernel
theorem dX0_fieldOf_10 : decode cX0_fieldOf 10 = .ok (.getfield 15, 3) := by decide +kernel
theorem dX0_fieldOf_13 : decode cX0_fieldOf 13 = .ok (.iload_n 1, 1) := by decide +kernel
theorem dX0_fieldOf_14 : decode cX0_fieldOf 14 = .ok (.bipush 20, 2) := by decide +kernel
theorem dX0_fieldOf_16 : decode cX0_fieldOf 16 = .ok (.imul, 1) := by decide +kernel
theorem dX0_fieldOf_17 : decode cX0_fieldOf 17 = .ok (.iload_n 2, 1) := by decide +kernel
theorem dX0_fieldOf_18 : decode cX0_fieldOf 18 = .ok (.iadd, 1) := by decide +kernel
theorem dX0_fieldOf_19 : decode cX0_fieldOf 19 = .ok (.iaload, 1) := by decide +kernel
theorem dX0_fieldOf_20 : decode cX0_fieldOf 20 = .ok (.goto 4, 3) := by decide +kernel
theorem dX0_fieldOf_23 : decode cX0_fieldOf 23 = .ok (.iconst (-1), 1) := by decide +kernel
theorem dX0_fieldOf_24 : decode cX0_fieldOf 24 = .ok (.ireturn, 1) := by decide +kernel
theorem dX0_hasRoot_0 : decode cX0_hasRoot 0 = .ok (.iload_n 1, 1) := by decide +kernel
theorem dX0_hasRoot_1 : decode cX0_hasRoot 1 = .ok (.ifCond .lt 13, 3) := by decide +kernel
theorem dX0_hasRoot_4 : decode cX0_hasRoot 4 = .ok (.iload_n 1, 1) := by decide +kernel
theorem dX0_hasRoot_5 : decode cX0_hasRoot 5 = .ok (.bipush 16, 2) := by decide +kernel
theorem dX0_hasRoot_7 : decode cX0_hasRoot 7 = .ok (.if_icmp .ge 7, 3) := by decide +kernel
theorem dX0_hasRoot_10 : decode cX0_hasRoot 10 = .ok (.iconst 1, 1) := by decide +kernel
theorem dX0_hasRoot_11 : decode cX0_hasRoot 11 = .ok (.goto 4, 3) := by decide +kernel
theorem dX0_hasRoot_14 : decode cX0_hasRoot 14 = .ok (.iconst 0, 1) := by decide +kernel
theorem dX0_hasRoot_15 : decode cX0_hasRoot 15 = .ok (.ireturn, 1) := by decide +kernel
theorem dX0_putRoot_0 : decode cX0_putRoot 0 = .ok (.aload_n 0, 1) := by decide +kernel
theorem dX0_putRoot_1 : decode cX0_putRoot 1 = .ok (.iload_n 1, 1) := by decide +kernel
theorem dX0_putRoot_2 : decode cX0_putRoot 2 = .ok (.invokevirtual 47, 3) := by decide +kernel
theorem dX0_putRoot_5 : decode cX0_putRoot 5 = .ok (.istore_n 3, 1) := by decide +kernel
theorem dX0_putRoot_6 : decode cX0_putRoot 6 = .ok (.aload_n 0, 1) := by decide +kernel
theorem dX0_putRoot_7 : decode cX0_putRoot 7 = .ok (.iload_n 1, 1) := by decide +kernel
theorem dX0_putRoot_8 : decode cX0_putRoot 8 = .ok (.invokevirtual 44, 3) := by decide +kernel
theorem dX0_putRoot_11 : decode cX0_putRoot 11 = .ok (.ifCond .eq 10, 3) := by decide +kernel
theorem dX0_putRoot_14 : decode cX0_putRoot 14 = .ok (.aload_n 0, 1) := by decide +kernel
theorem dX0_putRoot_15 : decode cX0_putRoot 15 = .ok (.getfield 18, 3) := by decide +kernel
theorem dX0_putRoot_18 : decode cX0_putRoot 18 = .ok (.iload_n 1, 1) := by decide +kernel
theorem dX0_putRoot_19 : decode cX0_putRoot 19 = .ok (.iload_n 2, 1) := by decide +kernel
theorem dX0_putRoot_20 : decode cX0_putRoot 20 = .ok (.iastore, 1) := by decide +kernel
theorem dX0_putRoot_21 : decode cX0_putRoot 21 = .ok (.iload_n 3, 1) := by decide +kernel
theorem dX0_putRoot_22 : decode cX0_putRoot 22 = .ok (.ireturn, 1) := by decide +kernel
theorem dX0_rootAt_0 : decode cX0_rootAt 0 = .ok (.aload_n 0, 1) := by decide +kernel
theorem dX0_rootAt_1 : decode cX0_rootAt 1 = .ok (.iload_n 1, 1) := by decide +kernel
theorem dX0_rootAt_2 : decode cX0_rootAt 2 = .ok (.invokevirtual 44, 3) := by decide +kernel
theorem dX0_rootAt_5 : decode cX0_rootAt 5 = .ok (.ifCond .eq 12, 3) := by decide +kernel
theorem dX0_rootAt_8 : decode cX0_rootAt 8 = .ok (.aload_n 0, 1) := by decide +kernel
theorem dX0_rootAt_9 : decode cX0_rootAt 9 = .ok (.getfield 18, 3) := by decide +kernel
theorem dX0_rootAt_12 : decode cX0_rootAt 12 = .ok (.iload_n 1, 1) := by decide +kernel
theorem dX0_rootAt_13 : decode cX0_rootAt 13 = .ok (.iaload, 1) := by decide +kernel
theorem dX0_rootAt_14 : decode cX0_rootAt 14 = .ok (.goto 4, 3) := by decide +kernel
theorem dX0_rootAt_17 : decode cX0_rootAt 17 = .ok (.iconst (-1), 1) := by decide +kernel
theorem dX0_rootAt_18 : decode cX0_rootAt 18 = .ok (.ireturn, 1) := by decide +kernel
theorem dX0_fieldCountOf_0 : decode cX0_fieldCountOf 0 = .ok (.aload_n 0, 1) := by decide +kernel
theorem dX0_fieldCountOf_1 : decode cX0_fieldCountOf 1 = .ok (.iload_n 1, 1) := by decide +kernel
theorem dX0_fieldCountOf_2 : decode cX0_fieldCountOf 2 = .ok (.invokevirtual 28, 3) := by decide +kernel
theorem dX0_fieldCountOf_5 : decode cX0_fieldCountOf 5 = .ok (.ifCond .eq 12, 3) := by decide +kernel
theorem dX0_fieldCountOf_8 : decode cX0_fieldCountOf 8 = .ok (.aload_n 0, 1) := by decide +kernel
theorem dX0_fieldCountOf_9 : decode cX0_fieldCountOf 9 = .ok (.getfield 9, 3) := by decide +kernel
theorem dX0_fieldCountOf_12 : decode cX0_fieldCountOf 12 = .ok (.iload_n 1, 1) := by decide +kernel
theorem dX0_fieldCountOf_13 : decode cX0_fieldCountOf 13 = .ok (.iaload, 1) := by decide +kernel
theorem dX0_fieldCountOf_14 : decode cX0_fieldCountOf 14 = .ok (.goto 4, 3) := by decide +kernel
theorem dX0_fieldCountOf_17 : decode cX0_fieldCountOf 17 = .ok (.iconst 0, 1) := by decide +kernel
theorem dX0_fieldCountOf_18 : decode cX0_fieldCountOf 18 = .ok (.ireturn, 1) := by decide +kernel
theorem dX0_countOfObjects_0 : decode cX0_countOfObjects 0 = .ok (.aload_n 0, 1) := by decide +kernel
theorem dX0_countOfObjects_1 : decode cX0_countOfObjects 1 = .ok (.getfield 21, 3) := by decide +kernel
theorem dX0_countOfObjects_4 : decode cX0_countOfObjects 4 = .ok (.ireturn, 1) := by decide +kernel
theorem dX0_countOfFields_0 : decode cX0_countOfFields 0 = .ok (.aload_n 0, 1) := by decide +kernel
theorem dX0_countOfFields_1 : decode cX0_countOfFields 1 = .ok (.getfield 25, 3) := by decide +kernel
theorem dX0_countOfFields_4 : decode cX0_countOfFields 4 = .ok (.ireturn, 1) := by decide +kernel
