theorem dX3_pile_2 : decode cX3_pile 2 = .ok (.if_icmp .lt 9, 3) := by decide +kernel
theorem dX3_pile_5 : decode cX3_pile 5 = .ok (.iload_n 1, 1) := by decide +kernel
theorem dX3_pile_6 : decode cX3_pile 6 = .ok (.bipush 64, 2) := by decide +kernel
theorem dX3_pile_8 : decode cX3_pile 8 = .ok (.if_icmp .le 13, 3) := by decide +kernel
theorem dX3_pile_11 : decode cX3_pile 11 = .ok (.new 49, 3) := by decide +kernel
theorem dX3_pile_14 : decode cX3_pile 14 = .ok (.dup, 1) := by decide +kernel
theorem dX3_pile_15 : decode cX3_pile 15 = .ok (.ldc 106, 2) := by decide +kernel
theorem dX3_pile_17 : decode cX3_pile 17 = .ok (.invokespecial 53, 3) := by decide +kernel
theorem dX3_pile_20 : decode cX3_pile 20 = .ok (.athrow, 1) := by decide +kernel
theorem dX3_pile_21 : decode cX3_pile 21 = .ok (.aload_n 0, 1) := by decide +kernel
theorem dX3_pile_22 : decode cX3_pile 22 = .ok (.getfield 32, 3) := by decide +kernel
theorem dX3_pile_25 : decode cX3_pile 25 = .ok (.ifCond .eq 13, 3) := by decide +kernel
theorem dX3_pile_28 : decode cX3_pile 28 = .ok (.new 60, 3) := by decide +kernel
theorem dX3_pile_31 : decode cX3_pile 31 = .ok (.dup, 1) := by decide +kernel
theorem dX3_pile_32 : decode cX3_pile 32 = .ok (.ldc 108, 2) := by decide +kernel
theorem dX3_pile_34 : decode cX3_pile 34 = .ok (.invokespecial 64, 3) := by decide +kernel
theorem dX3_pile_37 : decode cX3_pile 37 = .ok (.athrow, 1) := by decide +kernel
theorem dX3_pile_38 : decode cX3_pile 38 = .ok (.aload_n 0, 1) := by decide +kernel
theorem dX3_pile_39 : decode cX3_pile 39 = .ok (.getfield 21, 3) := by decide +kernel
theorem dX3_pile_42 : decode cX3_pile 42 = .ok (.iload_n 1, 1) := by decide +kernel
theorem dX3_pile_43 : decode cX3_pile 43 = .ok (.invokevirtual 110, 3) := by decide +kernel
theorem dX3_pile_46 : decode cX3_pile 46 = .ok (.ireturn, 1) := by decide +kernel
theorem dX3_begin_0 : decode cX3_begin 0 = .ok (.aload_n 0, 1) := by decide +kernel
theorem dX3_begin_1 : decode cX3_begin 1 = .ok (.getfield 32, 3) := by decide +kernel
theorem dX3_begin_4 : decode cX3_begin 4 = .ok (.ifCond .eq 13, 3) := by decide +kernel
theorem dX3_begin_7 : decode cX3_begin 7 = .ok (.new 60, 3) := by decide +kernel
theorem dX3_begin_10 : decode cX3_begin 10 = .ok (.dup, 1) := by decide +kernel
theorem dX3_begin_11 : decode cX3_begin 11 = .ok (.ldc 108, 2) := by decide +kernel
theorem dX3_begin_13 : decode cX3_begin 13 = .ok (.invokespecial 64, 3) := by decide +kernel
theorem dX3_begin_16 : decode cX3_begin 16 = .ok (.athrow, 1) := by decide +kernel
theorem dX3_begin_17 : decode cX3_begin 17 = .ok (.aload_n 0, 1) := by decide +kernel
theorem dX3_begin_18 : decode cX3_begin 18 = .ok (.getfield 21, 3) := by decide +kernel
theorem dX3_begin_21 : decode cX3_begin 21 = .ok (.invokevirtual 113, 3) := by decide +kernel
theorem dX3_begin_24 : decode cX3_begin 24 = .ok (.aload_n 0, 1) := by decide +kernel
theorem dX3_begin_25 : decode cX3_begin 25 = .ok (.iconst 1, 1) := by decide +kernel
theorem dX3_begin_26 : decode cX3_begin 26 = .ok (.putfield 32, 3) := by decide +kernel
theorem dX3_begin_29 : decode cX3_begin 29 = .ok (.aload_n 0, 1) := by decide +kernel
theorem dX3_begin_30 : decode cX3_begin 30 = .ok (.iconst 0, 1) := by decide +kernel
theorem dX3_begin_31 : decode cX3_begin 31 = .ok (.putfield 36, 3) := by decide +kernel
theorem dX3_begin_34 : decode cX3_begin 34 = .ok (.return_, 1) := by decide +kernel
theorem dX3_mark_0 : decode cX3_mark 0 = .ok (.iload_n 1, 1) := by decide +kernel
theorem dX3_mark_1 : decode cX3_mark 1 = .ok (.invokestatic 116, 3) := by decide +kernel
theorem dX3_mark_4 : decode cX3_mark 4 = .ok (.ifCond .ne 13, 3) := by decide +kernel
theorem dX3_mark_7 : decode cX3_mark 7 = .ok (.new 49, 3) := by decide +kernel
theorem dX3_mark_10 : decode cX3_mark 10 = .ok (.dup, 1) := by decide +kernel
theorem dX3_mark_11 : decode cX3_mark 11 = .ok (.ldc 119, 2) := by decide +kernel
theorem dX3_mark_13 : decode cX3_mark 13 = .ok (.invokespecial 53, 3) := by decide +kernel
theorem dX3_mark_16 : decode cX3_mark 16 = .ok (.athrow, 1) := by decide +kernel
theorem dX3_mark_17 : decode cX3_mark 17 = .ok (.aload_n 0, 1) := by decide +kernel
theorem dX3_mark_18 : decode cX3_mark 18 = .ok (.getfield 32, 3) := by decide +kernel
theorem dX3_mark_21 : decode cX3_mark 21 = .ok (.ifCond .eq 11, 3) := by decide +kernel
theorem dX3_mark_24 : decode cX3_mark 24 = .ok (.aload_n 0, 1) := by decide +kernel
theorem dX3_mark_25 : decode cX3_mark 25 = .ok (.getfield 21, 3) := by decide +kernel
theorem dX3_mark_28 : decode cX3_mark 28 = .ok (.iload_n 1, 1) := by decide +kernel
theorem dX3_mark_29 : decode cX3_mark 29 = .ok (.invokevirtual 121, 3) := by decide +kernel
theorem dX3_mark_32 : decode cX3_mark 32 = .ok (.return_, 1) := by decide +kernel
theorem dX3_isStepCount_0 : decode cX3_isStepCount 0 = .ok (.iload_n 0, 1) := by decide +kernel
theorem dX3_isStepCount_1 : decode cX3_isStepCount 1 = .ok (.ifCond .lt 14, 3) := by decide +kernel
theorem dX3_isStepCount_4 : decode cX3_isStepCount 4 = .ok (.iload_n 0, 1) := by decide +kernel
theorem dX3_isStepCount_5 : decode cX3_isStepCount 5 = .ok (.sipush 5000, 3) := by decide +kernel
theorem dX3_isStepCount_8 : decode cX3_isStepCount 8 = .ok (.if_icmp .gt 7, 3) := by decide +kernel
theorem dX3_isStepCount_11 : decode cX3_isStepCount 11 = .ok (.iconst 1, 1) := by decide +kernel
theorem dX3_isStepCount_12 : decode cX3_isStepCount 12 = .ok (.goto 4, 3) := by decide +kernel
theorem dX3_isStepCount_15 : decode cX3_isStepCount 15 = .ok (.iconst 0, 1) := by decide +kernel
theorem dX3_isStepCount_16 : decode cX3_isStepCount 16 = .ok (.ireturn, 1) := by decide +kernel
theorem dX3_preclean_0 : decode cX3_preclean 0 = .ok (.iload_n 1, 1) := by decide +kernel
theorem dX3_preclean_1 : decode cX3_preclean 1 = .ok (.invokestatic 116, 3) := by decide +kernel
theorem dX3_preclean_4 : decode cX3_preclean 4 = .ok (.ifCond .ne 13, 3) := by decide +kernel
theorem dX3_preclean_7 : decode cX3_preclean 7 = .ok (.new 49, 3) := by decide +kernel
theorem dX3_preclean_10 : decode cX3_preclean 10 = .ok (.dup, 1) := by decide +kernel
theorem dX3_preclean_11 : decode cX3_preclean 11 = .ok (.ldc 119, 2) := by decide +kernel
theorem dX3_preclean_13 : decode cX3_preclean 13 = .ok (.invokespecial 53, 3) := by decide +kernel
theorem dX3_preclean_16 : decode cX3_preclean 16 = .ok (.athrow, 1) := by decide +kernel
theorem dX3_preclean_17 : decode cX3_preclean 17 = .ok (.aload_n 0, 1) := by decide +kernel
theorem dX3_preclean_18 : decode cX3_preclean 18 = .ok (.getfield 32, 3) := by decide +kernel
theorem dX3_preclean_21 : decode cX3_preclean 21 = .ok (.ifCond .eq 11, 3) := by decide +kernel
theorem dX3_preclean_24 : decode cX3_preclean 24 = .ok (.aload_n 0, 1) := by decide +kernel
theorem dX3_preclean_25 : decode cX3_preclean 25 = .ok (.getfield 21, 3) := by decide +kernel
theorem dX3_preclean_28 : decode cX3_preclean 28 = .ok (.iload_n 1, 1) := by decide +kernel
theorem dX3_preclean_29 : decode cX3_preclean 29 = .ok (.invokevirtual 124, 3) := by decide +kernel
theorem dX3_preclean_32 : decode cX3_preclean 32 = .ok (.return_, 1) := by decide +kernel
theorem dX3_finish_0 : decode cX3_finish 0 = .ok (.aload_n 0, 1) := by decide +kernel
theorem dX3_finish_1 : decode cX3_finish 1 = .ok (.getfield 32, 3) := by decide +kernel
theorem dX3_finish_4 : decode cX3_finish 4 = .ok (.ifCond .ne 13, 3) := by decide +kernel
theorem dX3_finish_7 : decode cX3_finish 7 = .ok (.new 60, 3) := by decide +kernel
theorem dX3_finish_10 : decode cX3_finish 10 = .ok (.dup, 1) := by decide +kernel
theorem dX3_finish_11 : decode cX3_finish 11 = .ok (.ldc 127, 2) := by decide +kernel
theorem dX3_finish_13 : decode cX3_finish 13 = .ok (.invokespecial 64, 3) := by decide +kernel
theorem dX3_finish_16 : decode cX3_finish 16 = .ok (.athrow, 1) := by decide +kernel
theorem dX3_finish_17 : decode cX3_finish 17 = .ok (.aload_n 0, 1) := by decide +kernel
theorem dX3_finish_18 : decode cX3_finish 18 = .ok (.getfield 21, 3) := by decide +kernel
theorem dX3_finish_21 : decode cX3_finish 21 = .ok (.invokevirtual 129, 3) := by decide +kernel
theorem dX3_finish_24 : decode cX3_finish 24 = .ok (.aload_n 0, 1) := by decide +kernel
theorem dX3_finish_25 : decode cX3_finish 25 = .ok (.iconst 0, 1) := by decide +kernel
theorem dX3_finish_26 : decode cX3_finish 26 = .ok (.putfield 32, 3) := by decide +kernel
theorem dX3_finish_29 : decode cX3_finish 29 = .ok (.aload_n 0, 1) := by decide +kernel
theorem dX3_finish_30 : decode cX3_finish 30 = .ok (.dup, 1) := by decide +kernel
theorem dX3_finish_31 : decode cX3_finish 31 = .ok (.getfield 42, 3) := by decide +kernel
theorem dX3_finish_34 : decode cX3_finish 34 = .ok (.iconst 1, 1) := by decide +kernel
theorem dX3_finish_35 : decode cX3_finish 35 = .ok (.iadd, 1) := by decide +kernel
theorem dX3_finish_36 : decode cX3_finish 36 = .ok (.putfield 42, 3) := by decide +kernel
theorem dX3_finish_39 : decode cX3_finish 39 = .ok (.aload_n 0, 1) := by decide +kernel
theorem dX3_finish_40 : decode cX3_finish 40 = .ok (.aload_n 0, 1) := by decide +kernel
theorem dX3_finish_41 : decode cX3_finish 41 = .ok (.getfield 36, 3) := by decide +kernel
theorem dX3_finish_44 : decode cX3_finish 44 = .ok (.ifCond .ne 7, 3) := by decide +kernel
theorem dX3_finish_47 : decode cX3_finish 47 = .ok (.iconst 1, 1) := by decide +kernel
theorem dX3_finish_48 : decode cX3_finish 48 = .ok (.goto 4, 3) := by decide +kernel
theorem dX3_finish_51 : decode cX3_finish 51 = .ok (.iconst 0, 1) := by decide +kernel
theorem dX3_finish_52 : decode cX3_finish 52 = .ok (.putfield 39, 3) := by decide +kernel
theorem dX3_finish_55 : decode cX3_finish 55 = .ok (.aload_n 0, 1) := by decide +kernel
theorem dX3_finish_56 : decode cX3_finish 56 = .ok (.iconst 0, 1) := by decide +kernel
theorem dX3_finish_57 : decode cX3_finish 57 = .ok (.putfield 36, 3) := by decide +kernel
theorem dX3_finish_60 : decode cX3_finish 60 = .ok (.aload_n 0, 1) := by decide +kernel
theorem dX3_finish_61 : decode cX3_finish 61 = .ok (.getfield 39, 3) := by decide +kernel
theorem dX3_finish_64 : decode cX3_finish 64 = .ok (.ifCond .ne 5, 3) := by decide +kernel
theorem dX3_finish_67 : decode cX3_finish 67 = .ok (.iconst (-1), 1) := by decide +kernel
theorem dX3_finish_68 : decode cX3_finish 68 = .ok (.ireturn, 1) := by decide +kernel
theorem dX3_finish_69 : decode cX3_finish 69 = .ok (.aload_n 0, 1) := by decide +kernel
theorem dX3_finish_70 : decode cX3_finish 70 = .ok (.dup, 1) := by decide +kernel
theorem dX3_finish_71 : decode cX3_finish 71 = .ok (.getfield 46, 3) := by decide +kernel
theorem dX3_finish_74 : decode cX3_finish 74 = .ok (.iconst 1, 1) := by decide +kernel
theorem dX3_finish_75 : decode cX3_finish 75 = .ok (.iadd, 1) := by decide +kernel
theorem dX3_finish_76 : decode cX3_finish 76 = .ok (.putfield 46, 3) := by decide +kernel
theorem dX3_finish_79 : decode cX3_finish 79 = .ok (.aload_n 0, 1) := by decide +kernel
theorem dX3_finish_80 : decode cX3_finish 80 = .ok (.getfield 21, 3) := by decide +kernel
theorem dX3_finish_83 : decode cX3_finish 83 = .ok (.invokevirtual 132, 3) := by decide +kernel
theorem dX3_finish_86 : decode cX3_finish 86 = .ok (.ireturn, 1) := by decide +kernel
theorem dX3_marked_0 : decode cX3_marked 0 = .ok (.aload_n 0, 1) := by decide +kernel
theorem dX3_marked_1 : decode cX3_marked 1 = .ok (.getfield 10, 3) := by decide +kernel
theorem dX3_marked_4 : decode cX3_marked 4 = .ok (.iload_n 1, 1) := by decide +kernel
theorem dX3_marked_5 : decode cX3_marked 5 = .ok (.invokevirtual 136, 3) := by decide +kernel
theorem dX3_marked_8 : decode cX3_marked 8 = .ok (.ifCond .ne 13, 3) := by decide +kernel
theorem dX3_marked_11 : decode cX3_marked 11 = .ok (.new 73, 3) := by decide +kernel
theorem dX3_marked_14 : decode cX3_marked 14 = .ok (.dup, 1) := by decide +kernel
theorem dX3_marked_15 : decode cX3_marked 15 = .ok (.ldc 101, 2) := by decide +kernel
theorem dX3_marked_17 : decode cX3_marked 17 = .ok (.invokespecial 77, 3) := by decide +kernel
theorem dX3_marked_20 : decode cX3_marked 20 = .ok (.athrow, 1) := by decide +kernel
theorem dX3_marked_21 : decode cX3_marked 21 = .ok (.aload_n 0, 1) := by decide +kernel
theorem dX3_marked_22 : decode cX3_marked 22 = .ok (.invokevirtual 139, 3) := by decide +kernel
theorem dX3_marked_25 : decode cX3_marked 25 = .ok (.ifCond .eq 10, 3) := by decide +kernel
theorem dX3_marked_28 : decode cX3_marked 28 = .ok (.aload_n 0, 1) := by decide +kernel
theorem dX3_marked_29 : decode cX3_marked 29 = .ok (.getfield 39, 3) := by decide +kernel
theorem dX3_marked_32 : decode cX3_marked 32 = .ok (.ifCond .ne 13, 3) := by decide +kernel
theorem dX3_marked_35 : decode cX3_marked 35 = .ok (.new 60, 3) := by decide +kernel
theorem dX3_marked_38 : decode cX3_marked 38 = .ok (.dup, 1) := by decide +kernel
theorem dX3_marked_39 : decode cX3_marked 39 = .ok (.ldc 142, 2) := by decide +kernel
theorem dX3_marked_41 : decode cX3_marked 41 = .ok (.invokespecial 64, 3) := by decide +kernel
theorem dX3_marked_44 : decode cX3_marked 44 = .ok (.athrow, 1) := by decide +kernel
theorem dX3_marked_45 : decode cX3_marked 45 = .ok (.aload_n 0, 1) := by decide +kernel
theorem dX3_marked_46 : decode cX3_marked 46 = .ok (.getfield 21, 3) := by decide +kernel
