theorem dX1_init_0 : decode cX1_init 0 = .ok (.aload_n 0, 1) := by decide +kernel
theorem dX1_init_1 : decode cX1_init 1 = .ok (.invokespecial 3, 3) := by decide +kernel
theorem dX1_init_4 : decode cX1_init 4 = .ok (.aload_n 0, 1) := by decide +kernel
theorem dX1_init_5 : decode cX1_init 5 = .ok (.aload_n 1, 1) := by decide +kernel
theorem dX1_init_6 : decode cX1_init 6 = .ok (.putfield 9, 3) := by decide +kernel
theorem dX1_init_9 : decode cX1_init 9 = .ok (.aload_n 0, 1) := by decide +kernel
theorem dX1_init_10 : decode cX1_init 10 = .ok (.sipush 400, 3) := by decide +kernel
theorem dX1_init_13 : decode cX1_init 13 = .ok (.newarray .boolean, 2) := by decide +kernel
theorem dX1_init_15 : decode cX1_init 15 = .ok (.putfield 15, 3) := by decide +kernel
theorem dX1_init_18 : decode cX1_init 18 = .ok (.aload_n 0, 1) := by decide +kernel
theorem dX1_init_19 : decode cX1_init 19 = .ok (.sipush 400, 3) := by decide +kernel
theorem dX1_init_22 : decode cX1_init 22 = .ok (.newarray .boolean, 2) := by decide +kernel
theorem dX1_init_24 : decode cX1_init 24 = .ok (.putfield 19, 3) := by decide +kernel
theorem dX1_init_27 : decode cX1_init 27 = .ok (.aload_n 0, 1) := by decide +kernel
theorem dX1_init_28 : decode cX1_init 28 = .ok (.bipush 64, 2) := by decide +kernel
theorem dX1_init_30 : decode cX1_init 30 = .ok (.newarray .int, 2) := by decide +kernel
theorem dX1_init_32 : decode cX1_init 32 = .ok (.putfield 22, 3) := by decide +kernel
theorem dX1_init_35 : decode cX1_init 35 = .ok (.aload_n 0, 1) := by decide +kernel
theorem dX1_init_36 : decode cX1_init 36 = .ok (.bipush 8, 2) := by decide +kernel
theorem dX1_init_38 : decode cX1_init 38 = .ok (.putfield 26, 3) := by decide +kernel
theorem dX1_init_41 : decode cX1_init 41 = .ok (.aload_n 0, 1) := by decide +kernel
theorem dX1_init_42 : decode cX1_init 42 = .ok (.iconst 0, 1) := by decide +kernel
theorem dX1_init_43 : decode cX1_init 43 = .ok (.putfield 30, 3) := by decide +kernel
theorem dX1_init_46 : decode cX1_init 46 = .ok (.aload_n 0, 1) := by decide +kernel
theorem dX1_init_47 : decode cX1_init 47 = .ok (.iconst 0, 1) := by decide +kernel
theorem dX1_init_48 : decode cX1_init 48 = .ok (.putfield 33, 3) := by decide +kernel
theorem dX1_init_51 : decode cX1_init 51 = .ok (.aload_n 0, 1) := by decide +kernel
theorem dX1_init_52 : decode cX1_init 52 = .ok (.sipush 400, 3) := by decide +kernel
theorem dX1_init_55 : decode cX1_init 55 = .ok (.putfield 36, 3) := by decide +kernel
theorem dX1_init_58 : decode cX1_init 58 = .ok (.aload_n 0, 1) := by decide +kernel
theorem dX1_init_59 : decode cX1_init 59 = .ok (.sipush 400, 3) := by decide +kernel
theorem dX1_init_62 : decode cX1_init 62 = .ok (.putfield 39, 3) := by decide +kernel
theorem dX1_init_65 : decode cX1_init 65 = .ok (.return_, 1) := by decide +kernel
theorem dX1_noteChange_0 : decode cX1_noteChange 0 = .ok (.aload_n 0, 1) := by decide +kernel
theorem dX1_noteChange_1 : decode cX1_noteChange 1 = .ok (.getfield 9, 3) := by decide +kernel
theorem dX1_noteChange_4 : decode cX1_noteChange 4 = .ok (.iload_n 1, 1) := by decide +kernel
theorem dX1_noteChange_5 : decode cX1_noteChange 5 = .ok (.invokevirtual 42, 3) := by decide +kernel
theorem dX1_noteChange_8 : decode cX1_noteChange 8 = .ok (.ifCond .eq 23, 3) := by decide +kernel
theorem dX1_noteChange_11 : decode cX1_noteChange 11 = .ok (.aload_n 0, 1) := by decide +kernel
theorem dX1_noteChange_12 : decode cX1_noteChange 12 = .ok (.getfield 19, 3) := by decide +kernel
theorem dX1_noteChange_15 : decode cX1_noteChange 15 = .ok (.iload_n 1, 1) := by decide +kernel
theorem dX1_noteChange_16 : decode cX1_noteChange 16 = .ok (.iconst 1, 1) := by decide +kernel
theorem dX1_noteChange_17 : decode cX1_noteChange 17 = .ok (.bastore, 1) := by decide +kernel
theorem dX1_noteChange_18 : decode cX1_noteChange 18 = .ok (.iload_n 1, 1) := by decide +kernel
theorem dX1_noteChange_19 : decode cX1_noteChange 19 = .ok (.aload_n 0, 1) := by decide +kernel
theorem dX1_noteChange_20 : decode cX1_noteChange 20 = .ok (.getfield 39, 3) := by decide +kernel
theorem dX1_noteChange_23 : decode cX1_noteChange 23 = .ok (.if_icmp .ge 8, 3) := by decide +kernel
theorem dX1_noteChange_26 : decode cX1_noteChange 26 = .ok (.aload_n 0, 1) := by decide +kernel
theorem dX1_noteChange_27 : decode cX1_noteChange 27 = .ok (.iload_n 1, 1) := by decide +kernel
theorem dX1_noteChange_28 : decode cX1_noteChange 28 = .ok (.putfield 39, 3) := by decide +kernel
theorem dX1_noteChange_31 : decode cX1_noteChange 31 = .ok (.return_, 1) := by decide +kernel
theorem dX1_changeLimit_0 : decode cX1_changeLimit 0 = .ok (.aload_n 0, 1) := by decide +kernel
theorem dX1_changeLimit_1 : decode cX1_changeLimit 1 = .ok (.getfield 26, 3) := by decide +kernel
theorem dX1_changeLimit_4 : decode cX1_changeLimit 4 = .ok (.istore_n 2, 1) := by decide +kernel
theorem dX1_changeLimit_5 : decode cX1_changeLimit 5 = .ok (.aload_n 0, 1) := by decide +kernel
theorem dX1_changeLimit_6 : decode cX1_changeLimit 6 = .ok (.iload_n 1, 1) := by decide +kernel
theorem dX1_changeLimit_7 : decode cX1_changeLimit 7 = .ok (.putfield 26, 3) := by decide +kernel
theorem dX1_changeLimit_10 : decode cX1_changeLimit 10 = .ok (.iload_n 2, 1) := by decide +kernel
theorem dX1_changeLimit_11 : decode cX1_changeLimit 11 = .ok (.ireturn, 1) := by decide +kernel
theorem dX1_forgetAll_0 : decode cX1_forgetAll 0 = .ok (.iconst 0, 1) := by decide +kernel
theorem dX1_forgetAll_1 : decode cX1_forgetAll 1 = .ok (.istore_n 1, 1) := by decide +kernel
theorem dX1_forgetAll_2 : decode cX1_forgetAll 2 = .ok (.iload_n 1, 1) := by decide +kernel
theorem dX1_forgetAll_3 : decode cX1_forgetAll 3 = .ok (.sipush 400, 3) := by decide +kernel
theorem dX1_forgetAll_6 : decode cX1_forgetAll 6 = .ok (.if_icmp .ge 23, 3) := by decide +kernel
theorem dX1_forgetAll_9 : decode cX1_forgetAll 9 = .ok (.aload_n 0, 1) := by decide +kernel
theorem dX1_forgetAll_10 : decode cX1_forgetAll 10 = .ok (.getfield 15, 3) := by decide +kernel
theorem dX1_forgetAll_13 : decode cX1_forgetAll 13 = .ok (.iload_n 1, 1) := by decide +kernel
theorem dX1_forgetAll_14 : decode cX1_forgetAll 14 = .ok (.iconst 0, 1) := by decide +kernel
theorem dX1_forgetAll_15 : decode cX1_forgetAll 15 = .ok (.bastore, 1) := by decide +kernel
theorem dX1_forgetAll_16 : decode cX1_forgetAll 16 = .ok (.aload_n 0, 1) := by decide +kernel
theorem dX1_forgetAll_17 : decode cX1_forgetAll 17 = .ok (.getfield 19, 3) := by decide +kernel
theorem dX1_forgetAll_20 : decode cX1_forgetAll 20 = .ok (.iload_n 1, 1) := by decide +kernel
theorem dX1_forgetAll_21 : decode cX1_forgetAll 21 = .ok (.iconst 0, 1) := by decide +kernel
theorem dX1_forgetAll_22 : decode cX1_forgetAll 22 = .ok (.bastore, 1) := by decide +kernel
theorem dX1_forgetAll_23 : decode cX1_forgetAll 23 = .ok (.iinc 1 1, 3) := by decide +kernel
theorem dX1_forgetAll_26 : decode cX1_forgetAll 26 = .ok (.goto (-24), 3) := by decide +kernel
theorem dX1_forgetAll_29 : decode cX1_forgetAll 29 = .ok (.aload_n 0, 1) := by decide +kernel
theorem dX1_forgetAll_30 : decode cX1_forgetAll 30 = .ok (.iconst 0, 1) := by decide +kernel
theorem dX1_forgetAll_31 : decode cX1_forgetAll 31 = .ok (.putfield 30, 3) := by decide +kernel
theorem dX1_forgetAll_34 : decode cX1_forgetAll 34 = .ok (.aload_n 0, 1) := by decide +kernel
theorem dX1_forgetAll_35 : decode cX1_forgetAll 35 = .ok (.iconst 0, 1) := by decide +kernel
theorem dX1_forgetAll_36 : decode cX1_forgetAll 36 = .ok (.putfield 33, 3) := by decide +kernel
theorem dX1_forgetAll_39 : decode cX1_forgetAll 39 = .ok (.aload_n 0, 1) := by decide +kernel
theorem dX1_forgetAll_40 : decode cX1_forgetAll 40 = .ok (.sipush 400, 3) := by decide +kernel
theorem dX1_forgetAll_43 : decode cX1_forgetAll 43 = .ok (.putfield 36, 3) := by decide +kernel
theorem dX1_forgetAll_46 : decode cX1_forgetAll 46 = .ok (.aload_n 0, 1) := by decide +kernel
theorem dX1_forgetAll_47 : decode cX1_forgetAll 47 = .ok (.sipush 400, 3) := by decide +kernel
theorem dX1_forgetAll_50 : decode cX1_forgetAll 50 = .ok (.putfield 39, 3) := by decide +kernel
theorem dX1_forgetAll_53 : decode cX1_forgetAll 53 = .ok (.return_, 1) := by decide +kernel
theorem dX1_doMarkSteps_0 : decode cX1_doMarkSteps 0 = .ok (.iconst 1, 1) := by decide +kernel
theorem dX1_doMarkSteps_1 : decode cX1_doMarkSteps 1 = .ok (.istore_n 2, 1) := by decide +kernel
theorem dX1_doMarkSteps_2 : decode cX1_doMarkSteps 2 = .ok (.iconst 0, 1) := by decide +kernel
theorem dX1_doMarkSteps_3 : decode cX1_doMarkSteps 3 = .ok (.istore_n 3, 1) := by decide +kernel
theorem dX1_doMarkSteps_4 : decode cX1_doMarkSteps 4 = .ok (.iload_n 3, 1) := by decide +kernel
theorem dX1_doMarkSteps_5 : decode cX1_doMarkSteps 5 = .ok (.iload_n 1, 1) := by decide +kernel
theorem dX1_doMarkSteps_6 : decode cX1_doMarkSteps 6 = .ok (.if_icmp .ge 18, 3) := by decide +kernel
theorem dX1_doMarkSteps_9 : decode cX1_doMarkSteps 9 = .ok (.iload_n 2, 1) := by decide +kernel
theorem dX1_doMarkSteps_10 : decode cX1_doMarkSteps 10 = .ok (.ifCond .eq 14, 3) := by decide +kernel
theorem dX1_doMarkSteps_13 : decode cX1_doMarkSteps 13 = .ok (.aload_n 0, 1) := by decide +kernel
theorem dX1_doMarkSteps_14 : decode cX1_doMarkSteps 14 = .ok (.invokevirtual 48, 3) := by decide +kernel
theorem dX1_doMarkSteps_17 : decode cX1_doMarkSteps 17 = .ok (.istore_n 2, 1) := by decide +kernel
theorem dX1_doMarkSteps_18 : decode cX1_doMarkSteps 18 = .ok (.iinc 3 1, 3) := by decide +kernel
theorem dX1_doMarkSteps_21 : decode cX1_doMarkSteps 21 = .ok (.goto (-17), 3) := by decide +kernel
theorem dX1_doMarkSteps_24 : decode cX1_doMarkSteps 24 = .ok (.return_, 1) := by decide +kernel
theorem dX1_markStep_0 : decode cX1_markStep 0 = .ok (.aload_n 0, 1) := by decide +kernel
theorem dX1_markStep_1 : decode cX1_markStep 1 = .ok (.getfield 33, 3) := by decide +kernel
theorem dX1_markStep_4 : decode cX1_markStep 4 = .ok (.bipush 16, 2) := by decide +kernel
theorem dX1_markStep_6 : decode cX1_markStep 6 = .ok (.if_icmp .ge 30, 3) := by decide +kernel
theorem dX1_markStep_9 : decode cX1_markStep 9 = .ok (.aload_n 0, 1) := by decide +kernel
theorem dX1_markStep_10 : decode cX1_markStep 10 = .ok (.aload_n 0, 1) := by decide +kernel
theorem dX1_markStep_11 : decode cX1_markStep 11 = .ok (.getfield 9, 3) := by decide +kernel
theorem dX1_markStep_14 : decode cX1_markStep 14 = .ok (.aload_n 0, 1) := by decide +kernel
theorem dX1_markStep_15 : decode cX1_markStep 15 = .ok (.getfield 33, 3) := by decide +kernel
theorem dX1_markStep_18 : decode cX1_markStep 18 = .ok (.invokevirtual 56, 3) := by decide +kernel
theorem dX1_markStep_21 : decode cX1_markStep 21 = .ok (.invokevirtual 60, 3) := by decide +kernel
theorem dX1_markStep_24 : decode cX1_markStep 24 = .ok (.aload_n 0, 1) := by decide +kernel
theorem dX1_markStep_25 : decode cX1_markStep 25 = .ok (.dup, 1) := by decide +kernel
theorem dX1_markStep_26 : decode cX1_markStep 26 = .ok (.getfield 33, 3) := by decide +kernel
theorem dX1_markStep_29 : decode cX1_markStep 29 = .ok (.iconst 1, 1) := by decide +kernel
theorem dX1_markStep_30 : decode cX1_markStep 30 = .ok (.iadd, 1) := by decide +kernel
theorem dX1_markStep_31 : decode cX1_markStep 31 = .ok (.putfield 33, 3) := by decide +kernel
theorem dX1_markStep_34 : decode cX1_markStep 34 = .ok (.iconst 1, 1) := by decide +kernel
theorem dX1_markStep_35 : decode cX1_markStep 35 = .ok (.ireturn, 1) := by decide +kernel
theorem dX1_markStep_36 : decode cX1_markStep 36 = .ok (.aload_n 0, 1) := by decide +kernel
theorem dX1_markStep_37 : decode cX1_markStep 37 = .ok (.getfield 30, 3) := by decide +kernel
theorem dX1_markStep_40 : decode cX1_markStep 40 = .ok (.ifCond .le 37, 3) := by decide +kernel
theorem dX1_markStep_43 : decode cX1_markStep 43 = .ok (.aload_n 0, 1) := by decide +kernel
theorem dX1_markStep_44 : decode cX1_markStep 44 = .ok (.getfield 30, 3) := by decide +kernel
theorem dX1_markStep_47 : decode cX1_markStep 47 = .ok (.bipush 64, 2) := by decide +kernel
theorem dX1_markStep_49 : decode cX1_markStep 49 = .ok (.if_icmp .gt 28, 3) := by decide +kernel
theorem dX1_markStep_52 : decode cX1_markStep 52 = .ok (.aload_n 0, 1) := by decide +kernel
theorem dX1_markStep_53 : decode cX1_markStep 53 = .ok (.dup, 1) := by decide +kernel
theorem dX1_markStep_54 : decode cX1_markStep 54 = .ok (.getfield 30, 3) := by decide +kernel
theorem dX1_markStep_57 : decode cX1_markStep 57 = .ok (.iconst 1, 1) := by decide +kernel
theorem dX1_markStep_58 : decode cX1_markStep 58 = .ok (.isub, 1) := by decide +kernel
theorem dX1_markStep_59 : decode cX1_markStep 59 = .ok (.putfield 30, 3) := by decide +kernel
theorem dX1_markStep_62 : decode cX1_markStep 62 = .ok (.aload_n 0, 1) := by decide +kernel
theorem dX1_markStep_63 : decode cX1_markStep 63 = .ok (.aload_n 0, 1) := by decide +kernel
theorem dX1_markStep_64 : decode cX1_markStep 64 = .ok (.getfield 22, 3) := by decide +kernel
theorem dX1_markStep_67 : decode cX1_markStep 67 = .ok (.aload_n 0, 1) := by decide +kernel
theorem dX1_markStep_68 : decode cX1_markStep 68 = .ok (.getfield 30, 3) := by decide +kernel
theorem dX1_markStep_71 : decode cX1_markStep 71 = .ok (.iaload, 1) := by decide +kernel
theorem dX1_markStep_72 : decode cX1_markStep 72 = .ok (.invokevirtual 64, 3) := by decide +kernel
theorem dX1_markStep_75 : decode cX1_markStep 75 = .ok (.iconst 1, 1) := by decide +kernel
theorem dX1_markStep_76 : decode cX1_markStep 76 = .ok (.ireturn, 1) := by decide +kernel
theorem dX1_markStep_77 : decode cX1_markStep 77 = .ok (.aload_n 0, 1) := by decide +kernel
theorem dX1_markStep_78 : decode cX1_markStep 78 = .ok (.getfield 36, 3) := by decide +kernel
theorem dX1_markStep_81 : decode cX1_markStep 81 = .ok (.aload_n 0, 1) := by decide +kernel
theorem dX1_markStep_82 : decode cX1_markStep 82 = .ok (.getfield 9, 3) := by decide +kernel
theorem dX1_markStep_85 : decode cX1_markStep 85 = .ok (.invokevirtual 67, 3) := by decide +kernel
