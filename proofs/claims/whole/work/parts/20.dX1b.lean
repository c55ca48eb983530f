theorem dX1_markStep_88 : decode cX1_markStep 88 = .ok (.if_icmp .ge 33, 3) := by decide +kernel
theorem dX1_markStep_91 : decode cX1_markStep 91 = .ok (.aload_n 0, 1) := by decide +kernel
theorem dX1_markStep_92 : decode cX1_markStep 92 = .ok (.getfield 36, 3) := by decide +kernel
theorem dX1_markStep_95 : decode cX1_markStep 95 = .ok (.istore_n 1, 1) := by decide +kernel
theorem dX1_markStep_96 : decode cX1_markStep 96 = .ok (.aload_n 0, 1) := by decide +kernel
theorem dX1_markStep_97 : decode cX1_markStep 97 = .ok (.dup, 1) := by decide +kernel
theorem dX1_markStep_98 : decode cX1_markStep 98 = .ok (.getfield 36, 3) := by decide +kernel
theorem dX1_markStep_101 : decode cX1_markStep 101 = .ok (.iconst 1, 1) := by decide +kernel
theorem dX1_markStep_102 : decode cX1_markStep 102 = .ok (.iadd, 1) := by decide +kernel
theorem dX1_markStep_103 : decode cX1_markStep 103 = .ok (.putfield 36, 3) := by decide +kernel
theorem dX1_markStep_106 : decode cX1_markStep 106 = .ok (.aload_n 0, 1) := by decide +kernel
theorem dX1_markStep_107 : decode cX1_markStep 107 = .ok (.iload_n 1, 1) := by decide +kernel
theorem dX1_markStep_108 : decode cX1_markStep 108 = .ok (.invokevirtual 71, 3) := by decide +kernel
theorem dX1_markStep_111 : decode cX1_markStep 111 = .ok (.ifCond .eq 8, 3) := by decide +kernel
theorem dX1_markStep_114 : decode cX1_markStep 114 = .ok (.aload_n 0, 1) := by decide +kernel
theorem dX1_markStep_115 : decode cX1_markStep 115 = .ok (.iload_n 1, 1) := by decide +kernel
theorem dX1_markStep_116 : decode cX1_markStep 116 = .ok (.invokevirtual 64, 3) := by decide +kernel
theorem dX1_markStep_119 : decode cX1_markStep 119 = .ok (.iconst 1, 1) := by decide +kernel
theorem dX1_markStep_120 : decode cX1_markStep 120 = .ok (.ireturn, 1) := by decide +kernel
theorem dX1_markStep_121 : decode cX1_markStep 121 = .ok (.iconst 0, 1) := by decide +kernel
theorem dX1_markStep_122 : decode cX1_markStep 122 = .ok (.ireturn, 1) := by decide +kernel
theorem dX1_putMark_0 : decode cX1_putMark 0 = .ok (.aload_n 0, 1) := by decide +kernel
theorem dX1_putMark_1 : decode cX1_putMark 1 = .ok (.getfield 9, 3) := by decide +kernel
theorem dX1_putMark_4 : decode cX1_putMark 4 = .ok (.iload_n 1, 1) := by decide +kernel
theorem dX1_putMark_5 : decode cX1_putMark 5 = .ok (.invokevirtual 42, 3) := by decide +kernel
theorem dX1_putMark_8 : decode cX1_putMark 8 = .ok (.ifCond .eq 24, 3) := by decide +kernel
theorem dX1_putMark_11 : decode cX1_putMark 11 = .ok (.aload_n 0, 1) := by decide +kernel
theorem dX1_putMark_12 : decode cX1_putMark 12 = .ok (.getfield 15, 3) := by decide +kernel
theorem dX1_putMark_15 : decode cX1_putMark 15 = .ok (.iload_n 1, 1) := by decide +kernel
theorem dX1_putMark_16 : decode cX1_putMark 16 = .ok (.baload, 1) := by decide +kernel
theorem dX1_putMark_17 : decode cX1_putMark 17 = .ok (.ifCond .ne 15, 3) := by decide +kernel
theorem dX1_putMark_20 : decode cX1_putMark 20 = .ok (.aload_n 0, 1) := by decide +kernel
theorem dX1_putMark_21 : decode cX1_putMark 21 = .ok (.getfield 15, 3) := by decide +kernel
theorem dX1_putMark_24 : decode cX1_putMark 24 = .ok (.iload_n 1, 1) := by decide +kernel
theorem dX1_putMark_25 : decode cX1_putMark 25 = .ok (.iconst 1, 1) := by decide +kernel
theorem dX1_putMark_26 : decode cX1_putMark 26 = .ok (.bastore, 1) := by decide +kernel
theorem dX1_putMark_27 : decode cX1_putMark 27 = .ok (.aload_n 0, 1) := by decide +kernel
theorem dX1_putMark_28 : decode cX1_putMark 28 = .ok (.iload_n 1, 1) := by decide +kernel
theorem dX1_putMark_29 : decode cX1_putMark 29 = .ok (.invokevirtual 81, 3) := by decide +kernel
theorem dX1_putMark_32 : decode cX1_putMark 32 = .ok (.return_, 1) := by decide +kernel
theorem dX1_keepOrForget_0 : decode cX1_keepOrForget 0 = .ok (.aload_n 0, 1) := by decide +kernel
theorem dX1_keepOrForget_1 : decode cX1_keepOrForget 1 = .ok (.getfield 30, 3) := by decide +kernel
theorem dX1_keepOrForget_4 : decode cX1_keepOrForget 4 = .ok (.ifCond .lt 46, 3) := by decide +kernel
theorem dX1_keepOrForget_7 : decode cX1_keepOrForget 7 = .ok (.aload_n 0, 1) := by decide +kernel
theorem dX1_keepOrForget_8 : decode cX1_keepOrForget 8 = .ok (.getfield 30, 3) := by decide +kernel
theorem dX1_keepOrForget_11 : decode cX1_keepOrForget 11 = .ok (.aload_n 0, 1) := by decide +kernel
theorem dX1_keepOrForget_12 : decode cX1_keepOrForget 12 = .ok (.getfield 26, 3) := by decide +kernel
theorem dX1_keepOrForget_15 : decode cX1_keepOrForget 15 = .ok (.if_icmp .ge 35, 3) := by decide +kernel
theorem dX1_keepOrForget_18 : decode cX1_keepOrForget 18 = .ok (.aload_n 0, 1) := by decide +kernel
theorem dX1_keepOrForget_19 : decode cX1_keepOrForget 19 = .ok (.getfield 30, 3) := by decide +kernel
theorem dX1_keepOrForget_22 : decode cX1_keepOrForget 22 = .ok (.bipush 64, 2) := by decide +kernel
theorem dX1_keepOrForget_24 : decode cX1_keepOrForget 24 = .ok (.if_icmp .ge 26, 3) := by decide +kernel
theorem dX1_keepOrForget_27 : decode cX1_keepOrForget 27 = .ok (.aload_n 0, 1) := by decide +kernel
theorem dX1_keepOrForget_28 : decode cX1_keepOrForget 28 = .ok (.getfield 22, 3) := by decide +kernel
theorem dX1_keepOrForget_31 : decode cX1_keepOrForget 31 = .ok (.aload_n 0, 1) := by decide +kernel
theorem dX1_keepOrForget_32 : decode cX1_keepOrForget 32 = .ok (.getfield 30, 3) := by decide +kernel
theorem dX1_keepOrForget_35 : decode cX1_keepOrForget 35 = .ok (.iload_n 1, 1) := by decide +kernel
theorem dX1_keepOrForget_36 : decode cX1_keepOrForget 36 = .ok (.iastore, 1) := by decide +kernel
theorem dX1_keepOrForget_37 : decode cX1_keepOrForget 37 = .ok (.aload_n 0, 1) := by decide +kernel
theorem dX1_keepOrForget_38 : decode cX1_keepOrForget 38 = .ok (.dup, 1) := by decide +kernel
theorem dX1_keepOrForget_39 : decode cX1_keepOrForget 39 = .ok (.getfield 30, 3) := by decide +kernel
theorem dX1_keepOrForget_42 : decode cX1_keepOrForget 42 = .ok (.iconst 1, 1) := by decide +kernel
theorem dX1_keepOrForget_43 : decode cX1_keepOrForget 43 = .ok (.iadd, 1) := by decide +kernel
theorem dX1_keepOrForget_44 : decode cX1_keepOrForget 44 = .ok (.putfield 30, 3) := by decide +kernel
theorem dX1_keepOrForget_47 : decode cX1_keepOrForget 47 = .ok (.goto 16, 3) := by decide +kernel
theorem dX1_keepOrForget_50 : decode cX1_keepOrForget 50 = .ok (.iload_n 1, 1) := by decide +kernel
theorem dX1_keepOrForget_51 : decode cX1_keepOrForget 51 = .ok (.aload_n 0, 1) := by decide +kernel
theorem dX1_keepOrForget_52 : decode cX1_keepOrForget 52 = .ok (.getfield 36, 3) := by decide +kernel
theorem dX1_keepOrForget_55 : decode cX1_keepOrForget 55 = .ok (.if_icmp .ge 8, 3) := by decide +kernel
theorem dX1_keepOrForget_58 : decode cX1_keepOrForget 58 = .ok (.aload_n 0, 1) := by decide +kernel
theorem dX1_keepOrForget_59 : decode cX1_keepOrForget 59 = .ok (.iload_n 1, 1) := by decide +kernel
theorem dX1_keepOrForget_60 : decode cX1_keepOrForget 60 = .ok (.putfield 36, 3) := by decide +kernel
theorem dX1_keepOrForget_63 : decode cX1_keepOrForget 63 = .ok (.return_, 1) := by decide +kernel
theorem dX1_markFieldsOf_0 : decode cX1_markFieldsOf 0 = .ok (.aload_n 0, 1) := by decide +kernel
theorem dX1_markFieldsOf_1 : decode cX1_markFieldsOf 1 = .ok (.getfield 9, 3) := by decide +kernel
theorem dX1_markFieldsOf_4 : decode cX1_markFieldsOf 4 = .ok (.iload_n 1, 1) := by decide +kernel
theorem dX1_markFieldsOf_5 : decode cX1_markFieldsOf 5 = .ok (.invokevirtual 74, 3) := by decide +kernel
theorem dX1_markFieldsOf_8 : decode cX1_markFieldsOf 8 = .ok (.istore_n 2, 1) := by decide +kernel
theorem dX1_markFieldsOf_9 : decode cX1_markFieldsOf 9 = .ok (.iconst 0, 1) := by decide +kernel
theorem dX1_markFieldsOf_10 : decode cX1_markFieldsOf 10 = .ok (.istore_n 3, 1) := by decide +kernel
theorem dX1_markFieldsOf_11 : decode cX1_markFieldsOf 11 = .ok (.iload_n 3, 1) := by decide +kernel
theorem dX1_markFieldsOf_12 : decode cX1_markFieldsOf 12 = .ok (.iload_n 2, 1) := by decide +kernel
theorem dX1_markFieldsOf_13 : decode cX1_markFieldsOf 13 = .ok (.if_icmp .ge 22, 3) := by decide +kernel
theorem dX1_markFieldsOf_16 : decode cX1_markFieldsOf 16 = .ok (.aload_n 0, 1) := by decide +kernel
theorem dX1_markFieldsOf_17 : decode cX1_markFieldsOf 17 = .ok (.aload_n 0, 1) := by decide +kernel
theorem dX1_markFieldsOf_18 : decode cX1_markFieldsOf 18 = .ok (.getfield 9, 3) := by decide +kernel
theorem dX1_markFieldsOf_21 : decode cX1_markFieldsOf 21 = .ok (.iload_n 1, 1) := by decide +kernel
theorem dX1_markFieldsOf_22 : decode cX1_markFieldsOf 22 = .ok (.iload_n 3, 1) := by decide +kernel
theorem dX1_markFieldsOf_23 : decode cX1_markFieldsOf 23 = .ok (.invokevirtual 77, 3) := by decide +kernel
theorem dX1_markFieldsOf_26 : decode cX1_markFieldsOf 26 = .ok (.invokevirtual 60, 3) := by decide +kernel
theorem dX1_markFieldsOf_29 : decode cX1_markFieldsOf 29 = .ok (.iinc 3 1, 3) := by decide +kernel
theorem dX1_markFieldsOf_32 : decode cX1_markFieldsOf 32 = .ok (.goto (-21), 3) := by decide +kernel
theorem dX1_markFieldsOf_35 : decode cX1_markFieldsOf 35 = .ok (.return_, 1) := by decide +kernel
theorem dX1_hasMark_0 : decode cX1_hasMark 0 = .ok (.aload_n 0, 1) := by decide +kernel
theorem dX1_hasMark_1 : decode cX1_hasMark 1 = .ok (.getfield 9, 3) := by decide +kernel
theorem dX1_hasMark_4 : decode cX1_hasMark 4 = .ok (.iload_n 1, 1) := by decide +kernel
theorem dX1_hasMark_5 : decode cX1_hasMark 5 = .ok (.invokevirtual 42, 3) := by decide +kernel
theorem dX1_hasMark_8 : decode cX1_hasMark 8 = .ok (.ifCond .eq 16, 3) := by decide +kernel
theorem dX1_hasMark_11 : decode cX1_hasMark 11 = .ok (.aload_n 0, 1) := by decide +kernel
theorem dX1_hasMark_12 : decode cX1_hasMark 12 = .ok (.getfield 15, 3) := by decide +kernel
theorem dX1_hasMark_15 : decode cX1_hasMark 15 = .ok (.iload_n 1, 1) := by decide +kernel
theorem dX1_hasMark_16 : decode cX1_hasMark 16 = .ok (.baload, 1) := by decide +kernel
theorem dX1_hasMark_17 : decode cX1_hasMark 17 = .ok (.ifCond .eq 7, 3) := by decide +kernel
theorem dX1_hasMark_20 : decode cX1_hasMark 20 = .ok (.iconst 1, 1) := by decide +kernel
theorem dX1_hasMark_21 : decode cX1_hasMark 21 = .ok (.goto 4, 3) := by decide +kernel
theorem dX1_hasMark_24 : decode cX1_hasMark 24 = .ok (.iconst 0, 1) := by decide +kernel
theorem dX1_hasMark_25 : decode cX1_hasMark 25 = .ok (.ireturn, 1) := by decide +kernel
theorem dX1_doCleanSteps_0 : decode cX1_doCleanSteps 0 = .ok (.iconst 1, 1) := by decide +kernel
theorem dX1_doCleanSteps_1 : decode cX1_doCleanSteps 1 = .ok (.istore_n 2, 1) := by decide +kernel
theorem dX1_doCleanSteps_2 : decode cX1_doCleanSteps 2 = .ok (.iconst 0, 1) := by decide +kernel
theorem dX1_doCleanSteps_3 : decode cX1_doCleanSteps 3 = .ok (.istore_n 3, 1) := by decide +kernel
theorem dX1_doCleanSteps_4 : decode cX1_doCleanSteps 4 = .ok (.iload_n 3, 1) := by decide +kernel
theorem dX1_doCleanSteps_5 : decode cX1_doCleanSteps 5 = .ok (.iload_n 1, 1) := by decide +kernel
theorem dX1_doCleanSteps_6 : decode cX1_doCleanSteps 6 = .ok (.if_icmp .ge 18, 3) := by decide +kernel
theorem dX1_doCleanSteps_9 : decode cX1_doCleanSteps 9 = .ok (.iload_n 2, 1) := by decide +kernel
theorem dX1_doCleanSteps_10 : decode cX1_doCleanSteps 10 = .ok (.ifCond .eq 14, 3) := by decide +kernel
theorem dX1_doCleanSteps_13 : decode cX1_doCleanSteps 13 = .ok (.aload_n 0, 1) := by decide +kernel
theorem dX1_doCleanSteps_14 : decode cX1_doCleanSteps 14 = .ok (.invokevirtual 52, 3) := by decide +kernel
theorem dX1_doCleanSteps_17 : decode cX1_doCleanSteps 17 = .ok (.istore_n 2, 1) := by decide +kernel
theorem dX1_doCleanSteps_18 : decode cX1_doCleanSteps 18 = .ok (.iinc 3 1, 3) := by decide +kernel
theorem dX1_doCleanSteps_21 : decode cX1_doCleanSteps 21 = .ok (.goto (-17), 3) := by decide +kernel
theorem dX1_doCleanSteps_24 : decode cX1_doCleanSteps 24 = .ok (.return_, 1) := by decide +kernel
theorem dX1_cleanStep_0 : decode cX1_cleanStep 0 = .ok (.aload_n 0, 1) := by decide +kernel
theorem dX1_cleanStep_1 : decode cX1_cleanStep 1 = .ok (.getfield 39, 3) := by decide +kernel
theorem dX1_cleanStep_4 : decode cX1_cleanStep 4 = .ok (.aload_n 0, 1) := by decide +kernel
theorem dX1_cleanStep_5 : decode cX1_cleanStep 5 = .ok (.getfield 9, 3) := by decide +kernel
theorem dX1_cleanStep_8 : decode cX1_cleanStep 8 = .ok (.invokevirtual 67, 3) := by decide +kernel
theorem dX1_cleanStep_11 : decode cX1_cleanStep 11 = .ok (.if_icmp .lt 5, 3) := by decide +kernel
theorem dX1_cleanStep_14 : decode cX1_cleanStep 14 = .ok (.iconst 0, 1) := by decide +kernel
theorem dX1_cleanStep_15 : decode cX1_cleanStep 15 = .ok (.ireturn, 1) := by decide +kernel
theorem dX1_cleanStep_16 : decode cX1_cleanStep 16 = .ok (.aload_n 0, 1) := by decide +kernel
theorem dX1_cleanStep_17 : decode cX1_cleanStep 17 = .ok (.getfield 39, 3) := by decide +kernel
theorem dX1_cleanStep_20 : decode cX1_cleanStep 20 = .ok (.istore_n 1, 1) := by decide +kernel
theorem dX1_cleanStep_21 : decode cX1_cleanStep 21 = .ok (.aload_n 0, 1) := by decide +kernel
theorem dX1_cleanStep_22 : decode cX1_cleanStep 22 = .ok (.dup, 1) := by decide +kernel
theorem dX1_cleanStep_23 : decode cX1_cleanStep 23 = .ok (.getfield 39, 3) := by decide +kernel
theorem dX1_cleanStep_26 : decode cX1_cleanStep 26 = .ok (.iconst 1, 1) := by decide +kernel
theorem dX1_cleanStep_27 : decode cX1_cleanStep 27 = .ok (.iadd, 1) := by decide +kernel
theorem dX1_cleanStep_28 : decode cX1_cleanStep 28 = .ok (.putfield 39, 3) := by decide +kernel
theorem dX1_cleanStep_31 : decode cX1_cleanStep 31 = .ok (.aload_n 0, 1) := by decide +kernel
theorem dX1_cleanStep_32 : decode cX1_cleanStep 32 = .ok (.getfield 9, 3) := by decide +kernel
theorem dX1_cleanStep_35 : decode cX1_cleanStep 35 = .ok (.iload_n 1, 1) := by decide +kernel
theorem dX1_cleanStep_36 : decode cX1_cleanStep 36 = .ok (.invokevirtual 42, 3) := by decide +kernel
theorem dX1_cleanStep_39 : decode cX1_cleanStep 39 = .ok (.ifCond .eq 33, 3) := by decide +kernel
theorem dX1_cleanStep_42 : decode cX1_cleanStep 42 = .ok (.aload_n 0, 1) := by decide +kernel
theorem dX1_cleanStep_43 : decode cX1_cleanStep 43 = .ok (.getfield 19, 3) := by decide +kernel
theorem dX1_cleanStep_46 : decode cX1_cleanStep 46 = .ok (.iload_n 1, 1) := by decide +kernel
theorem dX1_cleanStep_47 : decode cX1_cleanStep 47 = .ok (.baload, 1) := by decide +kernel
theorem dX1_cleanStep_48 : decode cX1_cleanStep 48 = .ok (.ifCond .eq 24, 3) := by decide +kernel
theorem dX1_cleanStep_51 : decode cX1_cleanStep 51 = .ok (.aload_n 0, 1) := by decide +kernel
