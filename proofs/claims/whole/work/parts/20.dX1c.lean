theorem dX1_cleanStep_52 : decode cX1_cleanStep 52 = .ok (.getfield 19, 3) := by decide +kernel
theorem dX1_cleanStep_55 : decode cX1_cleanStep 55 = .ok (.iload_n 1, 1) := by decide +kernel
theorem dX1_cleanStep_56 : decode cX1_cleanStep 56 = .ok (.iconst 0, 1) := by decide +kernel
theorem dX1_cleanStep_57 : decode cX1_cleanStep 57 = .ok (.bastore, 1) := by decide +kernel
theorem dX1_cleanStep_58 : decode cX1_cleanStep 58 = .ok (.aload_n 0, 1) := by decide +kernel
theorem dX1_cleanStep_59 : decode cX1_cleanStep 59 = .ok (.getfield 15, 3) := by decide +kernel
theorem dX1_cleanStep_62 : decode cX1_cleanStep 62 = .ok (.iload_n 1, 1) := by decide +kernel
theorem dX1_cleanStep_63 : decode cX1_cleanStep 63 = .ok (.baload, 1) := by decide +kernel
theorem dX1_cleanStep_64 : decode cX1_cleanStep 64 = .ok (.ifCond .eq 8, 3) := by decide +kernel
theorem dX1_cleanStep_67 : decode cX1_cleanStep 67 = .ok (.aload_n 0, 1) := by decide +kernel
theorem dX1_cleanStep_68 : decode cX1_cleanStep 68 = .ok (.iload_n 1, 1) := by decide +kernel
theorem dX1_cleanStep_69 : decode cX1_cleanStep 69 = .ok (.invokevirtual 64, 3) := by decide +kernel
theorem dX1_cleanStep_72 : decode cX1_cleanStep 72 = .ok (.iconst 1, 1) := by decide +kernel
theorem dX1_cleanStep_73 : decode cX1_cleanStep 73 = .ok (.ireturn, 1) := by decide +kernel
theorem dX1_markAllThatIsLeft_0 : decode cX1_markAllThatIsLeft 0 = .ok (.aload_n 0, 1) := by decide +kernel
theorem dX1_markAllThatIsLeft_1 : decode cX1_markAllThatIsLeft 1 = .ok (.iconst 0, 1) := by decide +kernel
theorem dX1_markAllThatIsLeft_2 : decode cX1_markAllThatIsLeft 2 = .ok (.putfield 33, 3) := by decide +kernel
theorem dX1_markAllThatIsLeft_5 : decode cX1_markAllThatIsLeft 5 = .ok (.iconst 1, 1) := by decide +kernel
theorem dX1_markAllThatIsLeft_6 : decode cX1_markAllThatIsLeft 6 = .ok (.istore_n 1, 1) := by decide +kernel
theorem dX1_markAllThatIsLeft_7 : decode cX1_markAllThatIsLeft 7 = .ok (.iconst 0, 1) := by decide +kernel
theorem dX1_markAllThatIsLeft_8 : decode cX1_markAllThatIsLeft 8 = .ok (.istore_n 2, 1) := by decide +kernel
theorem dX1_markAllThatIsLeft_9 : decode cX1_markAllThatIsLeft 9 = .ok (.iload_n 2, 1) := by decide +kernel
theorem dX1_markAllThatIsLeft_10 : decode cX1_markAllThatIsLeft 10 = .ok (.ldc 55, 2) := by decide +kernel
theorem dX1_markAllThatIsLeft_12 : decode cX1_markAllThatIsLeft 12 = .ok (.if_icmp .ge 33, 3) := by decide +kernel
theorem dX1_markAllThatIsLeft_15 : decode cX1_markAllThatIsLeft 15 = .ok (.iload_n 1, 1) := by decide +kernel
theorem dX1_markAllThatIsLeft_16 : decode cX1_markAllThatIsLeft 16 = .ok (.ifCond .eq 29, 3) := by decide +kernel
theorem dX1_markAllThatIsLeft_19 : decode cX1_markAllThatIsLeft 19 = .ok (.aload_n 0, 1) := by decide +kernel
theorem dX1_markAllThatIsLeft_20 : decode cX1_markAllThatIsLeft 20 = .ok (.invokevirtual 48, 3) := by decide +kernel
theorem dX1_markAllThatIsLeft_23 : decode cX1_markAllThatIsLeft 23 = .ok (.ifCond .ne 10, 3) := by decide +kernel
theorem dX1_markAllThatIsLeft_26 : decode cX1_markAllThatIsLeft 26 = .ok (.aload_n 0, 1) := by decide +kernel
theorem dX1_markAllThatIsLeft_27 : decode cX1_markAllThatIsLeft 27 = .ok (.invokevirtual 52, 3) := by decide +kernel
theorem dX1_markAllThatIsLeft_30 : decode cX1_markAllThatIsLeft 30 = .ok (.ifCond .eq 7, 3) := by decide +kernel
theorem dX1_markAllThatIsLeft_33 : decode cX1_markAllThatIsLeft 33 = .ok (.iconst 1, 1) := by decide +kernel
theorem dX1_markAllThatIsLeft_34 : decode cX1_markAllThatIsLeft 34 = .ok (.goto 4, 3) := by decide +kernel
theorem dX1_markAllThatIsLeft_37 : decode cX1_markAllThatIsLeft 37 = .ok (.iconst 0, 1) := by decide +kernel
theorem dX1_markAllThatIsLeft_38 : decode cX1_markAllThatIsLeft 38 = .ok (.istore_n 1, 1) := by decide +kernel
theorem dX1_markAllThatIsLeft_39 : decode cX1_markAllThatIsLeft 39 = .ok (.iinc 2 1, 3) := by decide +kernel
theorem dX1_markAllThatIsLeft_42 : decode cX1_markAllThatIsLeft 42 = .ok (.goto (-33), 3) := by decide +kernel
theorem dX1_markAllThatIsLeft_45 : decode cX1_markAllThatIsLeft 45 = .ok (.return_, 1) := by decide +kernel
theorem dX1_countOfMarks_0 : decode cX1_countOfMarks 0 = .ok (.iconst 0, 1) := by decide +kernel
theorem dX1_countOfMarks_1 : decode cX1_countOfMarks 1 = .ok (.istore_n 1, 1) := by decide +kernel
theorem dX1_countOfMarks_2 : decode cX1_countOfMarks 2 = .ok (.iconst 0, 1) := by decide +kernel
theorem dX1_countOfMarks_3 : decode cX1_countOfMarks 3 = .ok (.istore_n 2, 1) := by decide +kernel
theorem dX1_countOfMarks_4 : decode cX1_countOfMarks 4 = .ok (.iload_n 2, 1) := by decide +kernel
theorem dX1_countOfMarks_5 : decode cX1_countOfMarks 5 = .ok (.sipush 400, 3) := by decide +kernel
theorem dX1_countOfMarks_8 : decode cX1_countOfMarks 8 = .ok (.if_icmp .ge 21, 3) := by decide +kernel
theorem dX1_countOfMarks_11 : decode cX1_countOfMarks 11 = .ok (.aload_n 0, 1) := by decide +kernel
theorem dX1_countOfMarks_12 : decode cX1_countOfMarks 12 = .ok (.getfield 15, 3) := by decide +kernel
theorem dX1_countOfMarks_15 : decode cX1_countOfMarks 15 = .ok (.iload_n 2, 1) := by decide +kernel
theorem dX1_countOfMarks_16 : decode cX1_countOfMarks 16 = .ok (.baload, 1) := by decide +kernel
theorem dX1_countOfMarks_17 : decode cX1_countOfMarks 17 = .ok (.ifCond .eq 6, 3) := by decide +kernel
theorem dX1_countOfMarks_20 : decode cX1_countOfMarks 20 = .ok (.iinc 1 1, 3) := by decide +kernel
theorem dX1_countOfMarks_23 : decode cX1_countOfMarks 23 = .ok (.iinc 2 1, 3) := by decide +kernel
theorem dX1_countOfMarks_26 : decode cX1_countOfMarks 26 = .ok (.goto (-22), 3) := by decide +kernel
theorem dX1_countOfMarks_29 : decode cX1_countOfMarks 29 = .ok (.iload_n 1, 1) := by decide +kernel
theorem dX1_countOfMarks_30 : decode cX1_countOfMarks 30 = .ok (.ireturn, 1) := by decide +kernel
