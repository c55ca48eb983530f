theorem dX0_init_0 : decode cX0_init 0 = .ok (.aload_n 0, 1) := by decide +kernel
theorem dX0_init_1 : decode cX0_init 1 = .ok (.invokespecial 3, 3) := by decide +kernel
theorem dX0_init_4 : decode cX0_init 4 = .ok (.aload_n 0, 1) := by decide +kernel
theorem dX0_init_5 : decode cX0_init 5 = .ok (.sipush 400, 3) := by decide +kernel
theorem dX0_init_8 : decode cX0_init 8 = .ok (.newarray .int, 2) := by decide +kernel
theorem dX0_init_10 : decode cX0_init 10 = .ok (.putfield 9, 3) := by decide +kernel
theorem dX0_init_13 : decode cX0_init 13 = .ok (.aload_n 0, 1) := by decide +kernel
theorem dX0_init_14 : decode cX0_init 14 = .ok (.sipush 8000, 3) := by decide +kernel
theorem dX0_init_17 : decode cX0_init 17 = .ok (.newarray .int, 2) := by decide +kernel
theorem dX0_init_19 : decode cX0_init 19 = .ok (.putfield 15, 3) := by decide +kernel
theorem dX0_init_22 : decode cX0_init 22 = .ok (.aload_n 0, 1) := by decide +kernel
theorem dX0_init_23 : decode cX0_init 23 = .ok (.bipush 16, 2) := by decide +kernel
theorem dX0_init_25 : decode cX0_init 25 = .ok (.newarray .int, 2) := by decide +kernel
theorem dX0_init_27 : decode cX0_init 27 = .ok (.putfield 18, 3) := by decide +kernel
theorem dX0_init_30 : decode cX0_init 30 = .ok (.aload_n 0, 1) := by decide +kernel
theorem dX0_init_31 : decode cX0_init 31 = .ok (.iconst 0, 1) := by decide +kernel
theorem dX0_init_32 : decode cX0_init 32 = .ok (.putfield 21, 3) := by decide +kernel
theorem dX0_init_35 : decode cX0_init 35 = .ok (.aload_n 0, 1) := by decide +kernel
theorem dX0_init_36 : decode cX0_init 36 = .ok (.iconst 0, 1) := by decide +kernel
theorem dX0_init_37 : decode cX0_init 37 = .ok (.putfield 25, 3) := by decide +kernel
theorem dX0_init_40 : decode cX0_init 40 = .ok (.iconst 0, 1) := by decide +kernel
theorem dX0_init_41 : decode cX0_init 41 = .ok (.istore_n 1, 1) := by decide +kernel
theorem dX0_init_42 : decode cX0_init 42 = .ok (.iload_n 1, 1) := by decide +kernel
theorem dX0_init_43 : decode cX0_init 43 = .ok (.bipush 16, 2) := by decide +kernel
theorem dX0_init_45 : decode cX0_init 45 = .ok (.if_icmp .ge 16, 3) := by decide +kernel
theorem dX0_init_48 : decode cX0_init 48 = .ok (.aload_n 0, 1) := by decide +kernel
theorem dX0_init_49 : decode cX0_init 49 = .ok (.getfield 18, 3) := by decide +kernel
theorem dX0_init_52 : decode cX0_init 52 = .ok (.iload_n 1, 1) := by decide +kernel
theorem dX0_init_53 : decode cX0_init 53 = .ok (.iconst (-1), 1) := by decide +kernel
theorem dX0_init_54 : decode cX0_init 54 = .ok (.iastore, 1) := by decide +kernel
theorem dX0_init_55 : decode cX0_init 55 = .ok (.iinc 1 1, 3) := by decide +kernel
theorem dX0_init_58 : decode cX0_init 58 = .ok (.goto (-16), 3) := by decide +kernel
theorem dX0_init_61 : decode cX0_init 61 = .ok (.return_, 1) := by decide +kernel
theorem dX0_isFull_0 : decode cX0_isFull 0 = .ok (.aload_n 0, 1) := by decide +kernel
theorem dX0_isFull_1 : decode cX0_isFull 1 = .ok (.getfield 21, 3) := by decide +kernel
theorem dX0_isFull_4 : decode cX0_isFull 4 = .ok (.sipush 400, 3) := by decide +kernel
theorem dX0_isFull_7 : decode cX0_isFull 7 = .ok (.if_icmp .lt 7, 3) := by decide +kernel
theorem dX0_isFull_10 : decode cX0_isFull 10 = .ok (.iconst 1, 1) := by decide +kernel
theorem dX0_isFull_11 : decode cX0_isFull 11 = .ok (.goto 4, 3) := by decide +kernel
theorem dX0_isFull_14 : decode cX0_isFull 14 = .ok (.iconst 0, 1) := by decide +kernel
theorem dX0_isFull_15 : decode cX0_isFull 15 = .ok (.ireturn, 1) := by decide +kernel
theorem dX0_addObject_0 : decode cX0_addObject 0 = .ok (.aload_n 0, 1) := by decide +kernel
theorem dX0_addObject_1 : decode cX0_addObject 1 = .ok (.invokevirtual 32, 3) := by decide +kernel
theorem dX0_addObject_4 : decode cX0_addObject 4 = .ok (.ifCond .ne 13, 3) := by decide +kernel
theorem dX0_addObject_7 : decode cX0_addObject 7 = .ok (.iload_n 1, 1) := by decide +kernel
theorem dX0_addObject_8 : decode cX0_addObject 8 = .ok (.ifCond .lt 9, 3) := by decide +kernel
theorem dX0_addObject_11 : decode cX0_addObject 11 = .ok (.iload_n 1, 1) := by decide +kernel
theorem dX0_addObject_12 : decode cX0_addObject 12 = .ok (.bipush 20, 2) := by decide +kernel
theorem dX0_addObject_14 : decode cX0_addObject 14 = .ok (.if_icmp .le 5, 3) := by decide +kernel
theorem dX0_addObject_17 : decode cX0_addObject 17 = .ok (.iconst (-1), 1) := by decide +kernel
theorem dX0_addObject_18 : decode cX0_addObject 18 = .ok (.ireturn, 1) := by decide +kernel
theorem dX0_addObject_19 : decode cX0_addObject 19 = .ok (.aload_n 0, 1) := by decide +kernel
theorem dX0_addObject_20 : decode cX0_addObject 20 = .ok (.getfield 21, 3) := by decide +kernel
theorem dX0_addObject_23 : decode cX0_addObject 23 = .ok (.istore_n 2, 1) := by decide +kernel
theorem dX0_addObject_24 : decode cX0_addObject 24 = .ok (.aload_n 0, 1) := by decide +kernel
theorem dX0_addObject_25 : decode cX0_addObject 25 = .ok (.getfield 9, 3) := by decide +kernel
theorem dX0_addObject_28 : decode cX0_addObject 28 = .ok (.iload_n 2, 1) := by decide +kernel
theorem dX0_addObject_29 : decode cX0_addObject 29 = .ok (.iload_n 1, 1) := by decide +kernel
theorem dX0_addObject_30 : decode cX0_addObject 30 = .ok (.iastore, 1) := by decide +kernel
theorem dX0_addObject_31 : decode cX0_addObject 31 = .ok (.iconst 0, 1) := by decide +kernel
theorem dX0_addObject_32 : decode cX0_addObject 32 = .ok (.istore_n 3, 1) := by decide +kernel
theorem dX0_addObject_33 : decode cX0_addObject 33 = .ok (.iload_n 3, 1) := by decide +kernel
theorem dX0_addObject_34 : decode cX0_addObject 34 = .ok (.iload_n 1, 1) := by decide +kernel
theorem dX0_addObject_35 : decode cX0_addObject 35 = .ok (.if_icmp .ge 21, 3) := by decide +kernel
theorem dX0_addObject_38 : decode cX0_addObject 38 = .ok (.aload_n 0, 1) := by decide +kernel
theorem dX0_addObject_39 : decode cX0_addObject 39 = .ok (.getfield 15, 3) := by decide +kernel
theorem dX0_addObject_42 : decode cX0_addObject 42 = .ok (.iload_n 2, 1) := by decide +kernel
theorem dX0_addObject_43 : decode cX0_addObject 43 = .ok (.bipush 20, 2) := by decide +kernel
theorem dX0_addObject_45 : decode cX0_addObject 45 = .ok (.imul, 1) := by decide +kernel
theorem dX0_addObject_46 : decode cX0_addObject 46 = .ok (.iload_n 3, 1) := by decide +kernel
theorem dX0_addObject_47 : decode cX0_addObject 47 = .ok (.iadd, 1) := by decide +kernel
theorem dX0_addObject_48 : decode cX0_addObject 48 = .ok (.iconst (-1), 1) := by decide +kernel
theorem dX0_addObject_49 : decode cX0_addObject 49 = .ok (.iastore, 1) := by decide +kernel
theorem dX0_addObject_50 : decode cX0_addObject 50 = .ok (.iinc 3 1, 3) := by decide +kernel
theorem dX0_addObject_53 : decode cX0_addObject 53 = .ok (.goto (-20), 3) := by decide +kernel
theorem dX0_addObject_56 : decode cX0_addObject 56 = .ok (.aload_n 0, 1) := by decide +kernel
theorem dX0_addObject_57 : decode cX0_addObject 57 = .ok (.dup, 1) := by decide +kernel
theorem dX0_addObject_58 : decode cX0_addObject 58 = .ok (.getfield 21, 3) := by decide +kernel
theorem dX0_addObject_61 : decode cX0_addObject 61 = .ok (.iconst 1, 1) := by decide +kernel
theorem dX0_addObject_62 : decode cX0_addObject 62 = .ok (.iadd, 1) := by decide +kernel
theorem dX0_addObject_63 : decode cX0_addObject 63 = .ok (.putfield 21, 3) := by decide +kernel
theorem dX0_addObject_66 : decode cX0_addObject 66 = .ok (.aload_n 0, 1) := by decide +kernel
theorem dX0_addObject_67 : decode cX0_addObject 67 = .ok (.dup, 1) := by decide +kernel
theorem dX0_addObject_68 : decode cX0_addObject 68 = .ok (.getfield 25, 3) := by decide +kernel
theorem dX0_addObject_71 : decode cX0_addObject 71 = .ok (.iload_n 1, 1) := by decide +kernel
theorem dX0_addObject_72 : decode cX0_addObject 72 = .ok (.iadd, 1) := by decide +kernel
theorem dX0_addObject_73 : decode cX0_addObject 73 = .ok (.putfield 25, 3) := by decide +kernel
theorem dX0_addObject_76 : decode cX0_addObject 76 = .ok (.iload_n 2, 1) := by decide +kernel
theorem dX0_addObject_77 : decode cX0_addObject 77 = .ok (.ireturn, 1) := by decide +kernel
theorem dX0_hasField_0 : decode cX0_hasField 0 = .ok (.aload_n 0, 1) := by decide +kernel
theorem dX0_hasField_1 : decode cX0_hasField 1 = .ok (.iload_n 1, 1) := by decide +kernel
theorem dX0_hasField_2 : decode cX0_hasField 2 = .ok (.invokevirtual 28, 3) := by decide +kernel
theorem dX0_hasField_5 : decode cX0_hasField 5 = .ok (.ifCond .eq 21, 3) := by decide +kernel
theorem dX0_hasField_8 : decode cX0_hasField 8 = .ok (.iload_n 2, 1) := by decide +kernel
theorem dX0_hasField_9 : decode cX0_hasField 9 = .ok (.ifCond .lt 17, 3) := by decide +kernel
theorem dX0_hasField_12 : decode cX0_hasField 12 = .ok (.iload_n 2, 1) := by decide +kernel
theorem dX0_hasField_13 : decode cX0_hasField 13 = .ok (.aload_n 0, 1) := by decide +kernel
theorem dX0_hasField_14 : decode cX0_hasField 14 = .ok (.getfield 9, 3) := by decide +kernel
theorem dX0_hasField_17 : decode cX0_hasField 17 = .ok (.iload_n 1, 1) := by decide +kernel
theorem dX0_hasField_18 : decode cX0_hasField 18 = .ok (.iaload, 1) := by decide +kernel
theorem dX0_hasField_19 : decode cX0_hasField 19 = .ok (.if_icmp .ge 7, 3) := by decide +kernel
theorem dX0_hasField_22 : decode cX0_hasField 22 = .ok (.iconst 1, 1) := by decide +kernel
theorem dX0_hasField_23 : decode cX0_hasField 23 = .ok (.goto 4, 3) := by decide +kernel
theorem dX0_hasField_26 : decode cX0_hasField 26 = .ok (.iconst 0, 1) := by decide +kernel
theorem dX0_hasField_27 : decode cX0_hasField 27 = .ok (.ireturn, 1) := by decide +kernel
theorem dX0_has_0 : decode cX0_has 0 = .ok (.iload_n 1, 1) := by decide +kernel
theorem dX0_has_1 : decode cX0_has 1 = .ok (.ifCond .lt 15, 3) := by decide +kernel
theorem dX0_has_4 : decode cX0_has 4 = .ok (.iload_n 1, 1) := by decide +kernel
theorem dX0_has_5 : decode cX0_has 5 = .ok (.aload_n 0, 1) := by decide +kernel
theorem dX0_has_6 : decode cX0_has 6 = .ok (.getfield 21, 3) := by decide +kernel
theorem dX0_has_9 : decode cX0_has 9 = .ok (.if_icmp .ge 7, 3) := by decide +kernel
theorem dX0_has_12 : decode cX0_has 12 = .ok (.iconst 1, 1) := by decide +kernel
theorem dX0_has_13 : decode cX0_has 13 = .ok (.goto 4, 3) := by decide +kernel
theorem dX0_has_16 : decode cX0_has 16 = .ok (.iconst 0, 1) := by decide +kernel
theorem dX0_has_17 : decode cX0_has 17 = .ok (.ireturn, 1) := by decide +kernel
theorem dX0_hasOrIsNone_0 : decode cX0_hasOrIsNone 0 = .ok (.iload_n 1, 1) := by decide +kernel
theorem dX0_hasOrIsNone_1 : decode cX0_hasOrIsNone 1 = .ok (.iconst (-1), 1) := by decide +kernel
theorem dX0_hasOrIsNone_2 : decode cX0_hasOrIsNone 2 = .ok (.if_icmp .eq 11, 3) := by decide +kernel
theorem dX0_hasOrIsNone_5 : decode cX0_hasOrIsNone 5 = .ok (.aload_n 0, 1) := by decide +kernel
theorem dX0_hasOrIsNone_6 : decode cX0_hasOrIsNone 6 = .ok (.iload_n 1, 1) := by decide +kernel
theorem dX0_hasOrIsNone_7 : decode cX0_hasOrIsNone 7 = .ok (.invokevirtual 28, 3) := by decide +kernel
theorem dX0_hasOrIsNone_10 : decode cX0_hasOrIsNone 10 = .ok (.ifCond .eq 7, 3) := by decide +kernel
theorem dX0_hasOrIsNone_13 : decode cX0_hasOrIsNone 13 = .ok (.iconst 1, 1) := by decide +kernel
theorem dX0_hasOrIsNone_14 : decode cX0_hasOrIsNone 14 = .ok (.goto 4, 3) := by decide +kernel
theorem dX0_hasOrIsNone_17 : decode cX0_hasOrIsNone 17 = .ok (.iconst 0, 1) := by decide +kernel
theorem dX0_hasOrIsNone_18 : decode cX0_hasOrIsNone 18 = .ok (.ireturn, 1) := by decide +kernel
theorem dX0_putField_0 : decode cX0_putField 0 = .ok (.aload_n 0, 1) := by decide +kernel
theorem dX0_putField_1 : decode cX0_putField 1 = .ok (.iload_n 1, 1) := by decide +kernel
theorem dX0_putField_2 : decode cX0_putField 2 = .ok (.iload_n 2, 1) := by decide +kernel
theorem dX0_putField_3 : decode cX0_putField 3 = .ok (.invokevirtual 40, 3) := by decide +kernel
theorem dX0_putField_6 : decode cX0_putField 6 = .ok (.istore 4, 2) := by decide +kernel
theorem dX0_putField_8 : decode cX0_putField 8 = .ok (.aload_n 0, 1) := by decide +kernel
theorem dX0_putField_9 : decode cX0_putField 9 = .ok (.iload_n 1, 1) := by decide +kernel
theorem dX0_putField_10 : decode cX0_putField 10 = .ok (.iload_n 2, 1) := by decide +kernel
theorem dX0_putField_11 : decode cX0_putField 11 = .ok (.invokevirtual 36, 3) := by decide +kernel
theorem dX0_putField_14 : decode cX0_putField 14 = .ok (.ifCond .eq 15, 3) := by decide +kernel
theorem dX0_putField_17 : decode cX0_putField 17 = .ok (.aload_n 0, 1) := by decide +kernel
theorem dX0_putField_18 : decode cX0_putField 18 = .ok (.getfield 15, 3) := by decide +kernel
theorem dX0_putField_21 : decode cX0_putField 21 = .ok (.iload_n 1, 1) := by decide +kernel
theorem dX0_putField_22 : decode cX0_putField 22 = .ok (.bipush 20, 2) := by decide +kernel
theorem dX0_putField_24 : decode cX0_putField 24 = .ok (.imul, 1) := by decide +kernel
theorem dX0_putField_25 : decode cX0_putField 25 = .ok (.iload_n 2, 1) := by decide +kernel
theorem dX0_putField_26 : decode cX0_putField 26 = .ok (.iadd, 1) := by decide +kernel
theorem dX0_putField_27 : decode cX0_putField 27 = .ok (.iload_n 3, 1) := by decide +kernel
theorem dX0_putField_28 : decode cX0_putField 28 = .ok (.iastore, 1) := by decide +kernel
theorem dX0_putField_29 : decode cX0_putField 29 = .ok (.iload 4, 2) := by decide +kernel
theorem dX0_putField_31 : decode cX0_putField 31 = .ok (.ireturn, 1) := by decide +kernel
theorem dX0_fieldOf_0 : decode cX0_fieldOf 0 = .ok (.aload_n 0, 1) := by decide +kernel
theorem dX0_fieldOf_1 : decode cX0_fieldOf 1 = .ok (.iload_n 1, 1) := by decide +kernel
theorem dX0_fieldOf_2 : decode cX0_fieldOf 2 = .ok (.iload_n 2, 1) := by decide +kernel
