theorem dX2_init_0 : decode cX2_init 0 = .ok (.aload_n 0, 1) := by decide +kernel
theorem dX2_init_1 : decode cX2_init 1 = .ok (.invokespecial 3, 3) := by decide +kernel
theorem dX2_init_4 : decode cX2_init 4 = .ok (.aload_n 0, 1) := by decide +kernel
theorem dX2_init_5 : decode cX2_init 5 = .ok (.aload_n 1, 1) := by decide +kernel
theorem dX2_init_6 : decode cX2_init 6 = .ok (.putfield 9, 3) := by decide +kernel
theorem dX2_init_9 : decode cX2_init 9 = .ok (.aload_n 0, 1) := by decide +kernel
theorem dX2_init_10 : decode cX2_init 10 = .ok (.sipush 400, 3) := by decide +kernel
theorem dX2_init_13 : decode cX2_init 13 = .ok (.newarray .boolean, 2) := by decide +kernel
theorem dX2_init_15 : decode cX2_init 15 = .ok (.putfield 15, 3) := by decide +kernel
theorem dX2_init_18 : decode cX2_init 18 = .ok (.aload_n 0, 1) := by decide +kernel
theorem dX2_init_19 : decode cX2_init 19 = .ok (.sipush 400, 3) := by decide +kernel
theorem dX2_init_22 : decode cX2_init 22 = .ok (.newarray .int, 2) := by decide +kernel
theorem dX2_init_24 : decode cX2_init 24 = .ok (.putfield 19, 3) := by decide +kernel
theorem dX2_init_27 : decode cX2_init 27 = .ok (.aload_n 0, 1) := by decide +kernel
theorem dX2_init_28 : decode cX2_init 28 = .ok (.iconst 0, 1) := by decide +kernel
theorem dX2_init_29 : decode cX2_init 29 = .ok (.putfield 23, 3) := by decide +kernel
theorem dX2_init_32 : decode cX2_init 32 = .ok (.return_, 1) := by decide +kernel
theorem dX2_search_0 : decode cX2_search 0 = .ok (.iconst 0, 1) := by decide +kernel
theorem dX2_search_1 : decode cX2_search 1 = .ok (.istore_n 1, 1) := by decide +kernel
theorem dX2_search_2 : decode cX2_search 2 = .ok (.iload_n 1, 1) := by decide +kernel
theorem dX2_search_3 : decode cX2_search 3 = .ok (.sipush 400, 3) := by decide +kernel
theorem dX2_search_6 : decode cX2_search 6 = .ok (.if_icmp .ge 16, 3) := by decide +kernel
theorem dX2_search_9 : decode cX2_search 9 = .ok (.aload_n 0, 1) := by decide +kernel
theorem dX2_search_10 : decode cX2_search 10 = .ok (.getfield 15, 3) := by decide +kernel
theorem dX2_search_13 : decode cX2_search 13 = .ok (.iload_n 1, 1) := by decide +kernel
theorem dX2_search_14 : decode cX2_search 14 = .ok (.iconst 0, 1) := by decide +kernel
theorem dX2_search_15 : decode cX2_search 15 = .ok (.bastore, 1) := by decide +kernel
theorem dX2_search_16 : decode cX2_search 16 = .ok (.iinc 1 1, 3) := by decide +kernel
theorem dX2_search_19 : decode cX2_search 19 = .ok (.goto (-17), 3) := by decide +kernel
theorem dX2_search_22 : decode cX2_search 22 = .ok (.aload_n 0, 1) := by decide +kernel
theorem dX2_search_23 : decode cX2_search 23 = .ok (.iconst 0, 1) := by decide +kernel
theorem dX2_search_24 : decode cX2_search 24 = .ok (.putfield 23, 3) := by decide +kernel
theorem dX2_search_27 : decode cX2_search 27 = .ok (.iconst 0, 1) := by decide +kernel
theorem dX2_search_28 : decode cX2_search 28 = .ok (.istore_n 1, 1) := by decide +kernel
theorem dX2_search_29 : decode cX2_search 29 = .ok (.iload_n 1, 1) := by decide +kernel
theorem dX2_search_30 : decode cX2_search 30 = .ok (.bipush 16, 2) := by decide +kernel
theorem dX2_search_32 : decode cX2_search 32 = .ok (.if_icmp .ge 21, 3) := by decide +kernel
theorem dX2_search_35 : decode cX2_search 35 = .ok (.aload_n 0, 1) := by decide +kernel
theorem dX2_search_36 : decode cX2_search 36 = .ok (.aload_n 0, 1) := by decide +kernel
theorem dX2_search_37 : decode cX2_search 37 = .ok (.getfield 9, 3) := by decide +kernel
theorem dX2_search_40 : decode cX2_search 40 = .ok (.iload_n 1, 1) := by decide +kernel
theorem dX2_search_41 : decode cX2_search 41 = .ok (.invokevirtual 27, 3) := by decide +kernel
theorem dX2_search_44 : decode cX2_search 44 = .ok (.invokevirtual 33, 3) := by decide +kernel
theorem dX2_search_47 : decode cX2_search 47 = .ok (.iinc 1 1, 3) := by decide +kernel
theorem dX2_search_50 : decode cX2_search 50 = .ok (.goto (-21), 3) := by decide +kernel
theorem dX2_search_53 : decode cX2_search 53 = .ok (.iconst 0, 1) := by decide +kernel
theorem dX2_search_54 : decode cX2_search 54 = .ok (.istore_n 1, 1) := by decide +kernel
theorem dX2_search_55 : decode cX2_search 55 = .ok (.iload_n 1, 1) := by decide +kernel
theorem dX2_search_56 : decode cX2_search 56 = .ok (.sipush 400, 3) := by decide +kernel
theorem dX2_search_59 : decode cX2_search 59 = .ok (.if_icmp .ge 27, 3) := by decide +kernel
theorem dX2_search_62 : decode cX2_search 62 = .ok (.iload_n 1, 1) := by decide +kernel
theorem dX2_search_63 : decode cX2_search 63 = .ok (.aload_n 0, 1) := by decide +kernel
theorem dX2_search_64 : decode cX2_search 64 = .ok (.getfield 23, 3) := by decide +kernel
theorem dX2_search_67 : decode cX2_search 67 = .ok (.if_icmp .ge 19, 3) := by decide +kernel
theorem dX2_search_70 : decode cX2_search 70 = .ok (.aload_n 0, 1) := by decide +kernel
theorem dX2_search_71 : decode cX2_search 71 = .ok (.aload_n 0, 1) := by decide +kernel
theorem dX2_search_72 : decode cX2_search 72 = .ok (.getfield 19, 3) := by decide +kernel
theorem dX2_search_75 : decode cX2_search 75 = .ok (.iload_n 1, 1) := by decide +kernel
theorem dX2_search_76 : decode cX2_search 76 = .ok (.iaload, 1) := by decide +kernel
theorem dX2_search_77 : decode cX2_search 77 = .ok (.invokevirtual 37, 3) := by decide +kernel
theorem dX2_search_80 : decode cX2_search 80 = .ok (.iinc 1 1, 3) := by decide +kernel
theorem dX2_search_83 : decode cX2_search 83 = .ok (.goto (-28), 3) := by decide +kernel
theorem dX2_search_86 : decode cX2_search 86 = .ok (.return_, 1) := by decide +kernel
theorem dX2_enter_0 : decode cX2_enter 0 = .ok (.aload_n 0, 1) := by decide +kernel
theorem dX2_enter_1 : decode cX2_enter 1 = .ok (.getfield 9, 3) := by decide +kernel
theorem dX2_enter_4 : decode cX2_enter 4 = .ok (.iload_n 1, 1) := by decide +kernel
theorem dX2_enter_5 : decode cX2_enter 5 = .ok (.invokevirtual 40, 3) := by decide +kernel
theorem dX2_enter_8 : decode cX2_enter 8 = .ok (.ifCond .eq 56, 3) := by decide +kernel
theorem dX2_enter_11 : decode cX2_enter 11 = .ok (.aload_n 0, 1) := by decide +kernel
theorem dX2_enter_12 : decode cX2_enter 12 = .ok (.getfield 15, 3) := by decide +kernel
theorem dX2_enter_15 : decode cX2_enter 15 = .ok (.iload_n 1, 1) := by decide +kernel
theorem dX2_enter_16 : decode cX2_enter 16 = .ok (.baload, 1) := by decide +kernel
theorem dX2_enter_17 : decode cX2_enter 17 = .ok (.ifCond .ne 47, 3) := by decide +kernel
theorem dX2_enter_20 : decode cX2_enter 20 = .ok (.aload_n 0, 1) := by decide +kernel
theorem dX2_enter_21 : decode cX2_enter 21 = .ok (.getfield 23, 3) := by decide +kernel
theorem dX2_enter_24 : decode cX2_enter 24 = .ok (.ifCond .lt 40, 3) := by decide +kernel
theorem dX2_enter_27 : decode cX2_enter 27 = .ok (.aload_n 0, 1) := by decide +kernel
theorem dX2_enter_28 : decode cX2_enter 28 = .ok (.getfield 23, 3) := by decide +kernel
theorem dX2_enter_31 : decode cX2_enter 31 = .ok (.sipush 400, 3) := by decide +kernel
theorem dX2_enter_34 : decode cX2_enter 34 = .ok (.if_icmp .ge 30, 3) := by decide +kernel
theorem dX2_enter_37 : decode cX2_enter 37 = .ok (.aload_n 0, 1) := by decide +kernel
theorem dX2_enter_38 : decode cX2_enter 38 = .ok (.getfield 15, 3) := by decide +kernel
theorem dX2_enter_41 : decode cX2_enter 41 = .ok (.iload_n 1, 1) := by decide +kernel
theorem dX2_enter_42 : decode cX2_enter 42 = .ok (.iconst 1, 1) := by decide +kernel
theorem dX2_enter_43 : decode cX2_enter 43 = .ok (.bastore, 1) := by decide +kernel
theorem dX2_enter_44 : decode cX2_enter 44 = .ok (.aload_n 0, 1) := by decide +kernel
theorem dX2_enter_45 : decode cX2_enter 45 = .ok (.getfield 19, 3) := by decide +kernel
theorem dX2_enter_48 : decode cX2_enter 48 = .ok (.aload_n 0, 1) := by decide +kernel
theorem dX2_enter_49 : decode cX2_enter 49 = .ok (.getfield 23, 3) := by decide +kernel
theorem dX2_enter_52 : decode cX2_enter 52 = .ok (.iload_n 1, 1) := by decide +kernel
theorem dX2_enter_53 : decode cX2_enter 53 = .ok (.iastore, 1) := by decide +kernel
theorem dX2_enter_54 : decode cX2_enter 54 = .ok (.aload_n 0, 1) := by decide +kernel
theorem dX2_enter_55 : decode cX2_enter 55 = .ok (.dup, 1) := by decide +kernel
theorem dX2_enter_56 : decode cX2_enter 56 = .ok (.getfield 23, 3) := by decide +kernel
theorem dX2_enter_59 : decode cX2_enter 59 = .ok (.iconst 1, 1) := by decide +kernel
theorem dX2_enter_60 : decode cX2_enter 60 = .ok (.iadd, 1) := by decide +kernel
theorem dX2_enter_61 : decode cX2_enter 61 = .ok (.putfield 23, 3) := by decide +kernel
theorem dX2_enter_64 : decode cX2_enter 64 = .ok (.return_, 1) := by decide +kernel
theorem dX2_enterFieldsOf_0 : decode cX2_enterFieldsOf 0 = .ok (.aload_n 0, 1) := by decide +kernel
theorem dX2_enterFieldsOf_1 : decode cX2_enterFieldsOf 1 = .ok (.getfield 9, 3) := by decide +kernel
theorem dX2_enterFieldsOf_4 : decode cX2_enterFieldsOf 4 = .ok (.iload_n 1, 1) := by decide +kernel
theorem dX2_enterFieldsOf_5 : decode cX2_enterFieldsOf 5 = .ok (.invokevirtual 44, 3) := by decide +kernel
theorem dX2_enterFieldsOf_8 : decode cX2_enterFieldsOf 8 = .ok (.istore_n 2, 1) := by decide +kernel
theorem dX2_enterFieldsOf_9 : decode cX2_enterFieldsOf 9 = .ok (.iconst 0, 1) := by decide +kernel
theorem dX2_enterFieldsOf_10 : decode cX2_enterFieldsOf 10 = .ok (.istore_n 3, 1) := by decide +kernel
theorem dX2_enterFieldsOf_11 : decode cX2_enterFieldsOf 11 = .ok (.iload_n 3, 1) := by decide +kernel
theorem dX2_enterFieldsOf_12 : decode cX2_enterFieldsOf 12 = .ok (.iload_n 2, 1) := by decide +kernel
theorem dX2_enterFieldsOf_13 : decode cX2_enterFieldsOf 13 = .ok (.if_icmp .ge 22, 3) := by decide +kernel
theorem dX2_enterFieldsOf_16 : decode cX2_enterFieldsOf 16 = .ok (.aload_n 0, 1) := by decide +kernel
theorem dX2_enterFieldsOf_17 : decode cX2_enterFieldsOf 17 = .ok (.aload_n 0, 1) := by decide +kernel
theorem dX2_enterFieldsOf_18 : decode cX2_enterFieldsOf 18 = .ok (.getfield 9, 3) := by decide +kernel
theorem dX2_enterFieldsOf_21 : decode cX2_enterFieldsOf 21 = .ok (.iload_n 1, 1) := by decide +kernel
theorem dX2_enterFieldsOf_22 : decode cX2_enterFieldsOf 22 = .ok (.iload_n 3, 1) := by decide +kernel
theorem dX2_enterFieldsOf_23 : decode cX2_enterFieldsOf 23 = .ok (.invokevirtual 47, 3) := by decide +kernel
theorem dX2_enterFieldsOf_26 : decode cX2_enterFieldsOf 26 = .ok (.invokevirtual 33, 3) := by decide +kernel
theorem dX2_enterFieldsOf_29 : decode cX2_enterFieldsOf 29 = .ok (.iinc 3 1, 3) := by decide +kernel
theorem dX2_enterFieldsOf_32 : decode cX2_enterFieldsOf 32 = .ok (.goto (-21), 3) := by decide +kernel
theorem dX2_enterFieldsOf_35 : decode cX2_enterFieldsOf 35 = .ok (.return_, 1) := by decide +kernel
theorem dX2_hasFound_0 : decode cX2_hasFound 0 = .ok (.aload_n 0, 1) := by decide +kernel
theorem dX2_hasFound_1 : decode cX2_hasFound 1 = .ok (.getfield 9, 3) := by decide +kernel
theorem dX2_hasFound_4 : decode cX2_hasFound 4 = .ok (.iload_n 1, 1) := by decide +kernel
theorem dX2_hasFound_5 : decode cX2_hasFound 5 = .ok (.invokevirtual 40, 3) := by decide +kernel
theorem dX2_hasFound_8 : decode cX2_hasFound 8 = .ok (.ifCond .eq 16, 3) := by decide +kernel
theorem dX2_hasFound_11 : decode cX2_hasFound 11 = .ok (.aload_n 0, 1) := by decide +kernel
theorem dX2_hasFound_12 : decode cX2_hasFound 12 = .ok (.getfield 15, 3) := by decide +kernel
theorem dX2_hasFound_15 : decode cX2_hasFound 15 = .ok (.iload_n 1, 1) := by decide +kernel
theorem dX2_hasFound_16 : decode cX2_hasFound 16 = .ok (.baload, 1) := by decide +kernel
theorem dX2_hasFound_17 : decode cX2_hasFound 17 = .ok (.ifCond .eq 7, 3) := by decide +kernel
theorem dX2_hasFound_20 : decode cX2_hasFound 20 = .ok (.iconst 1, 1) := by decide +kernel
theorem dX2_hasFound_21 : decode cX2_hasFound 21 = .ok (.goto 4, 3) := by decide +kernel
theorem dX2_hasFound_24 : decode cX2_hasFound 24 = .ok (.iconst 0, 1) := by decide +kernel
theorem dX2_hasFound_25 : decode cX2_hasFound 25 = .ok (.ireturn, 1) := by decide +kernel
theorem dX2_countOfFound_0 : decode cX2_countOfFound 0 = .ok (.aload_n 0, 1) := by decide +kernel
theorem dX2_countOfFound_1 : decode cX2_countOfFound 1 = .ok (.getfield 23, 3) := by decide +kernel
theorem dX2_countOfFound_4 : decode cX2_countOfFound 4 = .ok (.ireturn, 1) := by decide +kernel
