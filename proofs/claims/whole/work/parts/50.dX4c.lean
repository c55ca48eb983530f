theorem dX4_preclean_1 : decode cX4_preclean 1 = .ok (.iload_n 1, 1) := by decide +kernel
theorem dX4_preclean_2 : decode cX4_preclean 2 = .ok (.ifCond .lt 14, 3) := by decide +kernel
theorem dX4_preclean_5 : decode cX4_preclean 5 = .ok (.iload_n 1, 1) := by decide +kernel
theorem dX4_preclean_6 : decode cX4_preclean 6 = .ok (.sipush 5000, 3) := by decide +kernel
theorem dX4_preclean_9 : decode cX4_preclean 9 = .ok (.if_icmp .gt 7, 3) := by decide +kernel
theorem dX4_preclean_12 : decode cX4_preclean 12 = .ok (.iconst 0, 1) := by decide +kernel
theorem dX4_preclean_13 : decode cX4_preclean 13 = .ok (.goto 4, 3) := by decide +kernel
theorem dX4_preclean_16 : decode cX4_preclean 16 = .ok (.iconst 1, 1) := by decide +kernel
theorem dX4_preclean_17 : decode cX4_preclean 17 = .ok (.putfield 30, 3) := by decide +kernel
theorem dX4_preclean_20 : decode cX4_preclean 20 = .ok (.return_, 1) := by decide +kernel
theorem dX4_finish_0 : decode cX4_finish 0 = .ok (.aload_n 0, 1) := by decide +kernel
theorem dX4_finish_1 : decode cX4_finish 1 = .ok (.aload_n 0, 1) := by decide +kernel
theorem dX4_finish_2 : decode cX4_finish 2 = .ok (.getfield 61, 3) := by decide +kernel
theorem dX4_finish_5 : decode cX4_finish 5 = .ok (.iconst 1, 1) := by decide +kernel
theorem dX4_finish_6 : decode cX4_finish 6 = .ok (.invokevirtual 47, 3) := by decide +kernel
theorem dX4_finish_9 : decode cX4_finish 9 = .ok (.ifCond .ne 5, 3) := by decide +kernel
theorem dX4_finish_12 : decode cX4_finish 12 = .ok (.iconst 0, 1) := by decide +kernel
theorem dX4_finish_13 : decode cX4_finish 13 = .ok (.ireturn, 1) := by decide +kernel
theorem dX4_finish_14 : decode cX4_finish 14 = .ok (.aload_n 0, 1) := by decide +kernel
theorem dX4_finish_15 : decode cX4_finish 15 = .ok (.invokevirtual 64, 3) := by decide +kernel
theorem dX4_finish_18 : decode cX4_finish 18 = .ok (.istore_n 1, 1) := by decide +kernel
theorem dX4_finish_19 : decode cX4_finish 19 = .ok (.iconst 0, 1) := by decide +kernel
theorem dX4_finish_20 : decode cX4_finish 20 = .ok (.istore_n 2, 1) := by decide +kernel
theorem dX4_finish_21 : decode cX4_finish 21 = .ok (.iload_n 2, 1) := by decide +kernel
theorem dX4_finish_22 : decode cX4_finish 22 = .ok (.aload_n 0, 1) := by decide +kernel
theorem dX4_finish_23 : decode cX4_finish 23 = .ok (.getfield 33, 3) := by decide +kernel
theorem dX4_finish_26 : decode cX4_finish 26 = .ok (.if_icmp .ge 21, 3) := by decide +kernel
theorem dX4_finish_29 : decode cX4_finish 29 = .ok (.aload_n 0, 1) := by decide +kernel
theorem dX4_finish_30 : decode cX4_finish 30 = .ok (.getfield 23, 3) := by decide +kernel
theorem dX4_finish_33 : decode cX4_finish 33 = .ok (.iload_n 2, 1) := by decide +kernel
theorem dX4_finish_34 : decode cX4_finish 34 = .ok (.aload_n 0, 1) := by decide +kernel
theorem dX4_finish_35 : decode cX4_finish 35 = .ok (.getfield 19, 3) := by decide +kernel
theorem dX4_finish_38 : decode cX4_finish 38 = .ok (.iload_n 2, 1) := by decide +kernel
theorem dX4_finish_39 : decode cX4_finish 39 = .ok (.baload, 1) := by decide +kernel
theorem dX4_finish_40 : decode cX4_finish 40 = .ok (.bastore, 1) := by decide +kernel
theorem dX4_finish_41 : decode cX4_finish 41 = .ok (.iinc 2 1, 3) := by decide +kernel
theorem dX4_finish_44 : decode cX4_finish 44 = .ok (.goto (-23), 3) := by decide +kernel
theorem dX4_finish_47 : decode cX4_finish 47 = .ok (.aload_n 0, 1) := by decide +kernel
theorem dX4_finish_48 : decode cX4_finish 48 = .ok (.iconst 0, 1) := by decide +kernel
theorem dX4_finish_49 : decode cX4_finish 49 = .ok (.putfield 61, 3) := by decide +kernel
theorem dX4_finish_52 : decode cX4_finish 52 = .ok (.aload_n 0, 1) := by decide +kernel
theorem dX4_finish_53 : decode cX4_finish 53 = .ok (.iconst 1, 1) := by decide +kernel
theorem dX4_finish_54 : decode cX4_finish 54 = .ok (.putfield 44, 3) := by decide +kernel
theorem dX4_finish_57 : decode cX4_finish 57 = .ok (.aload_n 0, 1) := by decide +kernel
theorem dX4_finish_58 : decode cX4_finish 58 = .ok (.aload_n 0, 1) := by decide +kernel
theorem dX4_finish_59 : decode cX4_finish 59 = .ok (.getfield 40, 3) := by decide +kernel
theorem dX4_finish_62 : decode cX4_finish 62 = .ok (.putfield 68, 3) := by decide +kernel
theorem dX4_finish_65 : decode cX4_finish 65 = .ok (.aload_n 0, 1) := by decide +kernel
theorem dX4_finish_66 : decode cX4_finish 66 = .ok (.dup, 1) := by decide +kernel
theorem dX4_finish_67 : decode cX4_finish 67 = .ok (.getfield 71, 3) := by decide +kernel
theorem dX4_finish_70 : decode cX4_finish 70 = .ok (.iconst 1, 1) := by decide +kernel
theorem dX4_finish_71 : decode cX4_finish 71 = .ok (.iadd, 1) := by decide +kernel
theorem dX4_finish_72 : decode cX4_finish 72 = .ok (.putfield 71, 3) := by decide +kernel
theorem dX4_finish_75 : decode cX4_finish 75 = .ok (.aload_n 0, 1) := by decide +kernel
theorem dX4_finish_76 : decode cX4_finish 76 = .ok (.aload_n 0, 1) := by decide +kernel
theorem dX4_finish_77 : decode cX4_finish 77 = .ok (.getfield 40, 3) := by decide +kernel
theorem dX4_finish_80 : decode cX4_finish 80 = .ok (.ifCond .eq 12, 3) := by decide +kernel
theorem dX4_finish_83 : decode cX4_finish 83 = .ok (.aload_n 0, 1) := by decide +kernel
theorem dX4_finish_84 : decode cX4_finish 84 = .ok (.getfield 74, 3) := by decide +kernel
theorem dX4_finish_87 : decode cX4_finish 87 = .ok (.iconst 1, 1) := by decide +kernel
theorem dX4_finish_88 : decode cX4_finish 88 = .ok (.iadd, 1) := by decide +kernel
theorem dX4_finish_89 : decode cX4_finish 89 = .ok (.goto 7, 3) := by decide +kernel
theorem dX4_finish_92 : decode cX4_finish 92 = .ok (.aload_n 0, 1) := by decide +kernel
theorem dX4_finish_93 : decode cX4_finish 93 = .ok (.getfield 74, 3) := by decide +kernel
theorem dX4_finish_96 : decode cX4_finish 96 = .ok (.putfield 74, 3) := by decide +kernel
theorem dX4_finish_99 : decode cX4_finish 99 = .ok (.aload_n 0, 1) := by decide +kernel
theorem dX4_finish_100 : decode cX4_finish 100 = .ok (.getfield 40, 3) := by decide +kernel
theorem dX4_finish_103 : decode cX4_finish 103 = .ok (.ifCond .eq 7, 3) := by decide +kernel
theorem dX4_finish_106 : decode cX4_finish 106 = .ok (.iload_n 1, 1) := by decide +kernel
theorem dX4_finish_107 : decode cX4_finish 107 = .ok (.goto 4, 3) := by decide +kernel
theorem dX4_finish_110 : decode cX4_finish 110 = .ok (.iconst (-1), 1) := by decide +kernel
theorem dX4_finish_111 : decode cX4_finish 111 = .ok (.ireturn, 1) := by decide +kernel
theorem dX4_reach_0 : decode cX4_reach 0 = .ok (.iconst 0, 1) := by decide +kernel
theorem dX4_reach_1 : decode cX4_reach 1 = .ok (.istore_n 1, 1) := by decide +kernel
theorem dX4_reach_2 : decode cX4_reach 2 = .ok (.iconst 0, 1) := by decide +kernel
theorem dX4_reach_3 : decode cX4_reach 3 = .ok (.istore_n 2, 1) := by decide +kernel
theorem dX4_reach_4 : decode cX4_reach 4 = .ok (.iload_n 2, 1) := by decide +kernel
theorem dX4_reach_5 : decode cX4_reach 5 = .ok (.aload_n 0, 1) := by decide +kernel
theorem dX4_reach_6 : decode cX4_reach 6 = .ok (.getfield 33, 3) := by decide +kernel
theorem dX4_reach_9 : decode cX4_reach 9 = .ok (.if_icmp .ge 16, 3) := by decide +kernel
theorem dX4_reach_12 : decode cX4_reach 12 = .ok (.aload_n 0, 1) := by decide +kernel
theorem dX4_reach_13 : decode cX4_reach 13 = .ok (.getfield 19, 3) := by decide +kernel
theorem dX4_reach_16 : decode cX4_reach 16 = .ok (.iload_n 2, 1) := by decide +kernel
theorem dX4_reach_17 : decode cX4_reach 17 = .ok (.iconst 0, 1) := by decide +kernel
theorem dX4_reach_18 : decode cX4_reach 18 = .ok (.bastore, 1) := by decide +kernel
theorem dX4_reach_19 : decode cX4_reach 19 = .ok (.iinc 2 1, 3) := by decide +kernel
theorem dX4_reach_22 : decode cX4_reach 22 = .ok (.goto (-18), 3) := by decide +kernel
theorem dX4_reach_25 : decode cX4_reach 25 = .ok (.iconst 0, 1) := by decide +kernel
theorem dX4_reach_26 : decode cX4_reach 26 = .ok (.istore_n 2, 1) := by decide +kernel
theorem dX4_reach_27 : decode cX4_reach 27 = .ok (.iload_n 2, 1) := by decide +kernel
theorem dX4_reach_28 : decode cX4_reach 28 = .ok (.bipush 16, 2) := by decide +kernel
theorem dX4_reach_30 : decode cX4_reach 30 = .ok (.if_icmp .ge 32, 3) := by decide +kernel
theorem dX4_reach_33 : decode cX4_reach 33 = .ok (.aload_n 0, 1) := by decide +kernel
theorem dX4_reach_34 : decode cX4_reach 34 = .ok (.getfield 16, 3) := by decide +kernel
theorem dX4_reach_37 : decode cX4_reach 37 = .ok (.iload_n 2, 1) := by decide +kernel
theorem dX4_reach_38 : decode cX4_reach 38 = .ok (.iaload, 1) := by decide +kernel
theorem dX4_reach_39 : decode cX4_reach 39 = .ok (.ifCond .le 17, 3) := by decide +kernel
theorem dX4_reach_42 : decode cX4_reach 42 = .ok (.aload_n 0, 1) := by decide +kernel
theorem dX4_reach_43 : decode cX4_reach 43 = .ok (.getfield 19, 3) := by decide +kernel
theorem dX4_reach_46 : decode cX4_reach 46 = .ok (.aload_n 0, 1) := by decide +kernel
theorem dX4_reach_47 : decode cX4_reach 47 = .ok (.getfield 16, 3) := by decide +kernel
theorem dX4_reach_50 : decode cX4_reach 50 = .ok (.iload_n 2, 1) := by decide +kernel
theorem dX4_reach_51 : decode cX4_reach 51 = .ok (.iaload, 1) := by decide +kernel
theorem dX4_reach_52 : decode cX4_reach 52 = .ok (.iconst 1, 1) := by decide +kernel
theorem dX4_reach_53 : decode cX4_reach 53 = .ok (.isub, 1) := by decide +kernel
theorem dX4_reach_54 : decode cX4_reach 54 = .ok (.iconst 1, 1) := by decide +kernel
theorem dX4_reach_55 : decode cX4_reach 55 = .ok (.bastore, 1) := by decide +kernel
theorem dX4_reach_56 : decode cX4_reach 56 = .ok (.iinc 2 1, 3) := by decide +kernel
theorem dX4_reach_59 : decode cX4_reach 59 = .ok (.goto (-32), 3) := by decide +kernel
theorem dX4_reach_62 : decode cX4_reach 62 = .ok (.iconst 1, 1) := by decide +kernel
theorem dX4_reach_63 : decode cX4_reach 63 = .ok (.istore_n 2, 1) := by decide +kernel
theorem dX4_reach_64 : decode cX4_reach 64 = .ok (.iconst 0, 1) := by decide +kernel
theorem dX4_reach_65 : decode cX4_reach 65 = .ok (.istore_n 3, 1) := by decide +kernel
theorem dX4_reach_66 : decode cX4_reach 66 = .ok (.iload_n 3, 1) := by decide +kernel
theorem dX4_reach_67 : decode cX4_reach 67 = .ok (.aload_n 0, 1) := by decide +kernel
theorem dX4_reach_68 : decode cX4_reach 68 = .ok (.getfield 33, 3) := by decide +kernel
theorem dX4_reach_71 : decode cX4_reach 71 = .ok (.if_icmp .gt 116, 3) := by decide +kernel
theorem dX4_reach_74 : decode cX4_reach 74 = .ok (.iload_n 2, 1) := by decide +kernel
theorem dX4_reach_75 : decode cX4_reach 75 = .ok (.ifCond .eq 112, 3) := by decide +kernel
theorem dX4_reach_78 : decode cX4_reach 78 = .ok (.iconst 0, 1) := by decide +kernel
theorem dX4_reach_79 : decode cX4_reach 79 = .ok (.istore_n 2, 1) := by decide +kernel
theorem dX4_reach_80 : decode cX4_reach 80 = .ok (.iconst 0, 1) := by decide +kernel
theorem dX4_reach_81 : decode cX4_reach 81 = .ok (.istore 4, 2) := by decide +kernel
theorem dX4_reach_83 : decode cX4_reach 83 = .ok (.iload 4, 2) := by decide +kernel
theorem dX4_reach_85 : decode cX4_reach 85 = .ok (.aload_n 0, 1) := by decide +kernel
theorem dX4_reach_86 : decode cX4_reach 86 = .ok (.getfield 33, 3) := by decide +kernel
theorem dX4_reach_89 : decode cX4_reach 89 = .ok (.if_icmp .ge 92, 3) := by decide +kernel
theorem dX4_reach_92 : decode cX4_reach 92 = .ok (.aload_n 0, 1) := by decide +kernel
theorem dX4_reach_93 : decode cX4_reach 93 = .ok (.getfield 7, 3) := by decide +kernel
theorem dX4_reach_96 : decode cX4_reach 96 = .ok (.iload 4, 2) := by decide +kernel
theorem dX4_reach_98 : decode cX4_reach 98 = .ok (.iaload, 1) := by decide +kernel
theorem dX4_reach_99 : decode cX4_reach 99 = .ok (.istore 5, 2) := by decide +kernel
theorem dX4_reach_101 : decode cX4_reach 101 = .ok (.iload 5, 2) := by decide +kernel
theorem dX4_reach_103 : decode cX4_reach 103 = .ok (.aload_n 0, 1) := by decide +kernel
theorem dX4_reach_104 : decode cX4_reach 104 = .ok (.getfield 7, 3) := by decide +kernel
theorem dX4_reach_107 : decode cX4_reach 107 = .ok (.iload 4, 2) := by decide +kernel
theorem dX4_reach_109 : decode cX4_reach 109 = .ok (.iconst 1, 1) := by decide +kernel
theorem dX4_reach_110 : decode cX4_reach 110 = .ok (.iadd, 1) := by decide +kernel
theorem dX4_reach_111 : decode cX4_reach 111 = .ok (.iaload, 1) := by decide +kernel
theorem dX4_reach_112 : decode cX4_reach 112 = .ok (.if_icmp .ge 63, 3) := by decide +kernel
theorem dX4_reach_115 : decode cX4_reach 115 = .ok (.aload_n 0, 1) := by decide +kernel
theorem dX4_reach_116 : decode cX4_reach 116 = .ok (.getfield 19, 3) := by decide +kernel
theorem dX4_reach_119 : decode cX4_reach 119 = .ok (.iload 4, 2) := by decide +kernel
theorem dX4_reach_121 : decode cX4_reach 121 = .ok (.baload, 1) := by decide +kernel
theorem dX4_reach_122 : decode cX4_reach 122 = .ok (.ifCond .eq 47, 3) := by decide +kernel
theorem dX4_reach_125 : decode cX4_reach 125 = .ok (.aload_n 0, 1) := by decide +kernel
theorem dX4_reach_126 : decode cX4_reach 126 = .ok (.getfield 13, 3) := by decide +kernel
theorem dX4_reach_129 : decode cX4_reach 129 = .ok (.iload 5, 2) := by decide +kernel
theorem dX4_reach_131 : decode cX4_reach 131 = .ok (.iaload, 1) := by decide +kernel
theorem dX4_reach_132 : decode cX4_reach 132 = .ok (.ifCond .le 37, 3) := by decide +kernel
