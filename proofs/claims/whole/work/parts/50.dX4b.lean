theorem dX4_isField_1 : decode cX4_isField 1 = .ok (.iload_n 1, 1) := by decide +kernel
theorem dX4_isField_2 : decode cX4_isField 2 = .ok (.invokevirtual 36, 3) := by decide +kernel
theorem dX4_isField_5 : decode cX4_isField 5 = .ok (.ifCond .eq 30, 3) := by decide +kernel
theorem dX4_isField_8 : decode cX4_isField 8 = .ok (.iload_n 2, 1) := by decide +kernel
theorem dX4_isField_9 : decode cX4_isField 9 = .ok (.ifCond .lt 26, 3) := by decide +kernel
theorem dX4_isField_12 : decode cX4_isField 12 = .ok (.iload_n 2, 1) := by decide +kernel
theorem dX4_isField_13 : decode cX4_isField 13 = .ok (.aload_n 0, 1) := by decide +kernel
theorem dX4_isField_14 : decode cX4_isField 14 = .ok (.getfield 7, 3) := by decide +kernel
theorem dX4_isField_17 : decode cX4_isField 17 = .ok (.iload_n 1, 1) := by decide +kernel
theorem dX4_isField_18 : decode cX4_isField 18 = .ok (.iconst 1, 1) := by decide +kernel
theorem dX4_isField_19 : decode cX4_isField 19 = .ok (.iadd, 1) := by decide +kernel
theorem dX4_isField_20 : decode cX4_isField 20 = .ok (.iaload, 1) := by decide +kernel
theorem dX4_isField_21 : decode cX4_isField 21 = .ok (.aload_n 0, 1) := by decide +kernel
theorem dX4_isField_22 : decode cX4_isField 22 = .ok (.getfield 7, 3) := by decide +kernel
theorem dX4_isField_25 : decode cX4_isField 25 = .ok (.iload_n 1, 1) := by decide +kernel
theorem dX4_isField_26 : decode cX4_isField 26 = .ok (.iaload, 1) := by decide +kernel
theorem dX4_isField_27 : decode cX4_isField 27 = .ok (.isub, 1) := by decide +kernel
theorem dX4_isField_28 : decode cX4_isField 28 = .ok (.if_icmp .ge 7, 3) := by decide +kernel
theorem dX4_isField_31 : decode cX4_isField 31 = .ok (.iconst 1, 1) := by decide +kernel
theorem dX4_isField_32 : decode cX4_isField 32 = .ok (.goto 4, 3) := by decide +kernel
theorem dX4_isField_35 : decode cX4_isField 35 = .ok (.iconst 0, 1) := by decide +kernel
theorem dX4_isField_36 : decode cX4_isField 36 = .ok (.ireturn, 1) := by decide +kernel
theorem dX4_isObject_0 : decode cX4_isObject 0 = .ok (.iload_n 1, 1) := by decide +kernel
theorem dX4_isObject_1 : decode cX4_isObject 1 = .ok (.ifCond .lt 15, 3) := by decide +kernel
theorem dX4_isObject_4 : decode cX4_isObject 4 = .ok (.iload_n 1, 1) := by decide +kernel
theorem dX4_isObject_5 : decode cX4_isObject 5 = .ok (.aload_n 0, 1) := by decide +kernel
theorem dX4_isObject_6 : decode cX4_isObject 6 = .ok (.getfield 33, 3) := by decide +kernel
theorem dX4_isObject_9 : decode cX4_isObject 9 = .ok (.if_icmp .ge 7, 3) := by decide +kernel
theorem dX4_isObject_12 : decode cX4_isObject 12 = .ok (.iconst 1, 1) := by decide +kernel
theorem dX4_isObject_13 : decode cX4_isObject 13 = .ok (.goto 4, 3) := by decide +kernel
theorem dX4_isObject_16 : decode cX4_isObject 16 = .ok (.iconst 0, 1) := by decide +kernel
theorem dX4_isObject_17 : decode cX4_isObject 17 = .ok (.ireturn, 1) := by decide +kernel
theorem dX4_get_0 : decode cX4_get 0 = .ok (.aload_n 0, 1) := by decide +kernel
theorem dX4_get_1 : decode cX4_get 1 = .ok (.aload_n 0, 1) := by decide +kernel
theorem dX4_get_2 : decode cX4_get 2 = .ok (.iload_n 1, 1) := by decide +kernel
theorem dX4_get_3 : decode cX4_get 3 = .ok (.iload_n 2, 1) := by decide +kernel
theorem dX4_get_4 : decode cX4_get 4 = .ok (.invokevirtual 57, 3) := by decide +kernel
theorem dX4_get_7 : decode cX4_get 7 = .ok (.iconst 1, 1) := by decide +kernel
theorem dX4_get_8 : decode cX4_get 8 = .ok (.invokevirtual 47, 3) := by decide +kernel
theorem dX4_get_11 : decode cX4_get 11 = .ok (.ifCond .eq 21, 3) := by decide +kernel
theorem dX4_get_14 : decode cX4_get 14 = .ok (.aload_n 0, 1) := by decide +kernel
theorem dX4_get_15 : decode cX4_get 15 = .ok (.getfield 13, 3) := by decide +kernel
theorem dX4_get_18 : decode cX4_get 18 = .ok (.aload_n 0, 1) := by decide +kernel
theorem dX4_get_19 : decode cX4_get 19 = .ok (.getfield 7, 3) := by decide +kernel
theorem dX4_get_22 : decode cX4_get 22 = .ok (.iload_n 1, 1) := by decide +kernel
theorem dX4_get_23 : decode cX4_get 23 = .ok (.iaload, 1) := by decide +kernel
theorem dX4_get_24 : decode cX4_get 24 = .ok (.iload_n 2, 1) := by decide +kernel
theorem dX4_get_25 : decode cX4_get 25 = .ok (.iadd, 1) := by decide +kernel
theorem dX4_get_26 : decode cX4_get 26 = .ok (.iaload, 1) := by decide +kernel
theorem dX4_get_27 : decode cX4_get 27 = .ok (.iconst 1, 1) := by decide +kernel
theorem dX4_get_28 : decode cX4_get 28 = .ok (.isub, 1) := by decide +kernel
theorem dX4_get_29 : decode cX4_get 29 = .ok (.goto 4, 3) := by decide +kernel
theorem dX4_get_32 : decode cX4_get 32 = .ok (.iconst 0, 1) := by decide +kernel
theorem dX4_get_33 : decode cX4_get 33 = .ok (.ireturn, 1) := by decide +kernel
theorem dX4_root_0 : decode cX4_root 0 = .ok (.aload_n 0, 1) := by decide +kernel
theorem dX4_root_1 : decode cX4_root 1 = .ok (.iload_n 1, 1) := by decide +kernel
theorem dX4_root_2 : decode cX4_root 2 = .ok (.ifCond .lt 26, 3) := by decide +kernel
theorem dX4_root_5 : decode cX4_root 5 = .ok (.iload_n 1, 1) := by decide +kernel
theorem dX4_root_6 : decode cX4_root 6 = .ok (.bipush 15, 2) := by decide +kernel
theorem dX4_root_8 : decode cX4_root 8 = .ok (.if_icmp .gt 20, 3) := by decide +kernel
theorem dX4_root_11 : decode cX4_root 11 = .ok (.iload_n 2, 1) := by decide +kernel
theorem dX4_root_12 : decode cX4_root 12 = .ok (.iconst (-1), 1) := by decide +kernel
theorem dX4_root_13 : decode cX4_root 13 = .ok (.if_icmp .eq 11, 3) := by decide +kernel
theorem dX4_root_16 : decode cX4_root 16 = .ok (.aload_n 0, 1) := by decide +kernel
theorem dX4_root_17 : decode cX4_root 17 = .ok (.iload_n 2, 1) := by decide +kernel
theorem dX4_root_18 : decode cX4_root 18 = .ok (.invokevirtual 36, 3) := by decide +kernel
theorem dX4_root_21 : decode cX4_root 21 = .ok (.ifCond .eq 7, 3) := by decide +kernel
theorem dX4_root_24 : decode cX4_root 24 = .ok (.iconst 1, 1) := by decide +kernel
theorem dX4_root_25 : decode cX4_root 25 = .ok (.goto 4, 3) := by decide +kernel
theorem dX4_root_28 : decode cX4_root 28 = .ok (.iconst 0, 1) := by decide +kernel
theorem dX4_root_29 : decode cX4_root 29 = .ok (.iconst 1, 1) := by decide +kernel
theorem dX4_root_30 : decode cX4_root 30 = .ok (.invokevirtual 47, 3) := by decide +kernel
theorem dX4_root_33 : decode cX4_root 33 = .ok (.ifCond .ne 5, 3) := by decide +kernel
theorem dX4_root_36 : decode cX4_root 36 = .ok (.iconst 0, 1) := by decide +kernel
theorem dX4_root_37 : decode cX4_root 37 = .ok (.ireturn, 1) := by decide +kernel
theorem dX4_root_38 : decode cX4_root 38 = .ok (.aload_n 0, 1) := by decide +kernel
theorem dX4_root_39 : decode cX4_root 39 = .ok (.getfield 16, 3) := by decide +kernel
theorem dX4_root_42 : decode cX4_root 42 = .ok (.iload_n 1, 1) := by decide +kernel
theorem dX4_root_43 : decode cX4_root 43 = .ok (.iaload, 1) := by decide +kernel
theorem dX4_root_44 : decode cX4_root 44 = .ok (.iconst 1, 1) := by decide +kernel
theorem dX4_root_45 : decode cX4_root 45 = .ok (.isub, 1) := by decide +kernel
theorem dX4_root_46 : decode cX4_root 46 = .ok (.istore_n 3, 1) := by decide +kernel
theorem dX4_root_47 : decode cX4_root 47 = .ok (.aload_n 0, 1) := by decide +kernel
theorem dX4_root_48 : decode cX4_root 48 = .ok (.getfield 16, 3) := by decide +kernel
theorem dX4_root_51 : decode cX4_root 51 = .ok (.iload_n 1, 1) := by decide +kernel
theorem dX4_root_52 : decode cX4_root 52 = .ok (.iload_n 2, 1) := by decide +kernel
theorem dX4_root_53 : decode cX4_root 53 = .ok (.iconst 1, 1) := by decide +kernel
theorem dX4_root_54 : decode cX4_root 54 = .ok (.iadd, 1) := by decide +kernel
theorem dX4_root_55 : decode cX4_root 55 = .ok (.iastore, 1) := by decide +kernel
theorem dX4_root_56 : decode cX4_root 56 = .ok (.aload_n 0, 1) := by decide +kernel
theorem dX4_root_57 : decode cX4_root 57 = .ok (.invokevirtual 54, 3) := by decide +kernel
theorem dX4_root_60 : decode cX4_root 60 = .ok (.iload_n 3, 1) := by decide +kernel
theorem dX4_root_61 : decode cX4_root 61 = .ok (.ireturn, 1) := by decide +kernel
theorem dX4_pile_0 : decode cX4_pile 0 = .ok (.aload_n 0, 1) := by decide +kernel
theorem dX4_pile_1 : decode cX4_pile 1 = .ok (.iload_n 1, 1) := by decide +kernel
theorem dX4_pile_2 : decode cX4_pile 2 = .ok (.iconst 1, 1) := by decide +kernel
theorem dX4_pile_3 : decode cX4_pile 3 = .ok (.if_icmp .lt 13, 3) := by decide +kernel
theorem dX4_pile_6 : decode cX4_pile 6 = .ok (.iload_n 1, 1) := by decide +kernel
theorem dX4_pile_7 : decode cX4_pile 7 = .ok (.bipush 64, 2) := by decide +kernel
theorem dX4_pile_9 : decode cX4_pile 9 = .ok (.if_icmp .gt 7, 3) := by decide +kernel
theorem dX4_pile_12 : decode cX4_pile 12 = .ok (.iconst 1, 1) := by decide +kernel
theorem dX4_pile_13 : decode cX4_pile 13 = .ok (.goto 4, 3) := by decide +kernel
theorem dX4_pile_16 : decode cX4_pile 16 = .ok (.iconst 0, 1) := by decide +kernel
theorem dX4_pile_17 : decode cX4_pile 17 = .ok (.aload_n 0, 1) := by decide +kernel
theorem dX4_pile_18 : decode cX4_pile 18 = .ok (.getfield 61, 3) := by decide +kernel
theorem dX4_pile_21 : decode cX4_pile 21 = .ok (.ifCond .ne 7, 3) := by decide +kernel
theorem dX4_pile_24 : decode cX4_pile 24 = .ok (.iconst 1, 1) := by decide +kernel
theorem dX4_pile_25 : decode cX4_pile 25 = .ok (.goto 4, 3) := by decide +kernel
theorem dX4_pile_28 : decode cX4_pile 28 = .ok (.iconst 0, 1) := by decide +kernel
theorem dX4_pile_29 : decode cX4_pile 29 = .ok (.invokevirtual 47, 3) := by decide +kernel
theorem dX4_pile_32 : decode cX4_pile 32 = .ok (.ifCond .ne 5, 3) := by decide +kernel
theorem dX4_pile_35 : decode cX4_pile 35 = .ok (.iconst 0, 1) := by decide +kernel
theorem dX4_pile_36 : decode cX4_pile 36 = .ok (.ireturn, 1) := by decide +kernel
theorem dX4_pile_37 : decode cX4_pile 37 = .ok (.aload_n 0, 1) := by decide +kernel
theorem dX4_pile_38 : decode cX4_pile 38 = .ok (.getfield 26, 3) := by decide +kernel
theorem dX4_pile_41 : decode cX4_pile 41 = .ok (.istore_n 2, 1) := by decide +kernel
theorem dX4_pile_42 : decode cX4_pile 42 = .ok (.aload_n 0, 1) := by decide +kernel
theorem dX4_pile_43 : decode cX4_pile 43 = .ok (.iload_n 1, 1) := by decide +kernel
theorem dX4_pile_44 : decode cX4_pile 44 = .ok (.putfield 26, 3) := by decide +kernel
theorem dX4_pile_47 : decode cX4_pile 47 = .ok (.iload_n 2, 1) := by decide +kernel
theorem dX4_pile_48 : decode cX4_pile 48 = .ok (.ireturn, 1) := by decide +kernel
theorem dX4_begin_0 : decode cX4_begin 0 = .ok (.aload_n 0, 1) := by decide +kernel
theorem dX4_begin_1 : decode cX4_begin 1 = .ok (.aload_n 0, 1) := by decide +kernel
theorem dX4_begin_2 : decode cX4_begin 2 = .ok (.getfield 61, 3) := by decide +kernel
theorem dX4_begin_5 : decode cX4_begin 5 = .ok (.ifCond .ne 7, 3) := by decide +kernel
theorem dX4_begin_8 : decode cX4_begin 8 = .ok (.iconst 1, 1) := by decide +kernel
theorem dX4_begin_9 : decode cX4_begin 9 = .ok (.goto 4, 3) := by decide +kernel
theorem dX4_begin_12 : decode cX4_begin 12 = .ok (.iconst 0, 1) := by decide +kernel
theorem dX4_begin_13 : decode cX4_begin 13 = .ok (.iconst 1, 1) := by decide +kernel
theorem dX4_begin_14 : decode cX4_begin 14 = .ok (.invokevirtual 47, 3) := by decide +kernel
theorem dX4_begin_17 : decode cX4_begin 17 = .ok (.ifCond .eq 13, 3) := by decide +kernel
theorem dX4_begin_20 : decode cX4_begin 20 = .ok (.aload_n 0, 1) := by decide +kernel
theorem dX4_begin_21 : decode cX4_begin 21 = .ok (.iconst 1, 1) := by decide +kernel
theorem dX4_begin_22 : decode cX4_begin 22 = .ok (.putfield 61, 3) := by decide +kernel
theorem dX4_begin_25 : decode cX4_begin 25 = .ok (.aload_n 0, 1) := by decide +kernel
theorem dX4_begin_26 : decode cX4_begin 26 = .ok (.iconst 1, 1) := by decide +kernel
theorem dX4_begin_27 : decode cX4_begin 27 = .ok (.putfield 40, 3) := by decide +kernel
theorem dX4_begin_30 : decode cX4_begin 30 = .ok (.return_, 1) := by decide +kernel
theorem dX4_mark_0 : decode cX4_mark 0 = .ok (.aload_n 0, 1) := by decide +kernel
theorem dX4_mark_1 : decode cX4_mark 1 = .ok (.iload_n 1, 1) := by decide +kernel
theorem dX4_mark_2 : decode cX4_mark 2 = .ok (.ifCond .lt 14, 3) := by decide +kernel
theorem dX4_mark_5 : decode cX4_mark 5 = .ok (.iload_n 1, 1) := by decide +kernel
theorem dX4_mark_6 : decode cX4_mark 6 = .ok (.sipush 5000, 3) := by decide +kernel
theorem dX4_mark_9 : decode cX4_mark 9 = .ok (.if_icmp .gt 7, 3) := by decide +kernel
theorem dX4_mark_12 : decode cX4_mark 12 = .ok (.iconst 0, 1) := by decide +kernel
theorem dX4_mark_13 : decode cX4_mark 13 = .ok (.goto 4, 3) := by decide +kernel
theorem dX4_mark_16 : decode cX4_mark 16 = .ok (.iconst 1, 1) := by decide +kernel
theorem dX4_mark_17 : decode cX4_mark 17 = .ok (.putfield 30, 3) := by decide +kernel
theorem dX4_mark_20 : decode cX4_mark 20 = .ok (.return_, 1) := by decide +kernel
theorem dX4_preclean_0 : decode cX4_preclean 0 = .ok (.aload_n 0, 1) := by decide +kernel
