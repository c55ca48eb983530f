theorem dX3_init_0 : decode cX3_init 0 = .ok (.aload_n 0, 1) := by decide +kernel
theorem dX3_init_1 : decode cX3_init 1 = .ok (.invokespecial 1, 3) := by decide +kernel
theorem dX3_init_4 : decode cX3_init 4 = .ok (.aload_n 0, 1) := by decide +kernel
theorem dX3_init_5 : decode cX3_init 5 = .ok (.new 7, 3) := by decide +kernel
theorem dX3_init_8 : decode cX3_init 8 = .ok (.dup, 1) := by decide +kernel
theorem dX3_init_9 : decode cX3_init 9 = .ok (.invokespecial 9, 3) := by decide +kernel
theorem dX3_init_12 : decode cX3_init 12 = .ok (.putfield 10, 3) := by decide +kernel
theorem dX3_init_15 : decode cX3_init 15 = .ok (.aload_n 0, 1) := by decide +kernel
theorem dX3_init_16 : decode cX3_init 16 = .ok (.new 16, 3) := by decide +kernel
theorem dX3_init_19 : decode cX3_init 19 = .ok (.dup, 1) := by decide +kernel
theorem dX3_init_20 : decode cX3_init 20 = .ok (.aload_n 0, 1) := by decide +kernel
theorem dX3_init_21 : decode cX3_init 21 = .ok (.getfield 10, 3) := by decide +kernel
theorem dX3_init_24 : decode cX3_init 24 = .ok (.invokespecial 18, 3) := by decide +kernel
theorem dX3_init_27 : decode cX3_init 27 = .ok (.putfield 21, 3) := by decide +kernel
theorem dX3_init_30 : decode cX3_init 30 = .ok (.aload_n 0, 1) := by decide +kernel
theorem dX3_init_31 : decode cX3_init 31 = .ok (.new 25, 3) := by decide +kernel
theorem dX3_init_34 : decode cX3_init 34 = .ok (.dup, 1) := by decide +kernel
theorem dX3_init_35 : decode cX3_init 35 = .ok (.aload_n 0, 1) := by decide +kernel
theorem dX3_init_36 : decode cX3_init 36 = .ok (.getfield 10, 3) := by decide +kernel
theorem dX3_init_39 : decode cX3_init 39 = .ok (.invokespecial 27, 3) := by decide +kernel
theorem dX3_init_42 : decode cX3_init 42 = .ok (.putfield 28, 3) := by decide +kernel
theorem dX3_init_45 : decode cX3_init 45 = .ok (.aload_n 0, 1) := by decide +kernel
theorem dX3_init_46 : decode cX3_init 46 = .ok (.iconst 0, 1) := by decide +kernel
theorem dX3_init_47 : decode cX3_init 47 = .ok (.putfield 32, 3) := by decide +kernel
theorem dX3_init_50 : decode cX3_init 50 = .ok (.aload_n 0, 1) := by decide +kernel
theorem dX3_init_51 : decode cX3_init 51 = .ok (.iconst 0, 1) := by decide +kernel
theorem dX3_init_52 : decode cX3_init 52 = .ok (.putfield 36, 3) := by decide +kernel
theorem dX3_init_55 : decode cX3_init 55 = .ok (.aload_n 0, 1) := by decide +kernel
theorem dX3_init_56 : decode cX3_init 56 = .ok (.iconst 0, 1) := by decide +kernel
theorem dX3_init_57 : decode cX3_init 57 = .ok (.putfield 39, 3) := by decide +kernel
theorem dX3_init_60 : decode cX3_init 60 = .ok (.aload_n 0, 1) := by decide +kernel
theorem dX3_init_61 : decode cX3_init 61 = .ok (.iconst 0, 1) := by decide +kernel
theorem dX3_init_62 : decode cX3_init 62 = .ok (.putfield 42, 3) := by decide +kernel
theorem dX3_init_65 : decode cX3_init 65 = .ok (.aload_n 0, 1) := by decide +kernel
theorem dX3_init_66 : decode cX3_init 66 = .ok (.iconst 0, 1) := by decide +kernel
theorem dX3_init_67 : decode cX3_init 67 = .ok (.putfield 46, 3) := by decide +kernel
theorem dX3_init_70 : decode cX3_init 70 = .ok (.return_, 1) := by decide +kernel
theorem dX3_make_0 : decode cX3_make 0 = .ok (.iload_n 1, 1) := by decide +kernel
theorem dX3_make_1 : decode cX3_make 1 = .ok (.ifCond .lt 9, 3) := by decide +kernel
theorem dX3_make_4 : decode cX3_make 4 = .ok (.iload_n 1, 1) := by decide +kernel
theorem dX3_make_5 : decode cX3_make 5 = .ok (.bipush 20, 2) := by decide +kernel
theorem dX3_make_7 : decode cX3_make 7 = .ok (.if_icmp .le 13, 3) := by decide +kernel
theorem dX3_make_10 : decode cX3_make 10 = .ok (.new 49, 3) := by decide +kernel
theorem dX3_make_13 : decode cX3_make 13 = .ok (.dup, 1) := by decide +kernel
theorem dX3_make_14 : decode cX3_make 14 = .ok (.ldc 51, 2) := by decide +kernel
theorem dX3_make_16 : decode cX3_make 16 = .ok (.invokespecial 53, 3) := by decide +kernel
theorem dX3_make_19 : decode cX3_make 19 = .ok (.athrow, 1) := by decide +kernel
theorem dX3_make_20 : decode cX3_make 20 = .ok (.aload_n 0, 1) := by decide +kernel
theorem dX3_make_21 : decode cX3_make 21 = .ok (.getfield 10, 3) := by decide +kernel
theorem dX3_make_24 : decode cX3_make 24 = .ok (.invokevirtual 56, 3) := by decide +kernel
theorem dX3_make_27 : decode cX3_make 27 = .ok (.ifCond .eq 13, 3) := by decide +kernel
theorem dX3_make_30 : decode cX3_make 30 = .ok (.new 60, 3) := by decide +kernel
theorem dX3_make_33 : decode cX3_make 33 = .ok (.dup, 1) := by decide +kernel
theorem dX3_make_34 : decode cX3_make 34 = .ok (.ldc 62, 2) := by decide +kernel
theorem dX3_make_36 : decode cX3_make 36 = .ok (.invokespecial 64, 3) := by decide +kernel
theorem dX3_make_39 : decode cX3_make 39 = .ok (.athrow, 1) := by decide +kernel
theorem dX3_make_40 : decode cX3_make 40 = .ok (.aload_n 0, 1) := by decide +kernel
theorem dX3_make_41 : decode cX3_make 41 = .ok (.iconst 1, 1) := by decide +kernel
theorem dX3_make_42 : decode cX3_make 42 = .ok (.putfield 36, 3) := by decide +kernel
theorem dX3_make_45 : decode cX3_make 45 = .ok (.aload_n 0, 1) := by decide +kernel
theorem dX3_make_46 : decode cX3_make 46 = .ok (.getfield 10, 3) := by decide +kernel
theorem dX3_make_49 : decode cX3_make 49 = .ok (.iload_n 1, 1) := by decide +kernel
theorem dX3_make_50 : decode cX3_make 50 = .ok (.invokevirtual 65, 3) := by decide +kernel
theorem dX3_make_53 : decode cX3_make 53 = .ok (.ireturn, 1) := by decide +kernel
theorem dX3_set_0 : decode cX3_set 0 = .ok (.aload_n 0, 1) := by decide +kernel
theorem dX3_set_1 : decode cX3_set 1 = .ok (.getfield 10, 3) := by decide +kernel
theorem dX3_set_4 : decode cX3_set 4 = .ok (.iload_n 1, 1) := by decide +kernel
theorem dX3_set_5 : decode cX3_set 5 = .ok (.iload_n 2, 1) := by decide +kernel
theorem dX3_set_6 : decode cX3_set 6 = .ok (.invokevirtual 69, 3) := by decide +kernel
theorem dX3_set_9 : decode cX3_set 9 = .ok (.ifCond .ne 13, 3) := by decide +kernel
theorem dX3_set_12 : decode cX3_set 12 = .ok (.new 73, 3) := by decide +kernel
theorem dX3_set_15 : decode cX3_set 15 = .ok (.dup, 1) := by decide +kernel
theorem dX3_set_16 : decode cX3_set 16 = .ok (.ldc 75, 2) := by decide +kernel
theorem dX3_set_18 : decode cX3_set 18 = .ok (.invokespecial 77, 3) := by decide +kernel
theorem dX3_set_21 : decode cX3_set 21 = .ok (.athrow, 1) := by decide +kernel
theorem dX3_set_22 : decode cX3_set 22 = .ok (.aload_n 0, 1) := by decide +kernel
theorem dX3_set_23 : decode cX3_set 23 = .ok (.getfield 10, 3) := by decide +kernel
theorem dX3_set_26 : decode cX3_set 26 = .ok (.iload_n 3, 1) := by decide +kernel
theorem dX3_set_27 : decode cX3_set 27 = .ok (.invokevirtual 78, 3) := by decide +kernel
theorem dX3_set_30 : decode cX3_set 30 = .ok (.ifCond .ne 13, 3) := by decide +kernel
theorem dX3_set_33 : decode cX3_set 33 = .ok (.new 73, 3) := by decide +kernel
theorem dX3_set_36 : decode cX3_set 36 = .ok (.dup, 1) := by decide +kernel
theorem dX3_set_37 : decode cX3_set 37 = .ok (.ldc 82, 2) := by decide +kernel
theorem dX3_set_39 : decode cX3_set 39 = .ok (.invokespecial 77, 3) := by decide +kernel
theorem dX3_set_42 : decode cX3_set 42 = .ok (.athrow, 1) := by decide +kernel
theorem dX3_set_43 : decode cX3_set 43 = .ok (.aload_n 0, 1) := by decide +kernel
theorem dX3_set_44 : decode cX3_set 44 = .ok (.iconst 1, 1) := by decide +kernel
theorem dX3_set_45 : decode cX3_set 45 = .ok (.putfield 36, 3) := by decide +kernel
theorem dX3_set_48 : decode cX3_set 48 = .ok (.aload_n 0, 1) := by decide +kernel
theorem dX3_set_49 : decode cX3_set 49 = .ok (.getfield 32, 3) := by decide +kernel
theorem dX3_set_52 : decode cX3_set 52 = .ok (.ifCond .eq 11, 3) := by decide +kernel
theorem dX3_set_55 : decode cX3_set 55 = .ok (.aload_n 0, 1) := by decide +kernel
theorem dX3_set_56 : decode cX3_set 56 = .ok (.getfield 21, 3) := by decide +kernel
theorem dX3_set_59 : decode cX3_set 59 = .ok (.iload_n 1, 1) := by decide +kernel
theorem dX3_set_60 : decode cX3_set 60 = .ok (.invokevirtual 84, 3) := by decide +kernel
theorem dX3_set_63 : decode cX3_set 63 = .ok (.aload_n 0, 1) := by decide +kernel
theorem dX3_set_64 : decode cX3_set 64 = .ok (.getfield 10, 3) := by decide +kernel
theorem dX3_set_67 : decode cX3_set 67 = .ok (.iload_n 1, 1) := by decide +kernel
theorem dX3_set_68 : decode cX3_set 68 = .ok (.iload_n 2, 1) := by decide +kernel
theorem dX3_set_69 : decode cX3_set 69 = .ok (.iload_n 3, 1) := by decide +kernel
theorem dX3_set_70 : decode cX3_set 70 = .ok (.invokevirtual 88, 3) := by decide +kernel
theorem dX3_set_73 : decode cX3_set 73 = .ok (.ireturn, 1) := by decide +kernel
theorem dX3_get_0 : decode cX3_get 0 = .ok (.aload_n 0, 1) := by decide +kernel
theorem dX3_get_1 : decode cX3_get 1 = .ok (.getfield 10, 3) := by decide +kernel
theorem dX3_get_4 : decode cX3_get 4 = .ok (.iload_n 1, 1) := by decide +kernel
theorem dX3_get_5 : decode cX3_get 5 = .ok (.iload_n 2, 1) := by decide +kernel
theorem dX3_get_6 : decode cX3_get 6 = .ok (.invokevirtual 69, 3) := by decide +kernel
theorem dX3_get_9 : decode cX3_get 9 = .ok (.ifCond .ne 13, 3) := by decide +kernel
theorem dX3_get_12 : decode cX3_get 12 = .ok (.new 73, 3) := by decide +kernel
theorem dX3_get_15 : decode cX3_get 15 = .ok (.dup, 1) := by decide +kernel
theorem dX3_get_16 : decode cX3_get 16 = .ok (.ldc 75, 2) := by decide +kernel
theorem dX3_get_18 : decode cX3_get 18 = .ok (.invokespecial 77, 3) := by decide +kernel
theorem dX3_get_21 : decode cX3_get 21 = .ok (.athrow, 1) := by decide +kernel
theorem dX3_get_22 : decode cX3_get 22 = .ok (.aload_n 0, 1) := by decide +kernel
theorem dX3_get_23 : decode cX3_get 23 = .ok (.getfield 10, 3) := by decide +kernel
theorem dX3_get_26 : decode cX3_get 26 = .ok (.iload_n 1, 1) := by decide +kernel
theorem dX3_get_27 : decode cX3_get 27 = .ok (.iload_n 2, 1) := by decide +kernel
theorem dX3_get_28 : decode cX3_get 28 = .ok (.invokevirtual 92, 3) := by decide +kernel
theorem dX3_get_31 : decode cX3_get 31 = .ok (.ireturn, 1) := by decide +kernel
theorem dX3_root_0 : decode cX3_root 0 = .ok (.aload_n 0, 1) := by decide +kernel
theorem dX3_root_1 : decode cX3_root 1 = .ok (.getfield 10, 3) := by decide +kernel
theorem dX3_root_4 : decode cX3_root 4 = .ok (.iload_n 1, 1) := by decide +kernel
theorem dX3_root_5 : decode cX3_root 5 = .ok (.invokevirtual 96, 3) := by decide +kernel
theorem dX3_root_8 : decode cX3_root 8 = .ok (.ifCond .ne 13, 3) := by decide +kernel
theorem dX3_root_11 : decode cX3_root 11 = .ok (.new 73, 3) := by decide +kernel
theorem dX3_root_14 : decode cX3_root 14 = .ok (.dup, 1) := by decide +kernel
theorem dX3_root_15 : decode cX3_root 15 = .ok (.ldc 99, 2) := by decide +kernel
theorem dX3_root_17 : decode cX3_root 17 = .ok (.invokespecial 77, 3) := by decide +kernel
theorem dX3_root_20 : decode cX3_root 20 = .ok (.athrow, 1) := by decide +kernel
theorem dX3_root_21 : decode cX3_root 21 = .ok (.aload_n 0, 1) := by decide +kernel
theorem dX3_root_22 : decode cX3_root 22 = .ok (.getfield 10, 3) := by decide +kernel
theorem dX3_root_25 : decode cX3_root 25 = .ok (.iload_n 2, 1) := by decide +kernel
theorem dX3_root_26 : decode cX3_root 26 = .ok (.invokevirtual 78, 3) := by decide +kernel
theorem dX3_root_29 : decode cX3_root 29 = .ok (.ifCond .ne 13, 3) := by decide +kernel
theorem dX3_root_32 : decode cX3_root 32 = .ok (.new 73, 3) := by decide +kernel
theorem dX3_root_35 : decode cX3_root 35 = .ok (.dup, 1) := by decide +kernel
theorem dX3_root_36 : decode cX3_root 36 = .ok (.ldc 101, 2) := by decide +kernel
theorem dX3_root_38 : decode cX3_root 38 = .ok (.invokespecial 77, 3) := by decide +kernel
theorem dX3_root_41 : decode cX3_root 41 = .ok (.athrow, 1) := by decide +kernel
theorem dX3_root_42 : decode cX3_root 42 = .ok (.aload_n 0, 1) := by decide +kernel
theorem dX3_root_43 : decode cX3_root 43 = .ok (.iconst 1, 1) := by decide +kernel
theorem dX3_root_44 : decode cX3_root 44 = .ok (.putfield 36, 3) := by decide +kernel
theorem dX3_root_47 : decode cX3_root 47 = .ok (.aload_n 0, 1) := by decide +kernel
theorem dX3_root_48 : decode cX3_root 48 = .ok (.getfield 10, 3) := by decide +kernel
theorem dX3_root_51 : decode cX3_root 51 = .ok (.iload_n 1, 1) := by decide +kernel
theorem dX3_root_52 : decode cX3_root 52 = .ok (.iload_n 2, 1) := by decide +kernel
theorem dX3_root_53 : decode cX3_root 53 = .ok (.invokevirtual 103, 3) := by decide +kernel
theorem dX3_root_56 : decode cX3_root 56 = .ok (.ireturn, 1) := by decide +kernel
theorem dX3_pile_0 : decode cX3_pile 0 = .ok (.iload_n 1, 1) := by decide +kernel
theorem dX3_pile_1 : decode cX3_pile 1 = .ok (.iconst 1, 1) := by decide +kernel
