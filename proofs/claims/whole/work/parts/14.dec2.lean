theorem dX6_init_0 : decode cX6_init 0 = .ok (.aload_n 0, 1) := by decide +kernel
theorem dX6_init_1 : decode cX6_init 1 = .ok (.invokespecial 1, 3) := by decide +kernel
theorem dX6_init_4 : decode cX6_init 4 = .ok (.aload_n 0, 1) := by decide +kernel
theorem dX6_init_5 : decode cX6_init 5 = .ok (.new 7, 3) := by decide +kernel
theorem dX6_init_8 : decode cX6_init 8 = .ok (.dup, 1) := by decide +kernel
theorem dX6_init_9 : decode cX6_init 9 = .ok (.invokespecial 9, 3) := by decide +kernel
theorem dX6_init_12 : decode cX6_init 12 = .ok (.putfield 10, 3) := by decide +kernel
theorem dX6_init_15 : decode cX6_init 15 = .ok (.aload_n 0, 1) := by decide +kernel
theorem dX6_init_16 : decode cX6_init 16 = .ok (.new 16, 3) := by decide +kernel
theorem dX6_init_19 : decode cX6_init 19 = .ok (.dup, 1) := by decide +kernel
theorem dX6_init_20 : decode cX6_init 20 = .ok (.aload_n 0, 1) := by decide +kernel
theorem dX6_init_21 : decode cX6_init 21 = .ok (.getfield 10, 3) := by decide +kernel
theorem dX6_init_24 : decode cX6_init 24 = .ok (.invokespecial 18, 3) := by decide +kernel
theorem dX6_init_27 : decode cX6_init 27 = .ok (.putfield 21, 3) := by decide +kernel
theorem dX6_init_30 : decode cX6_init 30 = .ok (.aload_n 0, 1) := by decide +kernel
theorem dX6_init_31 : decode cX6_init 31 = .ok (.new 25, 3) := by decide +kernel
theorem dX6_init_34 : decode cX6_init 34 = .ok (.dup, 1) := by decide +kernel
theorem dX6_init_35 : decode cX6_init 35 = .ok (.invokespecial 27, 3) := by decide +kernel
theorem dX6_init_38 : decode cX6_init 38 = .ok (.putfield 28, 3) := by decide +kernel
theorem dX6_init_41 : decode cX6_init 41 = .ok (.aload_n 0, 1) := by decide +kernel
theorem dX6_init_42 : decode cX6_init 42 = .ok (.getfield 28, 3) := by decide +kernel
theorem dX6_init_45 : decode cX6_init 45 = .ok (.iconst 0, 1) := by decide +kernel
theorem dX6_init_46 : decode cX6_init 46 = .ok (.iconst 0, 1) := by decide +kernel
theorem dX6_init_47 : decode cX6_init 47 = .ok (.lconst 1, 1) := by decide +kernel
theorem dX6_init_48 : decode cX6_init 48 = .ok (.invokevirtual 32, 3) := by decide +kernel
theorem dX6_init_51 : decode cX6_init 51 = .ok (.aload_n 0, 1) := by decide +kernel
theorem dX6_init_52 : decode cX6_init 52 = .ok (.new 36, 3) := by decide +kernel
theorem dX6_init_55 : decode cX6_init 55 = .ok (.dup, 1) := by decide +kernel
theorem dX6_init_56 : decode cX6_init 56 = .ok (.aload_n 0, 1) := by decide +kernel
theorem dX6_init_57 : decode cX6_init 57 = .ok (.getfield 28, 3) := by decide +kernel
theorem dX6_init_60 : decode cX6_init 60 = .ok (.invokespecial 38, 3) := by decide +kernel
theorem dX6_init_63 : decode cX6_init 63 = .ok (.putfield 41, 3) := by decide +kernel
theorem dX6_init_66 : decode cX6_init 66 = .ok (.aload_n 0, 1) := by decide +kernel
theorem dX6_init_67 : decode cX6_init 67 = .ok (.new 45, 3) := by decide +kernel
theorem dX6_init_70 : decode cX6_init 70 = .ok (.dup, 1) := by decide +kernel
theorem dX6_init_71 : decode cX6_init 71 = .ok (.aload_n 0, 1) := by decide +kernel
theorem dX6_init_72 : decode cX6_init 72 = .ok (.getfield 10, 3) := by decide +kernel
theorem dX6_init_75 : decode cX6_init 75 = .ok (.aload_n 0, 1) := by decide +kernel
theorem dX6_init_76 : decode cX6_init 76 = .ok (.getfield 21, 3) := by decide +kernel
theorem dX6_init_79 : decode cX6_init 79 = .ok (.invokespecial 47, 3) := by decide +kernel
theorem dX6_init_82 : decode cX6_init 82 = .ok (.putfield 50, 3) := by decide +kernel
theorem dX6_init_85 : decode cX6_init 85 = .ok (.aload_n 0, 1) := by decide +kernel
theorem dX6_init_86 : decode cX6_init 86 = .ok (.new 54, 3) := by decide +kernel
theorem dX6_init_89 : decode cX6_init 89 = .ok (.dup, 1) := by decide +kernel
theorem dX6_init_90 : decode cX6_init 90 = .ok (.aload_n 0, 1) := by decide +kernel
theorem dX6_init_91 : decode cX6_init 91 = .ok (.getfield 10, 3) := by decide +kernel
theorem dX6_init_94 : decode cX6_init 94 = .ok (.aload_n 0, 1) := by decide +kernel
theorem dX6_init_95 : decode cX6_init 95 = .ok (.getfield 21, 3) := by decide +kernel
theorem dX6_init_98 : decode cX6_init 98 = .ok (.aload_n 0, 1) := by decide +kernel
theorem dX6_init_99 : decode cX6_init 99 = .ok (.getfield 41, 3) := by decide +kernel
theorem dX6_init_102 : decode cX6_init 102 = .ok (.invokespecial 56, 3) := by decide +kernel
theorem dX6_init_105 : decode cX6_init 105 = .ok (.putfield 59, 3) := by decide +kernel
theorem dX6_init_108 : decode cX6_init 108 = .ok (.return_, 1) := by decide +kernel
theorem dX6_point_0 : decode cX6_point 0 = .ok (.iload_n 1, 1) := by decide +kernel
theorem dX6_point_1 : decode cX6_point 1 = .ok (.iload_n 2, 1) := by decide +kernel
theorem dX6_point_2 : decode cX6_point 2 = .ok (.invokestatic 63, 3) := by decide +kernel
theorem dX6_point_5 : decode cX6_point 5 = .ok (.ifCond .eq 10, 3) := by decide +kernel
theorem dX6_point_8 : decode cX6_point 8 = .ok (.iload_n 3, 1) := by decide +kernel
theorem dX6_point_9 : decode cX6_point 9 = .ok (.invokestatic 67, 3) := by decide +kernel
theorem dX6_point_12 : decode cX6_point 12 = .ok (.ifCond .ne 6, 3) := by decide +kernel
theorem dX6_point_15 : decode cX6_point 15 = .ok (.bipush (-2), 2) := by decide +kernel
theorem dX6_point_17 : decode cX6_point 17 = .ok (.ireturn, 1) := by decide +kernel
theorem dX6_point_18 : decode cX6_point 18 = .ok (.aload_n 0, 1) := by decide +kernel
theorem dX6_point_19 : decode cX6_point 19 = .ok (.getfield 10, 3) := by decide +kernel
theorem dX6_point_22 : decode cX6_point 22 = .ok (.invokevirtual 71, 3) := by decide +kernel
theorem dX6_point_25 : decode cX6_point 25 = .ok (.istore 4, 2) := by decide +kernel
theorem dX6_point_27 : decode cX6_point 27 = .ok (.iload 4, 2) := by decide +kernel
theorem dX6_point_29 : decode cX6_point 29 = .ok (.iconst (-1), 1) := by decide +kernel
theorem dX6_point_30 : decode cX6_point 30 = .ok (.if_icmp .ne 6, 3) := by decide +kernel
theorem dX6_point_33 : decode cX6_point 33 = .ok (.bipush (-4), 2) := by decide +kernel
theorem dX6_point_35 : decode cX6_point 35 = .ok (.ireturn, 1) := by decide +kernel
theorem dX6_point_36 : decode cX6_point 36 = .ok (.aload_n 0, 1) := by decide +kernel
theorem dX6_point_37 : decode cX6_point 37 = .ok (.getfield 10, 3) := by decide +kernel
theorem dX6_point_40 : decode cX6_point 40 = .ok (.iload 4, 2) := by decide +kernel
theorem dX6_point_42 : decode cX6_point 42 = .ok (.iload_n 1, 1) := by decide +kernel
theorem dX6_point_43 : decode cX6_point 43 = .ok (.iload_n 2, 1) := by decide +kernel
theorem dX6_point_44 : decode cX6_point 44 = .ok (.iload_n 3, 1) := by decide +kernel
theorem dX6_point_45 : decode cX6_point 45 = .ok (.invokevirtual 75, 3) := by decide +kernel
theorem dX6_point_48 : decode cX6_point 48 = .ok (.aload_n 0, 1) := by decide +kernel
theorem dX6_point_49 : decode cX6_point 49 = .ok (.getfield 21, 3) := by decide +kernel
theorem dX6_point_52 : decode cX6_point 52 = .ok (.iload_n 1, 1) := by decide +kernel
theorem dX6_point_53 : decode cX6_point 53 = .ok (.iload_n 2, 1) := by decide +kernel
theorem dX6_point_54 : decode cX6_point 54 = .ok (.invokevirtual 79, 3) := by decide +kernel
theorem dX6_point_57 : decode cX6_point 57 = .ok (.iload 4, 2) := by decide +kernel
theorem dX6_point_59 : decode cX6_point 59 = .ok (.ireturn, 1) := by decide +kernel
theorem dX6_take_0 : decode cX6_take 0 = .ok (.aload_n 0, 1) := by decide +kernel
theorem dX6_take_1 : decode cX6_take 1 = .ok (.getfield 10, 3) := by decide +kernel
theorem dX6_take_4 : decode cX6_take 4 = .ok (.iload_n 1, 1) := by decide +kernel
theorem dX6_take_5 : decode cX6_take 5 = .ok (.invokevirtual 83, 3) := by decide +kernel
theorem dX6_take_8 : decode cX6_take 8 = .ok (.ifCond .ne 6, 3) := by decide +kernel
theorem dX6_take_11 : decode cX6_take 11 = .ok (.bipush (-2), 2) := by decide +kernel
theorem dX6_take_13 : decode cX6_take 13 = .ok (.ireturn, 1) := by decide +kernel
theorem dX6_take_14 : decode cX6_take 14 = .ok (.aload_n 0, 1) := by decide +kernel
theorem dX6_take_15 : decode cX6_take 15 = .ok (.getfield 21, 3) := by decide +kernel
theorem dX6_take_18 : decode cX6_take 18 = .ok (.aload_n 0, 1) := by decide +kernel
theorem dX6_take_19 : decode cX6_take 19 = .ok (.getfield 10, 3) := by decide +kernel
theorem dX6_take_22 : decode cX6_take 22 = .ok (.getfield 86, 3) := by decide +kernel
theorem dX6_take_25 : decode cX6_take 25 = .ok (.iload_n 1, 1) := by decide +kernel
theorem dX6_take_26 : decode cX6_take 26 = .ok (.iaload, 1) := by decide +kernel
theorem dX6_take_27 : decode cX6_take 27 = .ok (.aload_n 0, 1) := by decide +kernel
theorem dX6_take_28 : decode cX6_take 28 = .ok (.getfield 10, 3) := by decide +kernel
theorem dX6_take_31 : decode cX6_take 31 = .ok (.getfield 90, 3) := by decide +kernel
theorem dX6_take_34 : decode cX6_take 34 = .ok (.iload_n 1, 1) := by decide +kernel
theorem dX6_take_35 : decode cX6_take 35 = .ok (.iaload, 1) := by decide +kernel
theorem dX6_take_36 : decode cX6_take 36 = .ok (.invokevirtual 93, 3) := by decide +kernel
theorem dX6_take_39 : decode cX6_take 39 = .ok (.aload_n 0, 1) := by decide +kernel
theorem dX6_take_40 : decode cX6_take 40 = .ok (.getfield 10, 3) := by decide +kernel
theorem dX6_take_43 : decode cX6_take 43 = .ok (.iload_n 1, 1) := by decide +kernel
theorem dX6_take_44 : decode cX6_take 44 = .ok (.invokevirtual 96, 3) := by decide +kernel
theorem dX6_take_47 : decode cX6_take 47 = .ok (.aload_n 0, 1) := by decide +kernel
theorem dX6_take_48 : decode cX6_take 48 = .ok (.getfield 10, 3) := by decide +kernel
theorem dX6_take_51 : decode cX6_take 51 = .ok (.getfield 100, 3) := by decide +kernel
theorem dX6_take_54 : decode cX6_take 54 = .ok (.ireturn, 1) := by decide +kernel
theorem dX6_move_0 : decode cX6_move 0 = .ok (.aload_n 0, 1) := by decide +kernel
theorem dX6_move_1 : decode cX6_move 1 = .ok (.getfield 10, 3) := by decide +kernel
theorem dX6_move_4 : decode cX6_move 4 = .ok (.iload_n 1, 1) := by decide +kernel
theorem dX6_move_5 : decode cX6_move 5 = .ok (.invokevirtual 83, 3) := by decide +kernel
theorem dX6_move_8 : decode cX6_move 8 = .ok (.ifCond .eq 11, 3) := by decide +kernel
theorem dX6_move_11 : decode cX6_move 11 = .ok (.iload_n 2, 1) := by decide +kernel
theorem dX6_move_12 : decode cX6_move 12 = .ok (.iload_n 3, 1) := by decide +kernel
theorem dX6_move_13 : decode cX6_move 13 = .ok (.invokestatic 63, 3) := by decide +kernel
theorem dX6_move_16 : decode cX6_move 16 = .ok (.ifCond .ne 6, 3) := by decide +kernel
theorem dX6_move_19 : decode cX6_move 19 = .ok (.bipush (-2), 2) := by decide +kernel
theorem dX6_move_21 : decode cX6_move 21 = .ok (.ireturn, 1) := by decide +kernel
theorem dX6_move_22 : decode cX6_move 22 = .ok (.aload_n 0, 1) := by decide +kernel
theorem dX6_move_23 : decode cX6_move 23 = .ok (.getfield 21, 3) := by decide +kernel
theorem dX6_move_26 : decode cX6_move 26 = .ok (.aload_n 0, 1) := by decide +kernel
theorem dX6_move_27 : decode cX6_move 27 = .ok (.getfield 10, 3) := by decide +kernel
theorem dX6_move_30 : decode cX6_move 30 = .ok (.getfield 86, 3) := by decide +kernel
theorem dX6_move_33 : decode cX6_move 33 = .ok (.iload_n 1, 1) := by decide +kernel
theorem dX6_move_34 : decode cX6_move 34 = .ok (.iaload, 1) := by decide +kernel
theorem dX6_move_35 : decode cX6_move 35 = .ok (.aload_n 0, 1) := by decide +kernel
theorem dX6_move_36 : decode cX6_move 36 = .ok (.getfield 10, 3) := by decide +kernel
theorem dX6_move_39 : decode cX6_move 39 = .ok (.getfield 90, 3) := by decide +kernel
theorem dX6_move_42 : decode cX6_move 42 = .ok (.iload_n 1, 1) := by decide +kernel
theorem dX6_move_43 : decode cX6_move 43 = .ok (.iaload, 1) := by decide +kernel
theorem dX6_move_44 : decode cX6_move 44 = .ok (.invokevirtual 93, 3) := by decide +kernel
theorem dX6_move_47 : decode cX6_move 47 = .ok (.aload_n 0, 1) := by decide +kernel
theorem dX6_move_48 : decode cX6_move 48 = .ok (.getfield 10, 3) := by decide +kernel
theorem dX6_move_51 : decode cX6_move 51 = .ok (.iload_n 1, 1) := by decide +kernel
theorem dX6_move_52 : decode cX6_move 52 = .ok (.iload_n 2, 1) := by decide +kernel
theorem dX6_move_53 : decode cX6_move 53 = .ok (.iload_n 3, 1) := by decide +kernel
theorem dX6_move_54 : decode cX6_move 54 = .ok (.invokevirtual 104, 3) := by decide +kernel
theorem dX6_move_57 : decode cX6_move 57 = .ok (.aload_n 0, 1) := by decide +kernel
theorem dX6_move_58 : decode cX6_move 58 = .ok (.getfield 21, 3) := by decide +kernel
theorem dX6_move_61 : decode cX6_move 61 = .ok (.iload_n 2, 1) := by decide +kernel
theorem dX6_move_62 : decode cX6_move 62 = .ok (.iload_n 3, 1) := by decide +kernel
theorem dX6_move_63 : decode cX6_move 63 = .ok (.invokevirtual 79, 3) := by decide +kernel
theorem dX6_move_66 : decode cX6_move 66 = .ok (.iconst 1, 1) := by decide +kernel
theorem dX6_move_67 : decode cX6_move 67 = .ok (.ireturn, 1) := by decide +kernel
theorem dX6_weigh_0 : decode cX6_weigh 0 = .ok (.aload_n 0, 1) := by decide +kernel
theorem dX6_weigh_1 : decode cX6_weigh 1 = .ok (.getfield 10, 3) := by decide +kernel
theorem dX6_weigh_4 : decode cX6_weigh 4 = .ok (.iload_n 1, 1) := by decide +kernel
theorem dX6_weigh_5 : decode cX6_weigh 5 = .ok (.invokevirtual 83, 3) := by decide +kernel
theorem dX6_weigh_8 : decode cX6_weigh 8 = .ok (.ifCond .eq 10, 3) := by decide +kernel
theorem dX6_weigh_11 : decode cX6_weigh 11 = .ok (.iload_n 2, 1) := by decide +kernel
theorem dX6_weigh_12 : decode cX6_weigh 12 = .ok (.invokestatic 67, 3) := by decide +kernel
theorem dX6_weigh_15 : decode cX6_weigh 15 = .ok (.ifCond .ne 7, 3) := by decide +kernel
theorem dX6_weigh_18 : decode cX6_weigh 18 = .ok (.sipush (-2000), 3) := by decide +kernel
theorem dX6_weigh_21 : decode cX6_weigh 21 = .ok (.ireturn, 1) := by decide +kernel
theorem dX6_weigh_22 : decode cX6_weigh 22 = .ok (.aload_n 0, 1) := by decide +kernel
theorem dX6_weigh_23 : decode cX6_weigh 23 = .ok (.getfield 10, 3) := by decide +kernel
theorem dX6_weigh_26 : decode cX6_weigh 26 = .ok (.getfield 108, 3) := by decide +kernel
theorem dX6_weigh_29 : decode cX6_weigh 29 = .ok (.iload_n 1, 1) := by decide +kernel
theorem dX6_weigh_30 : decode cX6_weigh 30 = .ok (.iaload, 1) := by decide +kernel
theorem dX6_weigh_31 : decode cX6_weigh 31 = .ok (.istore_n 3, 1) := by decide +kernel
theorem dX6_weigh_32 : decode cX6_weigh 32 = .ok (.aload_n 0, 1) := by decide +kernel
theorem dX6_weigh_33 : decode cX6_weigh 33 = .ok (.getfield 10, 3) := by decide +kernel
theorem dX6_weigh_36 : decode cX6_weigh 36 = .ok (.getfield 108, 3) := by decide +kernel
theorem dX6_weigh_39 : decode cX6_weigh 39 = .ok (.iload_n 1, 1) := by decide +kernel
theorem dX6_weigh_40 : decode cX6_weigh 40 = .ok (.iload_n 2, 1) := by decide +kernel
theorem dX6_weigh_41 : decode cX6_weigh 41 = .ok (.iastore, 1) := by decide +kernel
theorem dX6_weigh_42 : decode cX6_weigh 42 = .ok (.iload_n 3, 1) := by decide +kernel
theorem dX6_weigh_43 : decode cX6_weigh 43 = .ok (.ireturn, 1) := by decide +kernel
theorem dX6_pace_0 : decode cX6_pace 0 = .ok (.aload_n 0, 1) := by decide +kernel
theorem dX6_pace_1 : decode cX6_pace 1 = .ok (.getfield 10, 3) := by decide +kernel
theorem dX6_pace_4 : decode cX6_pace 4 = .ok (.iload_n 1, 1) := by decide +kernel
theorem dX6_pace_5 : decode cX6_pace 5 = .ok (.invokevirtual 83, 3) := by decide +kernel
theorem dX6_pace_8 : decode cX6_pace 8 = .ok (.ifCond .eq 17, 3) := by decide +kernel
theorem dX6_pace_11 : decode cX6_pace 11 = .ok (.iload_n 2, 1) := by decide +kernel
theorem dX6_pace_12 : decode cX6_pace 12 = .ok (.invokestatic 111, 3) := by decide +kernel
theorem dX6_pace_15 : decode cX6_pace 15 = .ok (.ifCond .eq 10, 3) := by decide +kernel
theorem dX6_pace_18 : decode cX6_pace 18 = .ok (.iload_n 3, 1) := by decide +kernel
theorem dX6_pace_19 : decode cX6_pace 19 = .ok (.invokestatic 111, 3) := by decide +kernel
theorem dX6_pace_22 : decode cX6_pace 22 = .ok (.ifCond .ne 6, 3) := by decide +kernel
theorem dX6_pace_25 : decode cX6_pace 25 = .ok (.bipush (-2), 2) := by decide +kernel
theorem dX6_pace_27 : decode cX6_pace 27 = .ok (.ireturn, 1) := by decide +kernel
theorem dX6_pace_28 : decode cX6_pace 28 = .ok (.aload_n 0, 1) := by decide +kernel
theorem dX6_pace_29 : decode cX6_pace 29 = .ok (.getfield 10, 3) := by decide +kernel
theorem dX6_pace_32 : decode cX6_pace 32 = .ok (.iload_n 1, 1) := by decide +kernel
theorem dX6_pace_33 : decode cX6_pace 33 = .ok (.iload_n 2, 1) := by decide +kernel
theorem dX6_pace_34 : decode cX6_pace 34 = .ok (.iload_n 3, 1) := by decide +kernel
theorem dX6_pace_35 : decode cX6_pace 35 = .ok (.invokevirtual 114, 3) := by decide +kernel
theorem dX6_pace_38 : decode cX6_pace 38 = .ok (.iconst 1, 1) := by decide +kernel
theorem dX6_pace_39 : decode cX6_pace 39 = .ok (.ireturn, 1) := by decide +kernel
theorem dX6_at_0 : decode cX6_at 0 = .ok (.aload_n 0, 1) := by decide +kernel
theorem dX6_at_1 : decode cX6_at 1 = .ok (.getfield 10, 3) := by decide +kernel
theorem dX6_at_4 : decode cX6_at 4 = .ok (.iload_n 1, 1) := by decide +kernel
theorem dX6_at_5 : decode cX6_at 5 = .ok (.invokevirtual 83, 3) := by decide +kernel
theorem dX6_at_8 : decode cX6_at 8 = .ok (.ifCond .ne 7, 3) := by decide +kernel
theorem dX6_at_11 : decode cX6_at 11 = .ok (.sipush (-2000), 3) := by decide +kernel
theorem dX6_at_14 : decode cX6_at 14 = .ok (.ireturn, 1) := by decide +kernel
theorem dX6_at_15 : decode cX6_at 15 = .ok (.aload_n 0, 1) := by decide +kernel
theorem dX6_at_16 : decode cX6_at 16 = .ok (.getfield 10, 3) := by decide +kernel
theorem dX6_at_19 : decode cX6_at 19 = .ok (.iload_n 1, 1) := by decide +kernel
theorem dX6_at_20 : decode cX6_at 20 = .ok (.iload_n 2, 1) := by decide +kernel
theorem dX6_at_21 : decode cX6_at 21 = .ok (.invokevirtual 117, 3) := by decide +kernel
theorem dX6_at_24 : decode cX6_at 24 = .ok (.ireturn, 1) := by decide +kernel
theorem dX6_kernel_0 : decode cX6_kernel 0 = .ok (.iload_n 1, 1) := by decide +kernel
theorem dX6_kernel_1 : decode cX6_kernel 1 = .ok (.iload_n 2, 1) := by decide +kernel
theorem dX6_kernel_2 : decode cX6_kernel 2 = .ok (.invokestatic 121, 3) := by decide +kernel
theorem dX6_kernel_5 : decode cX6_kernel 5 = .ok (.ifCond .eq 15, 3) := by decide +kernel
theorem dX6_kernel_8 : decode cX6_kernel 8 = .ok (.iload_n 3, 1) := by decide +kernel
theorem dX6_kernel_9 : decode cX6_kernel 9 = .ok (.bipush (-9), 2) := by decide +kernel
theorem dX6_kernel_11 : decode cX6_kernel 11 = .ok (.if_icmp .lt 9, 3) := by decide +kernel
theorem dX6_kernel_14 : decode cX6_kernel 14 = .ok (.iload_n 3, 1) := by decide +kernel
theorem dX6_kernel_15 : decode cX6_kernel 15 = .ok (.bipush 9, 2) := by decide +kernel
theorem dX6_kernel_17 : decode cX6_kernel 17 = .ok (.if_icmp .le 7, 3) := by decide +kernel
theorem dX6_kernel_20 : decode cX6_kernel 20 = .ok (.sipush (-2000), 3) := by decide +kernel
theorem dX6_kernel_23 : decode cX6_kernel 23 = .ok (.ireturn, 1) := by decide +kernel
theorem dX6_kernel_24 : decode cX6_kernel 24 = .ok (.aload_n 0, 1) := by decide +kernel
theorem dX6_kernel_25 : decode cX6_kernel 25 = .ok (.getfield 28, 3) := by decide +kernel
theorem dX6_kernel_28 : decode cX6_kernel 28 = .ok (.iload_n 1, 1) := by decide +kernel
theorem dX6_kernel_29 : decode cX6_kernel 29 = .ok (.iload_n 2, 1) := by decide +kernel
theorem dX6_kernel_30 : decode cX6_kernel 30 = .ok (.invokevirtual 124, 3) := by decide +kernel
theorem dX6_kernel_33 : decode cX6_kernel 33 = .ok (.l2i, 1) := by decide +kernel
theorem dX6_kernel_34 : decode cX6_kernel 34 = .ok (.istore 4, 2) := by decide +kernel
theorem dX6_kernel_36 : decode cX6_kernel 36 = .ok (.aload_n 0, 1) := by decide +kernel
theorem dX6_kernel_37 : decode cX6_kernel 37 = .ok (.getfield 28, 3) := by decide +kernel
theorem dX6_kernel_40 : decode cX6_kernel 40 = .ok (.iload_n 1, 1) := by decide +kernel
theorem dX6_kernel_41 : decode cX6_kernel 41 = .ok (.iload_n 2, 1) := by decide +kernel
theorem dX6_kernel_42 : decode cX6_kernel 42 = .ok (.iload_n 3, 1) := by decide +kernel
theorem dX6_kernel_43 : decode cX6_kernel 43 = .ok (.i2l, 1) := by decide +kernel
theorem dX6_kernel_44 : decode cX6_kernel 44 = .ok (.invokevirtual 32, 3) := by decide +kernel
theorem dX6_kernel_47 : decode cX6_kernel 47 = .ok (.iload 4, 2) := by decide +kernel
theorem dX6_kernel_49 : decode cX6_kernel 49 = .ok (.ireturn, 1) := by decide +kernel
theorem dX6_capacity_0 : decode cX6_capacity 0 = .ok (.iload_n 1, 1) := by decide +kernel
theorem dX6_capacity_1 : decode cX6_capacity 1 = .ok (.iconst 1, 1) := by decide +kernel
theorem dX6_capacity_2 : decode cX6_capacity 2 = .ok (.if_icmp .lt 9, 3) := by decide +kernel
theorem dX6_capacity_5 : decode cX6_capacity 5 = .ok (.iload_n 1, 1) := by decide +kernel
theorem dX6_capacity_6 : decode cX6_capacity 6 = .ok (.bipush 8, 2) := by decide +kernel
theorem dX6_capacity_8 : decode cX6_capacity 8 = .ok (.if_icmp .le 6, 3) := by decide +kernel
theorem dX6_capacity_11 : decode cX6_capacity 11 = .ok (.bipush (-2), 2) := by decide +kernel
theorem dX6_capacity_13 : decode cX6_capacity 13 = .ok (.ireturn, 1) := by decide +kernel
theorem dX6_capacity_14 : decode cX6_capacity 14 = .ok (.aload_n 0, 1) := by decide +kernel
theorem dX6_capacity_15 : decode cX6_capacity 15 = .ok (.getfield 21, 3) := by decide +kernel
theorem dX6_capacity_18 : decode cX6_capacity 18 = .ok (.getfield 128, 3) := by decide +kernel
theorem dX6_capacity_21 : decode cX6_capacity 21 = .ok (.istore_n 2, 1) := by decide +kernel
theorem dX6_capacity_22 : decode cX6_capacity 22 = .ok (.aload_n 0, 1) := by decide +kernel
theorem dX6_capacity_23 : decode cX6_capacity 23 = .ok (.getfield 21, 3) := by decide +kernel
theorem dX6_capacity_26 : decode cX6_capacity 26 = .ok (.iload_n 1, 1) := by decide +kernel
theorem dX6_capacity_27 : decode cX6_capacity 27 = .ok (.putfield 128, 3) := by decide +kernel
theorem dX6_capacity_30 : decode cX6_capacity 30 = .ok (.iload_n 2, 1) := by decide +kernel
theorem dX6_capacity_31 : decode cX6_capacity 31 = .ok (.ireturn, 1) := by decide +kernel
theorem dX6_sum_0 : decode cX6_sum 0 = .ok (.iload_n 1, 1) := by decide +kernel
theorem dX6_sum_1 : decode cX6_sum 1 = .ok (.iload_n 2, 1) := by decide +kernel
theorem dX6_sum_2 : decode cX6_sum 2 = .ok (.invokestatic 63, 3) := by decide +kernel
theorem dX6_sum_5 : decode cX6_sum 5 = .ok (.ifCond .ne 7, 3) := by decide +kernel
theorem dX6_sum_8 : decode cX6_sum 8 = .ok (.ldc2_w 131, 3) := by decide +kernel
theorem dX6_sum_11 : decode cX6_sum 11 = .ok (.lreturn, 1) := by decide +kernel
theorem dX6_sum_12 : decode cX6_sum 12 = .ok (.lconst 0, 1) := by decide +kernel
theorem dX6_sum_13 : decode cX6_sum 13 = .ok (.lstore_n 3, 1) := by decide +kernel
theorem dX6_sum_14 : decode cX6_sum 14 = .ok (.iconst 0, 1) := by decide +kernel
theorem dX6_sum_15 : decode cX6_sum 15 = .ok (.istore 5, 2) := by decide +kernel
theorem dX6_sum_17 : decode cX6_sum 17 = .ok (.iload 5, 2) := by decide +kernel
theorem dX6_sum_19 : decode cX6_sum 19 = .ok (.bipush 40, 2) := by decide +kernel
theorem dX6_sum_21 : decode cX6_sum 21 = .ok (.if_icmp .ge 33, 3) := by decide +kernel
theorem dX6_sum_24 : decode cX6_sum 24 = .ok (.aload_n 0, 1) := by decide +kernel
theorem dX6_sum_25 : decode cX6_sum 25 = .ok (.getfield 10, 3) := by decide +kernel
theorem dX6_sum_28 : decode cX6_sum 28 = .ok (.getfield 133, 3) := by decide +kernel
theorem dX6_sum_31 : decode cX6_sum 31 = .ok (.iload 5, 2) := by decide +kernel
theorem dX6_sum_33 : decode cX6_sum 33 = .ok (.baload, 1) := by decide +kernel
theorem dX6_sum_34 : decode cX6_sum 34 = .ok (.ifCond .eq 14, 3) := by decide +kernel
theorem dX6_sum_37 : decode cX6_sum 37 = .ok (.lload_n 3, 1) := by decide +kernel
theorem dX6_sum_38 : decode cX6_sum 38 = .ok (.aload_n 0, 1) := by decide +kernel
theorem dX6_sum_39 : decode cX6_sum 39 = .ok (.iload 5, 2) := by decide +kernel
theorem dX6_sum_41 : decode cX6_sum 41 = .ok (.iload_n 1, 1) := by decide +kernel
theorem dX6_sum_42 : decode cX6_sum 42 = .ok (.iload_n 2, 1) := by decide +kernel
theorem dX6_sum_43 : decode cX6_sum 43 = .ok (.invokevirtual 137, 3) := by decide +kernel
theorem dX6_sum_46 : decode cX6_sum 46 = .ok (.ladd, 1) := by decide +kernel
theorem dX6_sum_47 : decode cX6_sum 47 = .ok (.lstore_n 3, 1) := by decide +kernel
theorem dX6_sum_48 : decode cX6_sum 48 = .ok (.iinc 5 1, 3) := by decide +kernel
theorem dX6_sum_51 : decode cX6_sum 51 = .ok (.goto (-34), 3) := by decide +kernel
theorem dX6_sum_54 : decode cX6_sum 54 = .ok (.lload_n 3, 1) := by decide +kernel
theorem dX6_sum_55 : decode cX6_sum 55 = .ok (.lreturn, 1) := by decide +kernel
theorem dX6_across_0 : decode cX6_across 0 = .ok (.iload_n 1, 1) := by decide +kernel
theorem dX6_across_1 : decode cX6_across 1 = .ok (.iload_n 2, 1) := by decide +kernel
theorem dX6_across_2 : decode cX6_across 2 = .ok (.invokestatic 63, 3) := by decide +kernel
theorem dX6_across_5 : decode cX6_across 5 = .ok (.ifCond .eq 20, 3) := by decide +kernel
theorem dX6_across_8 : decode cX6_across 8 = .ok (.iload_n 3, 1) := by decide +kernel
theorem dX6_across_9 : decode cX6_across 9 = .ok (.ifCond .lt 16, 3) := by decide +kernel
theorem dX6_across_12 : decode cX6_across 12 = .ok (.iload_n 3, 1) := by decide +kernel
theorem dX6_across_13 : decode cX6_across 13 = .ok (.iconst 4, 1) := by decide +kernel
theorem dX6_across_14 : decode cX6_across 14 = .ok (.if_icmp .gt 11, 3) := by decide +kernel
theorem dX6_across_17 : decode cX6_across 17 = .ok (.iload 4, 2) := by decide +kernel
theorem dX6_across_19 : decode cX6_across 19 = .ok (.invokestatic 141, 3) := by decide +kernel
theorem dX6_across_22 : decode cX6_across 22 = .ok (.ifCond .ne 7, 3) := by decide +kernel
theorem dX6_across_25 : decode cX6_across 25 = .ok (.ldc2_w 131, 3) := by decide +kernel
theorem dX6_across_28 : decode cX6_across 28 = .ok (.lreturn, 1) := by decide +kernel
theorem dX6_across_29 : decode cX6_across 29 = .ok (.aload_n 0, 1) := by decide +kernel
theorem dX6_across_30 : decode cX6_across 30 = .ok (.getfield 50, 3) := by decide +kernel
theorem dX6_across_33 : decode cX6_across 33 = .ok (.iload_n 1, 1) := by decide +kernel
theorem dX6_across_34 : decode cX6_across 34 = .ok (.iload_n 2, 1) := by decide +kernel
theorem dX6_across_35 : decode cX6_across 35 = .ok (.iload 4, 2) := by decide +kernel
theorem dX6_across_37 : decode cX6_across 37 = .ok (.invokevirtual 144, 3) := by decide +kernel
theorem dX6_across_40 : decode cX6_across 40 = .ok (.iload 5, 2) := by decide +kernel
theorem dX6_across_42 : decode cX6_across 42 = .ok (.tableswitch 51 0 2 #[26, 34, 42], 26) := by decide +kernel
theorem dX6_across_68 : decode cX6_across 68 = .ok (.aload_n 0, 1) := by decide +kernel
theorem dX6_across_69 : decode cX6_across 69 = .ok (.iload_n 1, 1) := by decide +kernel
theorem dX6_across_70 : decode cX6_across 70 = .ok (.iload_n 2, 1) := by decide +kernel
theorem dX6_across_71 : decode cX6_across 71 = .ok (.iload_n 3, 1) := by decide +kernel
theorem dX6_across_72 : decode cX6_across 72 = .ok (.invokevirtual 147, 3) := by decide +kernel
theorem dX6_across_75 : decode cX6_across 75 = .ok (.lreturn, 1) := by decide +kernel
theorem dX6_across_76 : decode cX6_across 76 = .ok (.aload_n 0, 1) := by decide +kernel
theorem dX6_across_77 : decode cX6_across 77 = .ok (.iload_n 1, 1) := by decide +kernel
theorem dX6_across_78 : decode cX6_across 78 = .ok (.iload_n 2, 1) := by decide +kernel
theorem dX6_across_79 : decode cX6_across 79 = .ok (.iload_n 3, 1) := by decide +kernel
theorem dX6_across_80 : decode cX6_across 80 = .ok (.invokevirtual 150, 3) := by decide +kernel
theorem dX6_across_83 : decode cX6_across 83 = .ok (.lreturn, 1) := by decide +kernel
theorem dX6_across_84 : decode cX6_across 84 = .ok (.aload_n 0, 1) := by decide +kernel
theorem dX6_across_85 : decode cX6_across 85 = .ok (.getfield 50, 3) := by decide +kernel
theorem dX6_across_88 : decode cX6_across 88 = .ok (.getfield 153, 3) := by decide +kernel
theorem dX6_across_91 : decode cX6_across 91 = .ok (.i2l, 1) := by decide +kernel
theorem dX6_across_92 : decode cX6_across 92 = .ok (.lreturn, 1) := by decide +kernel
theorem dX6_across_93 : decode cX6_across 93 = .ok (.ldc2_w 131, 3) := by decide +kernel
theorem dX6_across_96 : decode cX6_across 96 = .ok (.lreturn, 1) := by decide +kernel
theorem dX6_order_0 : decode cX6_order 0 = .ok (.iload_n 1, 1) := by decide +kernel
theorem dX6_order_1 : decode cX6_order 1 = .ok (.iload_n 2, 1) := by decide +kernel
theorem dX6_order_2 : decode cX6_order 2 = .ok (.invokestatic 63, 3) := by decide +kernel
theorem dX6_order_5 : decode cX6_order 5 = .ok (.ifCond .eq 17, 3) := by decide +kernel
theorem dX6_order_8 : decode cX6_order 8 = .ok (.iload_n 3, 1) := by decide +kernel
theorem dX6_order_9 : decode cX6_order 9 = .ok (.invokestatic 141, 3) := by decide +kernel
theorem dX6_order_12 : decode cX6_order 12 = .ok (.ifCond .eq 10, 3) := by decide +kernel
theorem dX6_order_15 : decode cX6_order 15 = .ok (.lload 4, 2) := by decide +kernel
theorem dX6_order_17 : decode cX6_order 17 = .ok (.lconst 0, 1) := by decide +kernel
theorem dX6_order_18 : decode cX6_order 18 = .ok (.lcmp, 1) := by decide +kernel
theorem dX6_order_19 : decode cX6_order 19 = .ok (.ifCond .ge 6, 3) := by decide +kernel
theorem dX6_order_22 : decode cX6_order 22 = .ok (.bipush (-2), 2) := by decide +kernel
theorem dX6_order_24 : decode cX6_order 24 = .ok (.ireturn, 1) := by decide +kernel
theorem dX6_order_25 : decode cX6_order 25 = .ok (.aload_n 0, 1) := by decide +kernel
theorem dX6_order_26 : decode cX6_order 26 = .ok (.getfield 50, 3) := by decide +kernel
theorem dX6_order_29 : decode cX6_order 29 = .ok (.iload_n 1, 1) := by decide +kernel
theorem dX6_order_30 : decode cX6_order 30 = .ok (.iload_n 2, 1) := by decide +kernel
theorem dX6_order_31 : decode cX6_order 31 = .ok (.iload_n 3, 1) := by decide +kernel
theorem dX6_order_32 : decode cX6_order 32 = .ok (.invokevirtual 144, 3) := by decide +kernel
theorem dX6_order_35 : decode cX6_order 35 = .ok (.iconst 0, 1) := by decide +kernel
theorem dX6_order_36 : decode cX6_order 36 = .ok (.istore 6, 2) := by decide +kernel
theorem dX6_order_38 : decode cX6_order 38 = .ok (.iload 6, 2) := by decide +kernel
theorem dX6_order_40 : decode cX6_order 40 = .ok (.iconst 4, 1) := by decide +kernel
theorem dX6_order_41 : decode cX6_order 41 = .ok (.if_icmp .ge 26, 3) := by decide +kernel
theorem dX6_order_44 : decode cX6_order 44 = .ok (.aload_n 0, 1) := by decide +kernel
theorem dX6_order_45 : decode cX6_order 45 = .ok (.iload_n 1, 1) := by decide +kernel
theorem dX6_order_46 : decode cX6_order 46 = .ok (.iload_n 2, 1) := by decide +kernel
theorem dX6_order_47 : decode cX6_order 47 = .ok (.iload 6, 2) := by decide +kernel
theorem dX6_order_49 : decode cX6_order 49 = .ok (.invokevirtual 150, 3) := by decide +kernel
theorem dX6_order_52 : decode cX6_order 52 = .ok (.lload 4, 2) := by decide +kernel
theorem dX6_order_54 : decode cX6_order 54 = .ok (.lcmp, 1) := by decide +kernel
theorem dX6_order_55 : decode cX6_order 55 = .ok (.ifCond .gt 6, 3) := by decide +kernel
theorem dX6_order_58 : decode cX6_order 58 = .ok (.iload 6, 2) := by decide +kernel
theorem dX6_order_60 : decode cX6_order 60 = .ok (.ireturn, 1) := by decide +kernel
theorem dX6_order_61 : decode cX6_order 61 = .ok (.iinc 6 1, 3) := by decide +kernel
theorem dX6_order_64 : decode cX6_order 64 = .ok (.goto (-26), 3) := by decide +kernel
theorem dX6_order_67 : decode cX6_order 67 = .ok (.iconst 4, 1) := by decide +kernel
theorem dX6_order_68 : decode cX6_order 68 = .ok (.ireturn, 1) := by decide +kernel
theorem dX6_way_0 : decode cX6_way 0 = .ok (.iload_n 1, 1) := by decide +kernel
theorem dX6_way_1 : decode cX6_way 1 = .ok (.iload_n 2, 1) := by decide +kernel
theorem dX6_way_2 : decode cX6_way 2 = .ok (.invokestatic 63, 3) := by decide +kernel
theorem dX6_way_5 : decode cX6_way 5 = .ok (.ifCond .eq 26, 3) := by decide +kernel
theorem dX6_way_8 : decode cX6_way 8 = .ok (.iload_n 3, 1) := by decide +kernel
theorem dX6_way_9 : decode cX6_way 9 = .ok (.invokestatic 141, 3) := by decide +kernel
theorem dX6_way_12 : decode cX6_way 12 = .ok (.ifCond .eq 19, 3) := by decide +kernel
theorem dX6_way_15 : decode cX6_way 15 = .ok (.iload 4, 2) := by decide +kernel
theorem dX6_way_17 : decode cX6_way 17 = .ok (.ifCond .lt 14, 3) := by decide +kernel
theorem dX6_way_20 : decode cX6_way 20 = .ok (.iload 5, 2) := by decide +kernel
theorem dX6_way_22 : decode cX6_way 22 = .ok (.ifCond .lt 9, 3) := by decide +kernel
theorem dX6_way_25 : decode cX6_way 25 = .ok (.iload 5, 2) := by decide +kernel
theorem dX6_way_27 : decode cX6_way 27 = .ok (.iconst 2, 1) := by decide +kernel
theorem dX6_way_28 : decode cX6_way 28 = .ok (.if_icmp .le 6, 3) := by decide +kernel
theorem dX6_way_31 : decode cX6_way 31 = .ok (.bipush (-2), 2) := by decide +kernel
theorem dX6_way_33 : decode cX6_way 33 = .ok (.ireturn, 1) := by decide +kernel
theorem dX6_way_34 : decode cX6_way 34 = .ok (.aload_n 0, 1) := by decide +kernel
theorem dX6_way_35 : decode cX6_way 35 = .ok (.getfield 50, 3) := by decide +kernel
theorem dX6_way_38 : decode cX6_way 38 = .ok (.iload_n 1, 1) := by decide +kernel
theorem dX6_way_39 : decode cX6_way 39 = .ok (.iload_n 2, 1) := by decide +kernel
theorem dX6_way_40 : decode cX6_way 40 = .ok (.iload_n 3, 1) := by decide +kernel
theorem dX6_way_41 : decode cX6_way 41 = .ok (.invokevirtual 144, 3) := by decide +kernel
theorem dX6_way_44 : decode cX6_way 44 = .ok (.aload_n 0, 1) := by decide +kernel
theorem dX6_way_45 : decode cX6_way 45 = .ok (.getfield 50, 3) := by decide +kernel
theorem dX6_way_48 : decode cX6_way 48 = .ok (.iload 4, 2) := by decide +kernel
theorem dX6_way_50 : decode cX6_way 50 = .ok (.iload 5, 2) := by decide +kernel
theorem dX6_way_52 : decode cX6_way 52 = .ok (.invokevirtual 156, 3) := by decide +kernel
theorem dX6_way_55 : decode cX6_way 55 = .ok (.ireturn, 1) := by decide +kernel
theorem dX6_box_0 : decode cX6_box 0 = .ok (.aload_n 0, 1) := by decide +kernel
theorem dX6_box_1 : decode cX6_box 1 = .ok (.getfield 21, 3) := by decide +kernel
theorem dX6_box_4 : decode cX6_box 4 = .ok (.iload_n 1, 1) := by decide +kernel
theorem dX6_box_5 : decode cX6_box 5 = .ok (.iload_n 2, 1) := by decide +kernel
theorem dX6_box_6 : decode cX6_box 6 = .ok (.iload_n 3, 1) := by decide +kernel
theorem dX6_box_7 : decode cX6_box 7 = .ok (.invokevirtual 157, 3) := by decide +kernel
theorem dX6_box_10 : decode cX6_box 10 = .ok (.ifCond .ne 6, 3) := by decide +kernel
theorem dX6_box_13 : decode cX6_box 13 = .ok (.bipush (-2), 2) := by decide +kernel
theorem dX6_box_15 : decode cX6_box 15 = .ok (.ireturn, 1) := by decide +kernel
theorem dX6_box_16 : decode cX6_box 16 = .ok (.iload 4, 2) := by decide +kernel
theorem dX6_box_18 : decode cX6_box 18 = .ok (.tableswitch 74 0 2 #[26, 37, 55], 26) := by decide +kernel
theorem dX6_box_44 : decode cX6_box 44 = .ok (.aload_n 0, 1) := by decide +kernel
theorem dX6_box_45 : decode cX6_box 45 = .ok (.getfield 21, 3) := by decide +kernel
theorem dX6_box_48 : decode cX6_box 48 = .ok (.iload_n 1, 1) := by decide +kernel
theorem dX6_box_49 : decode cX6_box 49 = .ok (.iload_n 2, 1) := by decide +kernel
theorem dX6_box_50 : decode cX6_box 50 = .ok (.iload_n 3, 1) := by decide +kernel
theorem dX6_box_51 : decode cX6_box 51 = .ok (.invokevirtual 161, 3) := by decide +kernel
theorem dX6_box_54 : decode cX6_box 54 = .ok (.ireturn, 1) := by decide +kernel
theorem dX6_box_55 : decode cX6_box 55 = .ok (.aload_n 0, 1) := by decide +kernel
theorem dX6_box_56 : decode cX6_box 56 = .ok (.getfield 21, 3) := by decide +kernel
theorem dX6_box_59 : decode cX6_box 59 = .ok (.iload_n 1, 1) := by decide +kernel
theorem dX6_box_60 : decode cX6_box 60 = .ok (.iload_n 2, 1) := by decide +kernel
theorem dX6_box_61 : decode cX6_box 61 = .ok (.iload_n 3, 1) := by decide +kernel
theorem dX6_box_62 : decode cX6_box 62 = .ok (.invokevirtual 165, 3) := by decide +kernel
theorem dX6_box_65 : decode cX6_box 65 = .ok (.aload_n 0, 1) := by decide +kernel
theorem dX6_box_66 : decode cX6_box 66 = .ok (.getfield 21, 3) := by decide +kernel
theorem dX6_box_69 : decode cX6_box 69 = .ok (.getfield 168, 3) := by decide +kernel
theorem dX6_box_72 : decode cX6_box 72 = .ok (.ireturn, 1) := by decide +kernel
theorem dX6_box_73 : decode cX6_box 73 = .ok (.aload_n 0, 1) := by decide +kernel
theorem dX6_box_74 : decode cX6_box 74 = .ok (.getfield 21, 3) := by decide +kernel
theorem dX6_box_77 : decode cX6_box 77 = .ok (.iload_n 1, 1) := by decide +kernel
theorem dX6_box_78 : decode cX6_box 78 = .ok (.iload_n 2, 1) := by decide +kernel
theorem dX6_box_79 : decode cX6_box 79 = .ok (.iload_n 3, 1) := by decide +kernel
theorem dX6_box_80 : decode cX6_box 80 = .ok (.invokevirtual 171, 3) := by decide +kernel
theorem dX6_box_83 : decode cX6_box 83 = .ok (.ifCond .eq 7, 3) := by decide +kernel
theorem dX6_box_86 : decode cX6_box 86 = .ok (.iconst 1, 1) := by decide +kernel
theorem dX6_box_87 : decode cX6_box 87 = .ok (.goto 4, 3) := by decide +kernel
theorem dX6_box_90 : decode cX6_box 90 = .ok (.iconst 0, 1) := by decide +kernel
theorem dX6_box_91 : decode cX6_box 91 = .ok (.ireturn, 1) := by decide +kernel
theorem dX6_box_92 : decode cX6_box 92 = .ok (.bipush (-2), 2) := by decide +kernel
theorem dX6_box_94 : decode cX6_box 94 = .ok (.ireturn, 1) := by decide +kernel
theorem dX6_moment_0 : decode cX6_moment 0 = .ok (.aload_n 0, 1) := by decide +kernel
theorem dX6_moment_1 : decode cX6_moment 1 = .ok (.getfield 21, 3) := by decide +kernel
theorem dX6_moment_4 : decode cX6_moment 4 = .ok (.iload_n 1, 1) := by decide +kernel
theorem dX6_moment_5 : decode cX6_moment 5 = .ok (.iload_n 2, 1) := by decide +kernel
theorem dX6_moment_6 : decode cX6_moment 6 = .ok (.iload_n 3, 1) := by decide +kernel
theorem dX6_moment_7 : decode cX6_moment 7 = .ok (.invokevirtual 157, 3) := by decide +kernel
theorem dX6_moment_10 : decode cX6_moment 10 = .ok (.ifCond .eq 13, 3) := by decide +kernel
theorem dX6_moment_13 : decode cX6_moment 13 = .ok (.iload 4, 2) := by decide +kernel
theorem dX6_moment_15 : decode cX6_moment 15 = .ok (.iload 5, 2) := by decide +kernel
theorem dX6_moment_17 : decode cX6_moment 17 = .ok (.invokestatic 121, 3) := by decide +kernel
theorem dX6_moment_20 : decode cX6_moment 20 = .ok (.ifCond .ne 7, 3) := by decide +kernel
theorem dX6_moment_23 : decode cX6_moment 23 = .ok (.ldc2_w 131, 3) := by decide +kernel
theorem dX6_moment_26 : decode cX6_moment 26 = .ok (.lreturn, 1) := by decide +kernel
theorem dX6_moment_27 : decode cX6_moment 27 = .ok (.aload_n 0, 1) := by decide +kernel
theorem dX6_moment_28 : decode cX6_moment 28 = .ok (.getfield 21, 3) := by decide +kernel
theorem dX6_moment_31 : decode cX6_moment 31 = .ok (.iload_n 1, 1) := by decide +kernel
theorem dX6_moment_32 : decode cX6_moment 32 = .ok (.iload_n 2, 1) := by decide +kernel
theorem dX6_moment_33 : decode cX6_moment 33 = .ok (.iload_n 3, 1) := by decide +kernel
theorem dX6_moment_34 : decode cX6_moment 34 = .ok (.invokevirtual 165, 3) := by decide +kernel
theorem dX6_moment_37 : decode cX6_moment 37 = .ok (.aload_n 0, 1) := by decide +kernel
theorem dX6_moment_38 : decode cX6_moment 38 = .ok (.getfield 21, 3) := by decide +kernel
theorem dX6_moment_41 : decode cX6_moment 41 = .ok (.getfield 174, 3) := by decide +kernel
theorem dX6_moment_44 : decode cX6_moment 44 = .ok (.iload 4, 2) := by decide +kernel
theorem dX6_moment_46 : decode cX6_moment 46 = .ok (.iload 5, 2) := by decide +kernel
theorem dX6_moment_48 : decode cX6_moment 48 = .ok (.invokestatic 178, 3) := by decide +kernel
theorem dX6_moment_51 : decode cX6_moment 51 = .ok (.laload, 1) := by decide +kernel
theorem dX6_moment_52 : decode cX6_moment 52 = .ok (.lreturn, 1) := by decide +kernel
theorem dX6_leaf_0 : decode cX6_leaf 0 = .ok (.iload_n 1, 1) := by decide +kernel
theorem dX6_leaf_1 : decode cX6_leaf 1 = .ok (.iload_n 2, 1) := by decide +kernel
theorem dX6_leaf_2 : decode cX6_leaf 2 = .ok (.invokestatic 63, 3) := by decide +kernel
theorem dX6_leaf_5 : decode cX6_leaf 5 = .ok (.ifCond .ne 6, 3) := by decide +kernel
theorem dX6_leaf_8 : decode cX6_leaf 8 = .ok (.bipush (-2), 2) := by decide +kernel
theorem dX6_leaf_10 : decode cX6_leaf 10 = .ok (.ireturn, 1) := by decide +kernel
theorem dX6_leaf_11 : decode cX6_leaf 11 = .ok (.aload_n 0, 1) := by decide +kernel
theorem dX6_leaf_12 : decode cX6_leaf 12 = .ok (.getfield 21, 3) := by decide +kernel
theorem dX6_leaf_15 : decode cX6_leaf 15 = .ok (.iload_n 1, 1) := by decide +kernel
theorem dX6_leaf_16 : decode cX6_leaf 16 = .ok (.iload_n 2, 1) := by decide +kernel
theorem dX6_leaf_17 : decode cX6_leaf 17 = .ok (.invokevirtual 181, 3) := by decide +kernel
theorem dX6_leaf_20 : decode cX6_leaf 20 = .ok (.ireturn, 1) := by decide +kernel
theorem dX6_nearest_0 : decode cX6_nearest 0 = .ok (.iload_n 1, 1) := by decide +kernel
theorem dX6_nearest_1 : decode cX6_nearest 1 = .ok (.iload_n 2, 1) := by decide +kernel
theorem dX6_nearest_2 : decode cX6_nearest 2 = .ok (.invokestatic 63, 3) := by decide +kernel
theorem dX6_nearest_5 : decode cX6_nearest 5 = .ok (.ifCond .eq 7, 3) := by decide +kernel
theorem dX6_nearest_8 : decode cX6_nearest 8 = .ok (.iload_n 3, 1) := by decide +kernel
theorem dX6_nearest_9 : decode cX6_nearest 9 = .ok (.ifCond .ge 6, 3) := by decide +kernel
theorem dX6_nearest_12 : decode cX6_nearest 12 = .ok (.bipush (-2), 2) := by decide +kernel
theorem dX6_nearest_14 : decode cX6_nearest 14 = .ok (.ireturn, 1) := by decide +kernel
theorem dX6_nearest_15 : decode cX6_nearest 15 = .ok (.iconst 0, 1) := by decide +kernel
theorem dX6_nearest_16 : decode cX6_nearest 16 = .ok (.istore 4, 2) := by decide +kernel
theorem dX6_nearest_18 : decode cX6_nearest 18 = .ok (.iload 4, 2) := by decide +kernel
theorem dX6_nearest_20 : decode cX6_nearest 20 = .ok (.bipush 40, 2) := by decide +kernel
theorem dX6_nearest_22 : decode cX6_nearest 22 = .ok (.if_icmp .ge 40, 3) := by decide +kernel
theorem dX6_nearest_25 : decode cX6_nearest 25 = .ok (.aload_n 0, 1) := by decide +kernel
theorem dX6_nearest_26 : decode cX6_nearest 26 = .ok (.getfield 10, 3) := by decide +kernel
theorem dX6_nearest_29 : decode cX6_nearest 29 = .ok (.getfield 133, 3) := by decide +kernel
theorem dX6_nearest_32 : decode cX6_nearest 32 = .ok (.iload 4, 2) := by decide +kernel
theorem dX6_nearest_34 : decode cX6_nearest 34 = .ok (.baload, 1) := by decide +kernel
theorem dX6_nearest_35 : decode cX6_nearest 35 = .ok (.ifCond .eq 21, 3) := by decide +kernel
theorem dX6_nearest_38 : decode cX6_nearest 38 = .ok (.aload_n 0, 1) := by decide +kernel
theorem dX6_nearest_39 : decode cX6_nearest 39 = .ok (.getfield 10, 3) := by decide +kernel
theorem dX6_nearest_42 : decode cX6_nearest 42 = .ok (.iload 4, 2) := by decide +kernel
theorem dX6_nearest_44 : decode cX6_nearest 44 = .ok (.iload_n 1, 1) := by decide +kernel
theorem dX6_nearest_45 : decode cX6_nearest 45 = .ok (.iload_n 2, 1) := by decide +kernel
theorem dX6_nearest_46 : decode cX6_nearest 46 = .ok (.invokevirtual 184, 3) := by decide +kernel
theorem dX6_nearest_49 : decode cX6_nearest 49 = .ok (.iload_n 3, 1) := by decide +kernel
theorem dX6_nearest_50 : decode cX6_nearest 50 = .ok (.if_icmp .ne 6, 3) := by decide +kernel
theorem dX6_nearest_53 : decode cX6_nearest 53 = .ok (.iload 4, 2) := by decide +kernel
theorem dX6_nearest_55 : decode cX6_nearest 55 = .ok (.ireturn, 1) := by decide +kernel
theorem dX6_nearest_56 : decode cX6_nearest 56 = .ok (.iinc 4 1, 3) := by decide +kernel
theorem dX6_nearest_59 : decode cX6_nearest 59 = .ok (.goto (-41), 3) := by decide +kernel
theorem dX6_nearest_62 : decode cX6_nearest 62 = .ok (.iconst (-1), 1) := by decide +kernel
theorem dX6_nearest_63 : decode cX6_nearest 63 = .ok (.ireturn, 1) := by decide +kernel
theorem dX6_step_0 : decode cX6_step 0 = .ok (.iload_n 1, 1) := by decide +kernel
theorem dX6_step_1 : decode cX6_step 1 = .ok (.ifCond .eq 15, 3) := by decide +kernel
theorem dX6_step_4 : decode cX6_step 4 = .ok (.iload_n 1, 1) := by decide +kernel
theorem dX6_step_5 : decode cX6_step 5 = .ok (.bipush (-8), 2) := by decide +kernel
theorem dX6_step_7 : decode cX6_step 7 = .ok (.if_icmp .lt 9, 3) := by decide +kernel
theorem dX6_step_10 : decode cX6_step 10 = .ok (.iload_n 1, 1) := by decide +kernel
theorem dX6_step_11 : decode cX6_step 11 = .ok (.bipush 8, 2) := by decide +kernel
theorem dX6_step_13 : decode cX6_step 13 = .ok (.if_icmp .le 6, 3) := by decide +kernel
theorem dX6_step_16 : decode cX6_step 16 = .ok (.bipush (-2), 2) := by decide +kernel
theorem dX6_step_18 : decode cX6_step 18 = .ok (.ireturn, 1) := by decide +kernel
theorem dX6_step_19 : decode cX6_step 19 = .ok (.iconst 0, 1) := by decide +kernel
theorem dX6_step_20 : decode cX6_step 20 = .ok (.istore_n 2, 1) := by decide +kernel
theorem dX6_step_21 : decode cX6_step 21 = .ok (.iload_n 2, 1) := by decide +kernel
theorem dX6_step_22 : decode cX6_step 22 = .ok (.iload_n 1, 1) := by decide +kernel
theorem dX6_step_23 : decode cX6_step 23 = .ok (.if_icmp .ge 16, 3) := by decide +kernel
theorem dX6_step_26 : decode cX6_step 26 = .ok (.aload_n 0, 1) := by decide +kernel
theorem dX6_step_27 : decode cX6_step 27 = .ok (.getfield 59, 3) := by decide +kernel
theorem dX6_step_30 : decode cX6_step 30 = .ok (.invokevirtual 187, 3) := by decide +kernel
theorem dX6_step_33 : decode cX6_step 33 = .ok (.iinc 2 1, 3) := by decide +kernel
theorem dX6_step_36 : decode cX6_step 36 = .ok (.goto (-15), 3) := by decide +kernel
theorem dX6_step_39 : decode cX6_step 39 = .ok (.iconst 0, 1) := by decide +kernel
theorem dX6_step_40 : decode cX6_step 40 = .ok (.istore_n 2, 1) := by decide +kernel
theorem dX6_step_41 : decode cX6_step 41 = .ok (.iload_n 2, 1) := by decide +kernel
theorem dX6_step_42 : decode cX6_step 42 = .ok (.iload_n 1, 1) := by decide +kernel
theorem dX6_step_43 : decode cX6_step 43 = .ok (.if_icmp .le 16, 3) := by decide +kernel
theorem dX6_step_46 : decode cX6_step 46 = .ok (.aload_n 0, 1) := by decide +kernel
theorem dX6_step_47 : decode cX6_step 47 = .ok (.getfield 59, 3) := by decide +kernel
theorem dX6_step_50 : decode cX6_step 50 = .ok (.invokevirtual 190, 3) := by decide +kernel
theorem dX6_step_53 : decode cX6_step 53 = .ok (.iinc 2 (-1), 3) := by decide +kernel
theorem dX6_step_56 : decode cX6_step 56 = .ok (.goto (-15), 3) := by decide +kernel
theorem dX6_step_59 : decode cX6_step 59 = .ok (.aload_n 0, 1) := by decide +kernel
theorem dX6_step_60 : decode cX6_step 60 = .ok (.getfield 59, 3) := by decide +kernel
theorem dX6_step_63 : decode cX6_step 63 = .ok (.getfield 193, 3) := by decide +kernel
theorem dX6_step_66 : decode cX6_step 66 = .ok (.ireturn, 1) := by decide +kernel
theorem dX6_count_0 : decode cX6_count 0 = .ok (.iload_n 1, 1) := by decide +kernel
theorem dX6_count_1 : decode cX6_count 1 = .ok (.tableswitch 91 0 5 #[39, 47, 59, 67, 75, 83], 39) := by decide +kernel
theorem dX6_count_40 : decode cX6_count 40 = .ok (.aload_n 0, 1) := by decide +kernel
theorem dX6_count_41 : decode cX6_count 41 = .ok (.getfield 10, 3) := by decide +kernel
theorem dX6_count_44 : decode cX6_count 44 = .ok (.getfield 100, 3) := by decide +kernel
theorem dX6_count_47 : decode cX6_count 47 = .ok (.ireturn, 1) := by decide +kernel
theorem dX6_count_48 : decode cX6_count 48 = .ok (.iconst 1, 1) := by decide +kernel
theorem dX6_count_49 : decode cX6_count 49 = .ok (.iconst 4, 1) := by decide +kernel
theorem dX6_count_50 : decode cX6_count 50 = .ok (.aload_n 0, 1) := by decide +kernel
theorem dX6_count_51 : decode cX6_count 51 = .ok (.getfield 21, 3) := by decide +kernel
theorem dX6_count_54 : decode cX6_count 54 = .ok (.invokevirtual 196, 3) := by decide +kernel
theorem dX6_count_57 : decode cX6_count 57 = .ok (.imul, 1) := by decide +kernel
theorem dX6_count_58 : decode cX6_count 58 = .ok (.iadd, 1) := by decide +kernel
theorem dX6_count_59 : decode cX6_count 59 = .ok (.ireturn, 1) := by decide +kernel
theorem dX6_count_60 : decode cX6_count 60 = .ok (.aload_n 0, 1) := by decide +kernel
theorem dX6_count_61 : decode cX6_count 61 = .ok (.getfield 21, 3) := by decide +kernel
theorem dX6_count_64 : decode cX6_count 64 = .ok (.invokevirtual 196, 3) := by decide +kernel
theorem dX6_count_67 : decode cX6_count 67 = .ok (.ireturn, 1) := by decide +kernel
theorem dX6_count_68 : decode cX6_count 68 = .ok (.aload_n 0, 1) := by decide +kernel
theorem dX6_count_69 : decode cX6_count 69 = .ok (.getfield 21, 3) := by decide +kernel
theorem dX6_count_72 : decode cX6_count 72 = .ok (.invokevirtual 199, 3) := by decide +kernel
theorem dX6_count_75 : decode cX6_count 75 = .ok (.ireturn, 1) := by decide +kernel
theorem dX6_count_76 : decode cX6_count 76 = .ok (.aload_n 0, 1) := by decide +kernel
theorem dX6_count_77 : decode cX6_count 77 = .ok (.getfield 59, 3) := by decide +kernel
theorem dX6_count_80 : decode cX6_count 80 = .ok (.getfield 193, 3) := by decide +kernel
theorem dX6_count_83 : decode cX6_count 83 = .ok (.ireturn, 1) := by decide +kernel
theorem dX6_count_84 : decode cX6_count 84 = .ok (.aload_n 0, 1) := by decide +kernel
theorem dX6_count_85 : decode cX6_count 85 = .ok (.getfield 10, 3) := by decide +kernel
theorem dX6_count_88 : decode cX6_count 88 = .ok (.invokevirtual 202, 3) := by decide +kernel
theorem dX6_count_91 : decode cX6_count 91 = .ok (.ireturn, 1) := by decide +kernel
theorem dX6_count_92 : decode cX6_count 92 = .ok (.bipush (-2), 2) := by decide +kernel
theorem dX6_count_94 : decode cX6_count 94 = .ok (.ireturn, 1) := by decide +kernel
theorem dX6_digest_0 : decode cX6_digest 0 = .ok (.ldc2_w 205, 3) := by decide +kernel
theorem dX6_digest_3 : decode cX6_digest 3 = .ok (.lstore_n 1, 1) := by decide +kernel
theorem dX6_digest_4 : decode cX6_digest 4 = .ok (.iconst 0, 1) := by decide +kernel
theorem dX6_digest_5 : decode cX6_digest 5 = .ok (.istore_n 3, 1) := by decide +kernel
theorem dX6_digest_6 : decode cX6_digest 6 = .ok (.iload_n 3, 1) := by decide +kernel
theorem dX6_digest_7 : decode cX6_digest 7 = .ok (.iconst 5, 1) := by decide +kernel
theorem dX6_digest_8 : decode cX6_digest 8 = .ok (.if_icmp .gt 22, 3) := by decide +kernel
theorem dX6_digest_11 : decode cX6_digest 11 = .ok (.ldc2_w 207, 3) := by decide +kernel
theorem dX6_digest_14 : decode cX6_digest 14 = .ok (.lload_n 1, 1) := by decide +kernel
theorem dX6_digest_15 : decode cX6_digest 15 = .ok (.lmul, 1) := by decide +kernel
theorem dX6_digest_16 : decode cX6_digest 16 = .ok (.aload_n 0, 1) := by decide +kernel
theorem dX6_digest_17 : decode cX6_digest 17 = .ok (.iload_n 3, 1) := by decide +kernel
theorem dX6_digest_18 : decode cX6_digest 18 = .ok (.invokevirtual 209, 3) := by decide +kernel
theorem dX6_digest_21 : decode cX6_digest 21 = .ok (.i2l, 1) := by decide +kernel
theorem dX6_digest_22 : decode cX6_digest 22 = .ok (.ladd, 1) := by decide +kernel
theorem dX6_digest_23 : decode cX6_digest 23 = .ok (.lstore_n 1, 1) := by decide +kernel
theorem dX6_digest_24 : decode cX6_digest 24 = .ok (.iinc 3 1, 3) := by decide +kernel
theorem dX6_digest_27 : decode cX6_digest 27 = .ok (.goto (-21), 3) := by decide +kernel
theorem dX6_digest_30 : decode cX6_digest 30 = .ok (.aload_n 0, 1) := by decide +kernel
theorem dX6_digest_31 : decode cX6_digest 31 = .ok (.lload_n 1, 1) := by decide +kernel
theorem dX6_digest_32 : decode cX6_digest 32 = .ok (.invokevirtual 213, 3) := by decide +kernel
theorem dX6_digest_35 : decode cX6_digest 35 = .ok (.lstore_n 1, 1) := by decide +kernel
theorem dX6_digest_36 : decode cX6_digest 36 = .ok (.aload_n 0, 1) := by decide +kernel
theorem dX6_digest_37 : decode cX6_digest 37 = .ok (.lload_n 1, 1) := by decide +kernel
theorem dX6_digest_38 : decode cX6_digest 38 = .ok (.invokevirtual 217, 3) := by decide +kernel
theorem dX6_digest_41 : decode cX6_digest 41 = .ok (.lstore_n 1, 1) := by decide +kernel
theorem dX6_digest_42 : decode cX6_digest 42 = .ok (.ldc2_w 207, 3) := by decide +kernel
theorem dX6_digest_45 : decode cX6_digest 45 = .ok (.lload_n 1, 1) := by decide +kernel
theorem dX6_digest_46 : decode cX6_digest 46 = .ok (.lmul, 1) := by decide +kernel
theorem dX6_digest_47 : decode cX6_digest 47 = .ok (.aload_n 0, 1) := by decide +kernel
theorem dX6_digest_48 : decode cX6_digest 48 = .ok (.getfield 21, 3) := by decide +kernel
theorem dX6_digest_51 : decode cX6_digest 51 = .ok (.getfield 128, 3) := by decide +kernel
theorem dX6_digest_54 : decode cX6_digest 54 = .ok (.i2l, 1) := by decide +kernel
theorem dX6_digest_55 : decode cX6_digest 55 = .ok (.ladd, 1) := by decide +kernel
theorem dX6_digest_56 : decode cX6_digest 56 = .ok (.lstore_n 1, 1) := by decide +kernel
theorem dX6_digest_57 : decode cX6_digest 57 = .ok (.aload_n 0, 1) := by decide +kernel
theorem dX6_digest_58 : decode cX6_digest 58 = .ok (.lload_n 1, 1) := by decide +kernel
theorem dX6_digest_59 : decode cX6_digest 59 = .ok (.invokevirtual 220, 3) := by decide +kernel
theorem dX6_digest_62 : decode cX6_digest 62 = .ok (.lreturn, 1) := by decide +kernel
theorem dX6_digestPoints_0 : decode cX6_digestPoints 0 = .ok (.lload_n 1, 1) := by decide +kernel
theorem dX6_digestPoints_1 : decode cX6_digestPoints 1 = .ok (.lstore_n 3, 1) := by decide +kernel
theorem dX6_digestPoints_2 : decode cX6_digestPoints 2 = .ok (.iconst 0, 1) := by decide +kernel
theorem dX6_digestPoints_3 : decode cX6_digestPoints 3 = .ok (.istore 5, 2) := by decide +kernel
theorem dX6_digestPoints_5 : decode cX6_digestPoints 5 = .ok (.iload 5, 2) := by decide +kernel
theorem dX6_digestPoints_7 : decode cX6_digestPoints 7 = .ok (.bipush 40, 2) := by decide +kernel
theorem dX6_digestPoints_9 : decode cX6_digestPoints 9 = .ok (.if_icmp .ge 66, 3) := by decide +kernel
theorem dX6_digestPoints_12 : decode cX6_digestPoints 12 = .ok (.aload_n 0, 1) := by decide +kernel
theorem dX6_digestPoints_13 : decode cX6_digestPoints 13 = .ok (.getfield 10, 3) := by decide +kernel
theorem dX6_digestPoints_16 : decode cX6_digestPoints 16 = .ok (.getfield 133, 3) := by decide +kernel
theorem dX6_digestPoints_19 : decode cX6_digestPoints 19 = .ok (.iload 5, 2) := by decide +kernel
theorem dX6_digestPoints_21 : decode cX6_digestPoints 21 = .ok (.baload, 1) := by decide +kernel
theorem dX6_digestPoints_22 : decode cX6_digestPoints 22 = .ok (.ifCond .eq 47, 3) := by decide +kernel
theorem dX6_digestPoints_25 : decode cX6_digestPoints 25 = .ok (.ldc2_w 207, 3) := by decide +kernel
theorem dX6_digestPoints_28 : decode cX6_digestPoints 28 = .ok (.lload_n 3, 1) := by decide +kernel
theorem dX6_digestPoints_29 : decode cX6_digestPoints 29 = .ok (.lmul, 1) := by decide +kernel
theorem dX6_digestPoints_30 : decode cX6_digestPoints 30 = .ok (.iload 5, 2) := by decide +kernel
theorem dX6_digestPoints_32 : decode cX6_digestPoints 32 = .ok (.i2l, 1) := by decide +kernel
theorem dX6_digestPoints_33 : decode cX6_digestPoints 33 = .ok (.ladd, 1) := by decide +kernel
theorem dX6_digestPoints_34 : decode cX6_digestPoints 34 = .ok (.lstore_n 3, 1) := by decide +kernel
theorem dX6_digestPoints_35 : decode cX6_digestPoints 35 = .ok (.iconst 0, 1) := by decide +kernel
theorem dX6_digestPoints_36 : decode cX6_digestPoints 36 = .ok (.istore 6, 2) := by decide +kernel
theorem dX6_digestPoints_38 : decode cX6_digestPoints 38 = .ok (.iload 6, 2) := by decide +kernel
theorem dX6_digestPoints_40 : decode cX6_digestPoints 40 = .ok (.iconst 4, 1) := by decide +kernel
theorem dX6_digestPoints_41 : decode cX6_digestPoints 41 = .ok (.if_icmp .gt 28, 3) := by decide +kernel
theorem dX6_digestPoints_44 : decode cX6_digestPoints 44 = .ok (.ldc2_w 207, 3) := by decide +kernel
theorem dX6_digestPoints_47 : decode cX6_digestPoints 47 = .ok (.lload_n 3, 1) := by decide +kernel
theorem dX6_digestPoints_48 : decode cX6_digestPoints 48 = .ok (.lmul, 1) := by decide +kernel
theorem dX6_digestPoints_49 : decode cX6_digestPoints 49 = .ok (.aload_n 0, 1) := by decide +kernel
theorem dX6_digestPoints_50 : decode cX6_digestPoints 50 = .ok (.getfield 10, 3) := by decide +kernel
theorem dX6_digestPoints_53 : decode cX6_digestPoints 53 = .ok (.iload 5, 2) := by decide +kernel
theorem dX6_digestPoints_55 : decode cX6_digestPoints 55 = .ok (.iload 6, 2) := by decide +kernel
theorem dX6_digestPoints_57 : decode cX6_digestPoints 57 = .ok (.invokevirtual 117, 3) := by decide +kernel
theorem dX6_digestPoints_60 : decode cX6_digestPoints 60 = .ok (.i2l, 1) := by decide +kernel
theorem dX6_digestPoints_61 : decode cX6_digestPoints 61 = .ok (.ladd, 1) := by decide +kernel
theorem dX6_digestPoints_62 : decode cX6_digestPoints 62 = .ok (.lstore_n 3, 1) := by decide +kernel
theorem dX6_digestPoints_63 : decode cX6_digestPoints 63 = .ok (.iinc 6 1, 3) := by decide +kernel
theorem dX6_digestPoints_66 : decode cX6_digestPoints 66 = .ok (.goto (-28), 3) := by decide +kernel
theorem dX6_digestPoints_69 : decode cX6_digestPoints 69 = .ok (.iinc 5 1, 3) := by decide +kernel
theorem dX6_digestPoints_72 : decode cX6_digestPoints 72 = .ok (.goto (-67), 3) := by decide +kernel
theorem dX6_digestPoints_75 : decode cX6_digestPoints 75 = .ok (.lload_n 3, 1) := by decide +kernel
theorem dX6_digestPoints_76 : decode cX6_digestPoints 76 = .ok (.lreturn, 1) := by decide +kernel
theorem dX6_digestFactors_0 : decode cX6_digestFactors 0 = .ok (.lload_n 1, 1) := by decide +kernel
theorem dX6_digestFactors_1 : decode cX6_digestFactors 1 = .ok (.lstore_n 3, 1) := by decide +kernel
theorem dX6_digestFactors_2 : decode cX6_digestFactors 2 = .ok (.iconst 0, 1) := by decide +kernel
theorem dX6_digestFactors_3 : decode cX6_digestFactors 3 = .ok (.istore 5, 2) := by decide +kernel
theorem dX6_digestFactors_5 : decode cX6_digestFactors 5 = .ok (.iload 5, 2) := by decide +kernel
theorem dX6_digestFactors_7 : decode cX6_digestFactors 7 = .ok (.iconst 4, 1) := by decide +kernel
theorem dX6_digestFactors_8 : decode cX6_digestFactors 8 = .ok (.if_icmp .gt 45, 3) := by decide +kernel
theorem dX6_digestFactors_11 : decode cX6_digestFactors 11 = .ok (.iconst 0, 1) := by decide +kernel
theorem dX6_digestFactors_12 : decode cX6_digestFactors 12 = .ok (.istore 6, 2) := by decide +kernel
theorem dX6_digestFactors_14 : decode cX6_digestFactors 14 = .ok (.iload 5, 2) := by decide +kernel
theorem dX6_digestFactors_16 : decode cX6_digestFactors 16 = .ok (.iload 6, 2) := by decide +kernel
theorem dX6_digestFactors_18 : decode cX6_digestFactors 18 = .ok (.iadd, 1) := by decide +kernel
theorem dX6_digestFactors_19 : decode cX6_digestFactors 19 = .ok (.iconst 4, 1) := by decide +kernel
theorem dX6_digestFactors_20 : decode cX6_digestFactors 20 = .ok (.if_icmp .gt 27, 3) := by decide +kernel
theorem dX6_digestFactors_23 : decode cX6_digestFactors 23 = .ok (.ldc2_w 207, 3) := by decide +kernel
theorem dX6_digestFactors_26 : decode cX6_digestFactors 26 = .ok (.lload_n 3, 1) := by decide +kernel
theorem dX6_digestFactors_27 : decode cX6_digestFactors 27 = .ok (.lmul, 1) := by decide +kernel
theorem dX6_digestFactors_28 : decode cX6_digestFactors 28 = .ok (.aload_n 0, 1) := by decide +kernel
theorem dX6_digestFactors_29 : decode cX6_digestFactors 29 = .ok (.getfield 28, 3) := by decide +kernel
theorem dX6_digestFactors_32 : decode cX6_digestFactors 32 = .ok (.iload 5, 2) := by decide +kernel
theorem dX6_digestFactors_34 : decode cX6_digestFactors 34 = .ok (.iload 6, 2) := by decide +kernel
theorem dX6_digestFactors_36 : decode cX6_digestFactors 36 = .ok (.invokevirtual 124, 3) := by decide +kernel
theorem dX6_digestFactors_39 : decode cX6_digestFactors 39 = .ok (.ladd, 1) := by decide +kernel
theorem dX6_digestFactors_40 : decode cX6_digestFactors 40 = .ok (.lstore_n 3, 1) := by decide +kernel
theorem dX6_digestFactors_41 : decode cX6_digestFactors 41 = .ok (.iinc 6 1, 3) := by decide +kernel
theorem dX6_digestFactors_44 : decode cX6_digestFactors 44 = .ok (.goto (-30), 3) := by decide +kernel
theorem dX6_digestFactors_47 : decode cX6_digestFactors 47 = .ok (.iinc 5 1, 3) := by decide +kernel
theorem dX6_digestFactors_50 : decode cX6_digestFactors 50 = .ok (.goto (-45), 3) := by decide +kernel
theorem dX6_digestFactors_53 : decode cX6_digestFactors 53 = .ok (.lload_n 3, 1) := by decide +kernel
theorem dX6_digestFactors_54 : decode cX6_digestFactors 54 = .ok (.lreturn, 1) := by decide +kernel
theorem dX6_digestBoxes_0 : decode cX6_digestBoxes 0 = .ok (.lload_n 1, 1) := by decide +kernel
theorem dX6_digestBoxes_1 : decode cX6_digestBoxes 1 = .ok (.lstore_n 3, 1) := by decide +kernel
theorem dX6_digestBoxes_2 : decode cX6_digestBoxes 2 = .ok (.iconst 0, 1) := by decide +kernel
theorem dX6_digestBoxes_3 : decode cX6_digestBoxes 3 = .ok (.istore 5, 2) := by decide +kernel
theorem dX6_digestBoxes_5 : decode cX6_digestBoxes 5 = .ok (.iload 5, 2) := by decide +kernel
theorem dX6_digestBoxes_7 : decode cX6_digestBoxes 7 = .ok (.iconst 5, 1) := by decide +kernel
theorem dX6_digestBoxes_8 : decode cX6_digestBoxes 8 = .ok (.if_icmp .gt 75, 3) := by decide +kernel
theorem dX6_digestBoxes_11 : decode cX6_digestBoxes 11 = .ok (.iconst 1, 1) := by decide +kernel
theorem dX6_digestBoxes_12 : decode cX6_digestBoxes 12 = .ok (.iload 5, 2) := by decide +kernel
theorem dX6_digestBoxes_14 : decode cX6_digestBoxes 14 = .ok (.ishl, 1) := by decide +kernel
theorem dX6_digestBoxes_15 : decode cX6_digestBoxes 15 = .ok (.istore 6, 2) := by decide +kernel
theorem dX6_digestBoxes_17 : decode cX6_digestBoxes 17 = .ok (.iconst 0, 1) := by decide +kernel
theorem dX6_digestBoxes_18 : decode cX6_digestBoxes 18 = .ok (.istore 7, 2) := by decide +kernel
theorem dX6_digestBoxes_20 : decode cX6_digestBoxes 20 = .ok (.iload 7, 2) := by decide +kernel
theorem dX6_digestBoxes_22 : decode cX6_digestBoxes 22 = .ok (.iload 6, 2) := by decide +kernel
theorem dX6_digestBoxes_24 : decode cX6_digestBoxes 24 = .ok (.if_icmp .ge 53, 3) := by decide +kernel
theorem dX6_digestBoxes_27 : decode cX6_digestBoxes 27 = .ok (.iconst 0, 1) := by decide +kernel
theorem dX6_digestBoxes_28 : decode cX6_digestBoxes 28 = .ok (.istore 8, 2) := by decide +kernel
theorem dX6_digestBoxes_30 : decode cX6_digestBoxes 30 = .ok (.iload 8, 2) := by decide +kernel
theorem dX6_digestBoxes_32 : decode cX6_digestBoxes 32 = .ok (.iload 6, 2) := by decide +kernel
theorem dX6_digestBoxes_34 : decode cX6_digestBoxes 34 = .ok (.if_icmp .ge 37, 3) := by decide +kernel
theorem dX6_digestBoxes_37 : decode cX6_digestBoxes 37 = .ok (.aload_n 0, 1) := by decide +kernel
theorem dX6_digestBoxes_38 : decode cX6_digestBoxes 38 = .ok (.getfield 21, 3) := by decide +kernel
theorem dX6_digestBoxes_41 : decode cX6_digestBoxes 41 = .ok (.iload 5, 2) := by decide +kernel
theorem dX6_digestBoxes_43 : decode cX6_digestBoxes 43 = .ok (.iload 8, 2) := by decide +kernel
theorem dX6_digestBoxes_45 : decode cX6_digestBoxes 45 = .ok (.iload 7, 2) := by decide +kernel
theorem dX6_digestBoxes_47 : decode cX6_digestBoxes 47 = .ok (.invokevirtual 157, 3) := by decide +kernel
theorem dX6_digestBoxes_50 : decode cX6_digestBoxes 50 = .ok (.ifCond .eq 15, 3) := by decide +kernel
theorem dX6_digestBoxes_53 : decode cX6_digestBoxes 53 = .ok (.aload_n 0, 1) := by decide +kernel
theorem dX6_digestBoxes_54 : decode cX6_digestBoxes 54 = .ok (.lload_n 3, 1) := by decide +kernel
theorem dX6_digestBoxes_55 : decode cX6_digestBoxes 55 = .ok (.iload 5, 2) := by decide +kernel
theorem dX6_digestBoxes_57 : decode cX6_digestBoxes 57 = .ok (.iload 8, 2) := by decide +kernel
theorem dX6_digestBoxes_59 : decode cX6_digestBoxes 59 = .ok (.iload 7, 2) := by decide +kernel
theorem dX6_digestBoxes_61 : decode cX6_digestBoxes 61 = .ok (.invokevirtual 223, 3) := by decide +kernel
theorem dX6_digestBoxes_64 : decode cX6_digestBoxes 64 = .ok (.lstore_n 3, 1) := by decide +kernel
theorem dX6_digestBoxes_65 : decode cX6_digestBoxes 65 = .ok (.iinc 8 1, 3) := by decide +kernel
theorem dX6_digestBoxes_68 : decode cX6_digestBoxes 68 = .ok (.goto (-38), 3) := by decide +kernel
theorem dX6_digestBoxes_71 : decode cX6_digestBoxes 71 = .ok (.iinc 7 1, 3) := by decide +kernel
theorem dX6_digestBoxes_74 : decode cX6_digestBoxes 74 = .ok (.goto (-54), 3) := by decide +kernel
theorem dX6_digestBoxes_77 : decode cX6_digestBoxes 77 = .ok (.iinc 5 1, 3) := by decide +kernel
theorem dX6_digestBoxes_80 : decode cX6_digestBoxes 80 = .ok (.goto (-75), 3) := by decide +kernel
theorem dX6_digestBoxes_83 : decode cX6_digestBoxes 83 = .ok (.lload_n 3, 1) := by decide +kernel
theorem dX6_digestBoxes_84 : decode cX6_digestBoxes 84 = .ok (.lreturn, 1) := by decide +kernel
theorem dX6_digestMoments_0 : decode cX6_digestMoments 0 = .ok (.aload_n 0, 1) := by decide +kernel
theorem dX6_digestMoments_1 : decode cX6_digestMoments 1 = .ok (.getfield 21, 3) := by decide +kernel
theorem dX6_digestMoments_4 : decode cX6_digestMoments 4 = .ok (.iload_n 3, 1) := by decide +kernel
theorem dX6_digestMoments_5 : decode cX6_digestMoments 5 = .ok (.iload 4, 2) := by decide +kernel
theorem dX6_digestMoments_7 : decode cX6_digestMoments 7 = .ok (.iload 5, 2) := by decide +kernel
theorem dX6_digestMoments_9 : decode cX6_digestMoments 9 = .ok (.invokevirtual 165, 3) := by decide +kernel
theorem dX6_digestMoments_12 : decode cX6_digestMoments 12 = .ok (.ldc2_w 207, 3) := by decide +kernel
theorem dX6_digestMoments_15 : decode cX6_digestMoments 15 = .ok (.lload_n 1, 1) := by decide +kernel
theorem dX6_digestMoments_16 : decode cX6_digestMoments 16 = .ok (.lmul, 1) := by decide +kernel
theorem dX6_digestMoments_17 : decode cX6_digestMoments 17 = .ok (.aload_n 0, 1) := by decide +kernel
theorem dX6_digestMoments_18 : decode cX6_digestMoments 18 = .ok (.getfield 21, 3) := by decide +kernel
theorem dX6_digestMoments_21 : decode cX6_digestMoments 21 = .ok (.getfield 174, 3) := by decide +kernel
theorem dX6_digestMoments_24 : decode cX6_digestMoments 24 = .ok (.iconst 0, 1) := by decide +kernel
theorem dX6_digestMoments_25 : decode cX6_digestMoments 25 = .ok (.iconst 0, 1) := by decide +kernel
theorem dX6_digestMoments_26 : decode cX6_digestMoments 26 = .ok (.invokestatic 178, 3) := by decide +kernel
theorem dX6_digestMoments_29 : decode cX6_digestMoments 29 = .ok (.laload, 1) := by decide +kernel
theorem dX6_digestMoments_30 : decode cX6_digestMoments 30 = .ok (.ladd, 1) := by decide +kernel
theorem dX6_digestMoments_31 : decode cX6_digestMoments 31 = .ok (.lstore 6, 2) := by decide +kernel
theorem dX6_digestMoments_33 : decode cX6_digestMoments 33 = .ok (.ldc2_w 207, 3) := by decide +kernel
theorem dX6_digestMoments_36 : decode cX6_digestMoments 36 = .ok (.lload 6, 2) := by decide +kernel
theorem dX6_digestMoments_38 : decode cX6_digestMoments 38 = .ok (.lmul, 1) := by decide +kernel
theorem dX6_digestMoments_39 : decode cX6_digestMoments 39 = .ok (.aload_n 0, 1) := by decide +kernel
theorem dX6_digestMoments_40 : decode cX6_digestMoments 40 = .ok (.getfield 21, 3) := by decide +kernel
theorem dX6_digestMoments_43 : decode cX6_digestMoments 43 = .ok (.getfield 174, 3) := by decide +kernel
theorem dX6_digestMoments_46 : decode cX6_digestMoments 46 = .ok (.iconst 1, 1) := by decide +kernel
theorem dX6_digestMoments_47 : decode cX6_digestMoments 47 = .ok (.iconst 0, 1) := by decide +kernel
theorem dX6_digestMoments_48 : decode cX6_digestMoments 48 = .ok (.invokestatic 178, 3) := by decide +kernel
theorem dX6_digestMoments_51 : decode cX6_digestMoments 51 = .ok (.laload, 1) := by decide +kernel
theorem dX6_digestMoments_52 : decode cX6_digestMoments 52 = .ok (.ladd, 1) := by decide +kernel
theorem dX6_digestMoments_53 : decode cX6_digestMoments 53 = .ok (.lstore 6, 2) := by decide +kernel
theorem dX6_digestMoments_55 : decode cX6_digestMoments 55 = .ok (.ldc2_w 207, 3) := by decide +kernel
theorem dX6_digestMoments_58 : decode cX6_digestMoments 58 = .ok (.lload 6, 2) := by decide +kernel
theorem dX6_digestMoments_60 : decode cX6_digestMoments 60 = .ok (.lmul, 1) := by decide +kernel
theorem dX6_digestMoments_61 : decode cX6_digestMoments 61 = .ok (.aload_n 0, 1) := by decide +kernel
theorem dX6_digestMoments_62 : decode cX6_digestMoments 62 = .ok (.getfield 21, 3) := by decide +kernel
theorem dX6_digestMoments_65 : decode cX6_digestMoments 65 = .ok (.getfield 174, 3) := by decide +kernel
theorem dX6_digestMoments_68 : decode cX6_digestMoments 68 = .ok (.iconst 0, 1) := by decide +kernel
theorem dX6_digestMoments_69 : decode cX6_digestMoments 69 = .ok (.iconst 1, 1) := by decide +kernel
theorem dX6_digestMoments_70 : decode cX6_digestMoments 70 = .ok (.invokestatic 178, 3) := by decide +kernel
theorem dX6_digestMoments_73 : decode cX6_digestMoments 73 = .ok (.laload, 1) := by decide +kernel
theorem dX6_digestMoments_74 : decode cX6_digestMoments 74 = .ok (.ladd, 1) := by decide +kernel
theorem dX6_digestMoments_75 : decode cX6_digestMoments 75 = .ok (.lreturn, 1) := by decide +kernel
theorem dX6_pullOf_0 : decode cX6_pullOf 0 = .ok (.aload_n 0, 1) := by decide +kernel
theorem dX6_pullOf_1 : decode cX6_pullOf 1 = .ok (.getfield 28, 3) := by decide +kernel
theorem dX6_pullOf_4 : decode cX6_pullOf 4 = .ok (.iload_n 2, 1) := by decide +kernel
theorem dX6_pullOf_5 : decode cX6_pullOf 5 = .ok (.aload_n 0, 1) := by decide +kernel
theorem dX6_pullOf_6 : decode cX6_pullOf 6 = .ok (.getfield 10, 3) := by decide +kernel
theorem dX6_pullOf_9 : decode cX6_pullOf 9 = .ok (.getfield 86, 3) := by decide +kernel
theorem dX6_pullOf_12 : decode cX6_pullOf 12 = .ok (.iload_n 1, 1) := by decide +kernel
theorem dX6_pullOf_13 : decode cX6_pullOf 13 = .ok (.iaload, 1) := by decide +kernel
theorem dX6_pullOf_14 : decode cX6_pullOf 14 = .ok (.isub, 1) := by decide +kernel
theorem dX6_pullOf_15 : decode cX6_pullOf 15 = .ok (.i2l, 1) := by decide +kernel
theorem dX6_pullOf_16 : decode cX6_pullOf 16 = .ok (.iload_n 3, 1) := by decide +kernel
theorem dX6_pullOf_17 : decode cX6_pullOf 17 = .ok (.aload_n 0, 1) := by decide +kernel
theorem dX6_pullOf_18 : decode cX6_pullOf 18 = .ok (.getfield 10, 3) := by decide +kernel
theorem dX6_pullOf_21 : decode cX6_pullOf 21 = .ok (.getfield 90, 3) := by decide +kernel
theorem dX6_pullOf_24 : decode cX6_pullOf 24 = .ok (.iload_n 1, 1) := by decide +kernel
theorem dX6_pullOf_25 : decode cX6_pullOf 25 = .ok (.iaload, 1) := by decide +kernel
theorem dX6_pullOf_26 : decode cX6_pullOf 26 = .ok (.isub, 1) := by decide +kernel
theorem dX6_pullOf_27 : decode cX6_pullOf 27 = .ok (.i2l, 1) := by decide +kernel
theorem dX6_pullOf_28 : decode cX6_pullOf 28 = .ok (.invokevirtual 227, 3) := by decide +kernel
theorem dX6_pullOf_31 : decode cX6_pullOf 31 = .ok (.lstore 4, 2) := by decide +kernel
theorem dX6_pullOf_33 : decode cX6_pullOf 33 = .ok (.bipush 16, 2) := by decide +kernel
theorem dX6_pullOf_35 : decode cX6_pullOf 35 = .ok (.aload_n 0, 1) := by decide +kernel
theorem dX6_pullOf_36 : decode cX6_pullOf 36 = .ok (.getfield 10, 3) := by decide +kernel
theorem dX6_pullOf_39 : decode cX6_pullOf 39 = .ok (.getfield 108, 3) := by decide +kernel
theorem dX6_pullOf_42 : decode cX6_pullOf 42 = .ok (.iload_n 1, 1) := by decide +kernel
theorem dX6_pullOf_43 : decode cX6_pullOf 43 = .ok (.iaload, 1) := by decide +kernel
theorem dX6_pullOf_44 : decode cX6_pullOf 44 = .ok (.imul, 1) := by decide +kernel
theorem dX6_pullOf_45 : decode cX6_pullOf 45 = .ok (.i2l, 1) := by decide +kernel
theorem dX6_pullOf_46 : decode cX6_pullOf 46 = .ok (.lload 4, 2) := by decide +kernel
theorem dX6_pullOf_48 : decode cX6_pullOf 48 = .ok (.lmul, 1) := by decide +kernel
theorem dX6_pullOf_49 : decode cX6_pullOf 49 = .ok (.lreturn, 1) := by decide +kernel
theorem dX6_about_0 : decode cX6_about 0 = .ok (.lconst 0, 1) := by decide +kernel
theorem dX6_about_1 : decode cX6_about 1 = .ok (.lstore 4, 2) := by decide +kernel
theorem dX6_about_3 : decode cX6_about 3 = .ok (.iconst 0, 1) := by decide +kernel
theorem dX6_about_4 : decode cX6_about 4 = .ok (.istore 6, 2) := by decide +kernel
theorem dX6_about_6 : decode cX6_about 6 = .ok (.iload 6, 2) := by decide +kernel
theorem dX6_about_8 : decode cX6_about 8 = .ok (.aload_n 0, 1) := by decide +kernel
theorem dX6_about_9 : decode cX6_about 9 = .ok (.getfield 50, 3) := by decide +kernel
theorem dX6_about_12 : decode cX6_about 12 = .ok (.getfield 153, 3) := by decide +kernel
theorem dX6_about_15 : decode cX6_about 15 = .ok (.if_icmp .ge 61, 3) := by decide +kernel
theorem dX6_about_18 : decode cX6_about 18 = .ok (.aload_n 0, 1) := by decide +kernel
theorem dX6_about_19 : decode cX6_about 19 = .ok (.getfield 50, 3) := by decide +kernel
theorem dX6_about_22 : decode cX6_about 22 = .ok (.getfield 231, 3) := by decide +kernel
theorem dX6_about_25 : decode cX6_about 25 = .ok (.iload 6, 2) := by decide +kernel
theorem dX6_about_27 : decode cX6_about 27 = .ok (.iaload, 1) := by decide +kernel
theorem dX6_about_28 : decode cX6_about 28 = .ok (.iconst (-1), 1) := by decide +kernel
theorem dX6_about_29 : decode cX6_about 29 = .ok (.if_icmp .ne 27, 3) := by decide +kernel
theorem dX6_about_32 : decode cX6_about 32 = .ok (.lload 4, 2) := by decide +kernel
theorem dX6_about_34 : decode cX6_about 34 = .ok (.aload_n 0, 1) := by decide +kernel
theorem dX6_about_35 : decode cX6_about 35 = .ok (.aload_n 0, 1) := by decide +kernel
theorem dX6_about_36 : decode cX6_about 36 = .ok (.getfield 50, 3) := by decide +kernel
theorem dX6_about_39 : decode cX6_about 39 = .ok (.getfield 234, 3) := by decide +kernel
theorem dX6_about_42 : decode cX6_about 42 = .ok (.iload 6, 2) := by decide +kernel
theorem dX6_about_44 : decode cX6_about 44 = .ok (.iaload, 1) := by decide +kernel
theorem dX6_about_45 : decode cX6_about 45 = .ok (.iload_n 1, 1) := by decide +kernel
theorem dX6_about_46 : decode cX6_about 46 = .ok (.iload_n 2, 1) := by decide +kernel
theorem dX6_about_47 : decode cX6_about 47 = .ok (.invokevirtual 137, 3) := by decide +kernel
theorem dX6_about_50 : decode cX6_about 50 = .ok (.ladd, 1) := by decide +kernel
theorem dX6_about_51 : decode cX6_about 51 = .ok (.lstore 4, 2) := by decide +kernel
theorem dX6_about_53 : decode cX6_about 53 = .ok (.goto 17, 3) := by decide +kernel
theorem dX6_about_56 : decode cX6_about 56 = .ok (.lload 4, 2) := by decide +kernel
theorem dX6_about_58 : decode cX6_about 58 = .ok (.aload_n 0, 1) := by decide +kernel
theorem dX6_about_59 : decode cX6_about 59 = .ok (.iload 6, 2) := by decide +kernel
theorem dX6_about_61 : decode cX6_about 61 = .ok (.iload_n 1, 1) := by decide +kernel
theorem dX6_about_62 : decode cX6_about 62 = .ok (.iload_n 2, 1) := by decide +kernel
theorem dX6_about_63 : decode cX6_about 63 = .ok (.iload_n 3, 1) := by decide +kernel
theorem dX6_about_64 : decode cX6_about 64 = .ok (.invokevirtual 237, 3) := by decide +kernel
theorem dX6_about_67 : decode cX6_about 67 = .ok (.ladd, 1) := by decide +kernel
theorem dX6_about_68 : decode cX6_about 68 = .ok (.lstore 4, 2) := by decide +kernel
theorem dX6_about_70 : decode cX6_about 70 = .ok (.iinc 6 1, 3) := by decide +kernel
theorem dX6_about_73 : decode cX6_about 73 = .ok (.goto (-67), 3) := by decide +kernel
theorem dX6_about_76 : decode cX6_about 76 = .ok (.lload 4, 2) := by decide +kernel
theorem dX6_about_78 : decode cX6_about 78 = .ok (.lreturn, 1) := by decide +kernel
theorem dX6_wholeEnd_0 : decode cX6_wholeEnd 0 = .ok (.lconst 0, 1) := by decide +kernel
theorem dX6_wholeEnd_1 : decode cX6_wholeEnd 1 = .ok (.lstore 4, 2) := by decide +kernel
theorem dX6_wholeEnd_3 : decode cX6_wholeEnd 3 = .ok (.iconst 0, 1) := by decide +kernel
theorem dX6_wholeEnd_4 : decode cX6_wholeEnd 4 = .ok (.istore 6, 2) := by decide +kernel
theorem dX6_wholeEnd_6 : decode cX6_wholeEnd 6 = .ok (.iload 6, 2) := by decide +kernel
theorem dX6_wholeEnd_8 : decode cX6_wholeEnd 8 = .ok (.aload_n 0, 1) := by decide +kernel
theorem dX6_wholeEnd_9 : decode cX6_wholeEnd 9 = .ok (.getfield 50, 3) := by decide +kernel
theorem dX6_wholeEnd_12 : decode cX6_wholeEnd 12 = .ok (.getfield 153, 3) := by decide +kernel
theorem dX6_wholeEnd_15 : decode cX6_wholeEnd 15 = .ok (.if_icmp .ge 37, 3) := by decide +kernel
theorem dX6_wholeEnd_18 : decode cX6_wholeEnd 18 = .ok (.aload_n 0, 1) := by decide +kernel
theorem dX6_wholeEnd_19 : decode cX6_wholeEnd 19 = .ok (.getfield 50, 3) := by decide +kernel
theorem dX6_wholeEnd_22 : decode cX6_wholeEnd 22 = .ok (.getfield 231, 3) := by decide +kernel
theorem dX6_wholeEnd_25 : decode cX6_wholeEnd 25 = .ok (.iload 6, 2) := by decide +kernel
theorem dX6_wholeEnd_27 : decode cX6_wholeEnd 27 = .ok (.iaload, 1) := by decide +kernel
theorem dX6_wholeEnd_28 : decode cX6_wholeEnd 28 = .ok (.iconst (-1), 1) := by decide +kernel
theorem dX6_wholeEnd_29 : decode cX6_wholeEnd 29 = .ok (.if_icmp .eq 17, 3) := by decide +kernel
theorem dX6_wholeEnd_32 : decode cX6_wholeEnd 32 = .ok (.lload 4, 2) := by decide +kernel
theorem dX6_wholeEnd_34 : decode cX6_wholeEnd 34 = .ok (.aload_n 0, 1) := by decide +kernel
theorem dX6_wholeEnd_35 : decode cX6_wholeEnd 35 = .ok (.iload 6, 2) := by decide +kernel
theorem dX6_wholeEnd_37 : decode cX6_wholeEnd 37 = .ok (.iload_n 1, 1) := by decide +kernel
theorem dX6_wholeEnd_38 : decode cX6_wholeEnd 38 = .ok (.iload_n 2, 1) := by decide +kernel
theorem dX6_wholeEnd_39 : decode cX6_wholeEnd 39 = .ok (.iload_n 3, 1) := by decide +kernel
theorem dX6_wholeEnd_40 : decode cX6_wholeEnd 40 = .ok (.invokevirtual 241, 3) := by decide +kernel
theorem dX6_wholeEnd_43 : decode cX6_wholeEnd 43 = .ok (.ladd, 1) := by decide +kernel
theorem dX6_wholeEnd_44 : decode cX6_wholeEnd 44 = .ok (.lstore 4, 2) := by decide +kernel
theorem dX6_wholeEnd_46 : decode cX6_wholeEnd 46 = .ok (.iinc 6 1, 3) := by decide +kernel
theorem dX6_wholeEnd_49 : decode cX6_wholeEnd 49 = .ok (.goto (-43), 3) := by decide +kernel
theorem dX6_wholeEnd_52 : decode cX6_wholeEnd 52 = .ok (.lload 4, 2) := by decide +kernel
theorem dX6_wholeEnd_54 : decode cX6_wholeEnd 54 = .ok (.lreturn, 1) := by decide +kernel
theorem dX6_termOf_0 : decode cX6_termOf 0 = .ok (.aload_n 0, 1) := by decide +kernel
theorem dX6_termOf_1 : decode cX6_termOf 1 = .ok (.getfield 50, 3) := by decide +kernel
theorem dX6_termOf_4 : decode cX6_termOf 4 = .ok (.getfield 231, 3) := by decide +kernel
theorem dX6_termOf_7 : decode cX6_termOf 7 = .ok (.iload_n 1, 1) := by decide +kernel
theorem dX6_termOf_8 : decode cX6_termOf 8 = .ok (.iaload, 1) := by decide +kernel
theorem dX6_termOf_9 : decode cX6_termOf 9 = .ok (.istore 5, 2) := by decide +kernel
theorem dX6_termOf_11 : decode cX6_termOf 11 = .ok (.aload_n 0, 1) := by decide +kernel
theorem dX6_termOf_12 : decode cX6_termOf 12 = .ok (.getfield 21, 3) := by decide +kernel
theorem dX6_termOf_15 : decode cX6_termOf 15 = .ok (.iload 5, 2) := by decide +kernel
theorem dX6_termOf_17 : decode cX6_termOf 17 = .ok (.aload_n 0, 1) := by decide +kernel
theorem dX6_termOf_18 : decode cX6_termOf 18 = .ok (.getfield 50, 3) := by decide +kernel
theorem dX6_termOf_21 : decode cX6_termOf 21 = .ok (.getfield 234, 3) := by decide +kernel
theorem dX6_termOf_24 : decode cX6_termOf 24 = .ok (.iload_n 1, 1) := by decide +kernel
theorem dX6_termOf_25 : decode cX6_termOf 25 = .ok (.iaload, 1) := by decide +kernel
theorem dX6_termOf_26 : decode cX6_termOf 26 = .ok (.aload_n 0, 1) := by decide +kernel
theorem dX6_termOf_27 : decode cX6_termOf 27 = .ok (.getfield 50, 3) := by decide +kernel
theorem dX6_termOf_30 : decode cX6_termOf 30 = .ok (.getfield 244, 3) := by decide +kernel
theorem dX6_termOf_33 : decode cX6_termOf 33 = .ok (.iload_n 1, 1) := by decide +kernel
theorem dX6_termOf_34 : decode cX6_termOf 34 = .ok (.iaload, 1) := by decide +kernel
theorem dX6_termOf_35 : decode cX6_termOf 35 = .ok (.invokevirtual 165, 3) := by decide +kernel
theorem dX6_termOf_38 : decode cX6_termOf 38 = .ok (.aload_n 0, 1) := by decide +kernel
theorem dX6_termOf_39 : decode cX6_termOf 39 = .ok (.getfield 41, 3) := by decide +kernel
theorem dX6_termOf_42 : decode cX6_termOf 42 = .ok (.aload_n 0, 1) := by decide +kernel
theorem dX6_termOf_43 : decode cX6_termOf 43 = .ok (.getfield 21, 3) := by decide +kernel
theorem dX6_termOf_46 : decode cX6_termOf 46 = .ok (.getfield 174, 3) := by decide +kernel
theorem dX6_termOf_49 : decode cX6_termOf 49 = .ok (.iload 4, 2) := by decide +kernel
theorem dX6_termOf_51 : decode cX6_termOf 51 = .ok (.invokevirtual 247, 3) := by decide +kernel
theorem dX6_termOf_54 : decode cX6_termOf 54 = .ok (.aload_n 0, 1) := by decide +kernel
theorem dX6_termOf_55 : decode cX6_termOf 55 = .ok (.getfield 41, 3) := by decide +kernel
theorem dX6_termOf_58 : decode cX6_termOf 58 = .ok (.getfield 251, 3) := by decide +kernel
theorem dX6_termOf_61 : decode cX6_termOf 61 = .ok (.iload_n 2, 1) := by decide +kernel
theorem dX6_termOf_62 : decode cX6_termOf 62 = .ok (.iload 5, 2) := by decide +kernel
theorem dX6_termOf_64 : decode cX6_termOf 64 = .ok (.aload_n 0, 1) := by decide +kernel
theorem dX6_termOf_65 : decode cX6_termOf 65 = .ok (.getfield 50, 3) := by decide +kernel
theorem dX6_termOf_68 : decode cX6_termOf 68 = .ok (.getfield 234, 3) := by decide +kernel
theorem dX6_termOf_71 : decode cX6_termOf 71 = .ok (.iload_n 1, 1) := by decide +kernel
theorem dX6_termOf_72 : decode cX6_termOf 72 = .ok (.iaload, 1) := by decide +kernel
theorem dX6_termOf_73 : decode cX6_termOf 73 = .ok (.invokestatic 254, 3) := by decide +kernel
theorem dX6_termOf_76 : decode cX6_termOf 76 = .ok (.i2l, 1) := by decide +kernel
theorem dX6_termOf_77 : decode cX6_termOf 77 = .ok (.iload_n 3, 1) := by decide +kernel
theorem dX6_termOf_78 : decode cX6_termOf 78 = .ok (.iload 5, 2) := by decide +kernel
theorem dX6_termOf_80 : decode cX6_termOf 80 = .ok (.aload_n 0, 1) := by decide +kernel
theorem dX6_termOf_81 : decode cX6_termOf 81 = .ok (.getfield 50, 3) := by decide +kernel
theorem dX6_termOf_84 : decode cX6_termOf 84 = .ok (.getfield 244, 3) := by decide +kernel
theorem dX6_termOf_87 : decode cX6_termOf 87 = .ok (.iload_n 1, 1) := by decide +kernel
theorem dX6_termOf_88 : decode cX6_termOf 88 = .ok (.iaload, 1) := by decide +kernel
theorem dX6_termOf_89 : decode cX6_termOf 89 = .ok (.invokestatic 254, 3) := by decide +kernel
theorem dX6_termOf_92 : decode cX6_termOf 92 = .ok (.i2l, 1) := by decide +kernel
theorem dX6_termOf_93 : decode cX6_termOf 93 = .ok (.invokevirtual 227, 3) := by decide +kernel
theorem dX6_termOf_96 : decode cX6_termOf 96 = .ok (.lreturn, 1) := by decide +kernel
theorem dX6_endOf_0 : decode cX6_endOf 0 = .ok (.aload_n 0, 1) := by decide +kernel
theorem dX6_endOf_1 : decode cX6_endOf 1 = .ok (.getfield 50, 3) := by decide +kernel
theorem dX6_endOf_4 : decode cX6_endOf 4 = .ok (.getfield 231, 3) := by decide +kernel
theorem dX6_endOf_7 : decode cX6_endOf 7 = .ok (.iload_n 1, 1) := by decide +kernel
theorem dX6_endOf_8 : decode cX6_endOf 8 = .ok (.iaload, 1) := by decide +kernel
theorem dX6_endOf_9 : decode cX6_endOf 9 = .ok (.istore 5, 2) := by decide +kernel
theorem dX6_endOf_11 : decode cX6_endOf 11 = .ok (.aload_n 0, 1) := by decide +kernel
theorem dX6_endOf_12 : decode cX6_endOf 12 = .ok (.getfield 21, 3) := by decide +kernel
theorem dX6_endOf_15 : decode cX6_endOf 15 = .ok (.iload 5, 2) := by decide +kernel
theorem dX6_endOf_17 : decode cX6_endOf 17 = .ok (.aload_n 0, 1) := by decide +kernel
theorem dX6_endOf_18 : decode cX6_endOf 18 = .ok (.getfield 50, 3) := by decide +kernel
theorem dX6_endOf_21 : decode cX6_endOf 21 = .ok (.getfield 234, 3) := by decide +kernel
theorem dX6_endOf_24 : decode cX6_endOf 24 = .ok (.iload_n 1, 1) := by decide +kernel
theorem dX6_endOf_25 : decode cX6_endOf 25 = .ok (.iaload, 1) := by decide +kernel
theorem dX6_endOf_26 : decode cX6_endOf 26 = .ok (.aload_n 0, 1) := by decide +kernel
theorem dX6_endOf_27 : decode cX6_endOf 27 = .ok (.getfield 50, 3) := by decide +kernel
theorem dX6_endOf_30 : decode cX6_endOf 30 = .ok (.getfield 244, 3) := by decide +kernel
theorem dX6_endOf_33 : decode cX6_endOf 33 = .ok (.iload_n 1, 1) := by decide +kernel
theorem dX6_endOf_34 : decode cX6_endOf 34 = .ok (.iaload, 1) := by decide +kernel
theorem dX6_endOf_35 : decode cX6_endOf 35 = .ok (.invokevirtual 165, 3) := by decide +kernel
theorem dX6_endOf_38 : decode cX6_endOf 38 = .ok (.aload_n 0, 1) := by decide +kernel
theorem dX6_endOf_39 : decode cX6_endOf 39 = .ok (.getfield 41, 3) := by decide +kernel
theorem dX6_endOf_42 : decode cX6_endOf 42 = .ok (.aload_n 0, 1) := by decide +kernel
theorem dX6_endOf_43 : decode cX6_endOf 43 = .ok (.getfield 21, 3) := by decide +kernel
theorem dX6_endOf_46 : decode cX6_endOf 46 = .ok (.getfield 168, 3) := by decide +kernel
theorem dX6_endOf_49 : decode cX6_endOf 49 = .ok (.i2l, 1) := by decide +kernel
theorem dX6_endOf_50 : decode cX6_endOf 50 = .ok (.iload 5, 2) := by decide +kernel
theorem dX6_endOf_52 : decode cX6_endOf 52 = .ok (.invokestatic 257, 3) := by decide +kernel
theorem dX6_endOf_55 : decode cX6_endOf 55 = .ok (.iconst 1, 1) := by decide +kernel
theorem dX6_endOf_56 : decode cX6_endOf 56 = .ok (.isub, 1) := by decide +kernel
theorem dX6_endOf_57 : decode cX6_endOf 57 = .ok (.iload 4, 2) := by decide +kernel
theorem dX6_endOf_59 : decode cX6_endOf 59 = .ok (.invokevirtual 260, 3) := by decide +kernel
theorem dX6_endOf_62 : decode cX6_endOf 62 = .ok (.aload_n 0, 1) := by decide +kernel
theorem dX6_endOf_63 : decode cX6_endOf 63 = .ok (.getfield 41, 3) := by decide +kernel
theorem dX6_endOf_66 : decode cX6_endOf 66 = .ok (.getfield 251, 3) := by decide +kernel
theorem dX6_endOf_69 : decode cX6_endOf 69 = .ok (.iload_n 2, 1) := by decide +kernel
theorem dX6_endOf_70 : decode cX6_endOf 70 = .ok (.iload 5, 2) := by decide +kernel
theorem dX6_endOf_72 : decode cX6_endOf 72 = .ok (.aload_n 0, 1) := by decide +kernel
theorem dX6_endOf_73 : decode cX6_endOf 73 = .ok (.getfield 50, 3) := by decide +kernel
theorem dX6_endOf_76 : decode cX6_endOf 76 = .ok (.getfield 234, 3) := by decide +kernel
theorem dX6_endOf_79 : decode cX6_endOf 79 = .ok (.iload_n 1, 1) := by decide +kernel
theorem dX6_endOf_80 : decode cX6_endOf 80 = .ok (.iaload, 1) := by decide +kernel
theorem dX6_endOf_81 : decode cX6_endOf 81 = .ok (.invokestatic 254, 3) := by decide +kernel
theorem dX6_endOf_84 : decode cX6_endOf 84 = .ok (.invokestatic 264, 3) := by decide +kernel
theorem dX6_endOf_87 : decode cX6_endOf 87 = .ok (.i2l, 1) := by decide +kernel
theorem dX6_endOf_88 : decode cX6_endOf 88 = .ok (.iload_n 3, 1) := by decide +kernel
theorem dX6_endOf_89 : decode cX6_endOf 89 = .ok (.iload 5, 2) := by decide +kernel
theorem dX6_endOf_91 : decode cX6_endOf 91 = .ok (.aload_n 0, 1) := by decide +kernel
theorem dX6_endOf_92 : decode cX6_endOf 92 = .ok (.getfield 50, 3) := by decide +kernel
theorem dX6_endOf_95 : decode cX6_endOf 95 = .ok (.getfield 244, 3) := by decide +kernel
theorem dX6_endOf_98 : decode cX6_endOf 98 = .ok (.iload_n 1, 1) := by decide +kernel
theorem dX6_endOf_99 : decode cX6_endOf 99 = .ok (.iaload, 1) := by decide +kernel
theorem dX6_endOf_100 : decode cX6_endOf 100 = .ok (.invokestatic 254, 3) := by decide +kernel
theorem dX6_endOf_103 : decode cX6_endOf 103 = .ok (.invokestatic 264, 3) := by decide +kernel
theorem dX6_endOf_106 : decode cX6_endOf 106 = .ok (.i2l, 1) := by decide +kernel
theorem dX6_endOf_107 : decode cX6_endOf 107 = .ok (.invokevirtual 227, 3) := by decide +kernel
theorem dX6_endOf_110 : decode cX6_endOf 110 = .ok (.lreturn, 1) := by decide +kernel
theorem dX6_isPlace_0 : decode cX6_isPlace 0 = .ok (.iload_n 0, 1) := by decide +kernel
theorem dX6_isPlace_1 : decode cX6_isPlace 1 = .ok (.ifCond .lt 23, 3) := by decide +kernel
theorem dX6_isPlace_4 : decode cX6_isPlace 4 = .ok (.iload_n 0, 1) := by decide +kernel
theorem dX6_isPlace_5 : decode cX6_isPlace 5 = .ok (.bipush 64, 2) := by decide +kernel
theorem dX6_isPlace_7 : decode cX6_isPlace 7 = .ok (.if_icmp .ge 17, 3) := by decide +kernel
theorem dX6_isPlace_10 : decode cX6_isPlace 10 = .ok (.iload_n 1, 1) := by decide +kernel
theorem dX6_isPlace_11 : decode cX6_isPlace 11 = .ok (.ifCond .lt 13, 3) := by decide +kernel
theorem dX6_isPlace_14 : decode cX6_isPlace 14 = .ok (.iload_n 1, 1) := by decide +kernel
theorem dX6_isPlace_15 : decode cX6_isPlace 15 = .ok (.bipush 64, 2) := by decide +kernel
theorem dX6_isPlace_17 : decode cX6_isPlace 17 = .ok (.if_icmp .ge 7, 3) := by decide +kernel
theorem dX6_isPlace_20 : decode cX6_isPlace 20 = .ok (.iconst 1, 1) := by decide +kernel
theorem dX6_isPlace_21 : decode cX6_isPlace 21 = .ok (.goto 4, 3) := by decide +kernel
theorem dX6_isPlace_24 : decode cX6_isPlace 24 = .ok (.iconst 0, 1) := by decide +kernel
theorem dX6_isPlace_25 : decode cX6_isPlace 25 = .ok (.ireturn, 1) := by decide +kernel
theorem dX6_isWeight_0 : decode cX6_isWeight 0 = .ok (.iload_n 0, 1) := by decide +kernel
theorem dX6_isWeight_1 : decode cX6_isWeight 1 = .ok (.sipush (-1000), 3) := by decide +kernel
theorem dX6_isWeight_4 : decode cX6_isWeight 4 = .ok (.if_icmp .lt 14, 3) := by decide +kernel
theorem dX6_isWeight_7 : decode cX6_isWeight 7 = .ok (.iload_n 0, 1) := by decide +kernel
theorem dX6_isWeight_8 : decode cX6_isWeight 8 = .ok (.sipush 1000, 3) := by decide +kernel
theorem dX6_isWeight_11 : decode cX6_isWeight 11 = .ok (.if_icmp .gt 7, 3) := by decide +kernel
theorem dX6_isWeight_14 : decode cX6_isWeight 14 = .ok (.iconst 1, 1) := by decide +kernel
theorem dX6_isWeight_15 : decode cX6_isWeight 15 = .ok (.goto 4, 3) := by decide +kernel
theorem dX6_isWeight_18 : decode cX6_isWeight 18 = .ok (.iconst 0, 1) := by decide +kernel
theorem dX6_isWeight_19 : decode cX6_isWeight 19 = .ok (.ireturn, 1) := by decide +kernel
theorem dX6_isPaceNumber_0 : decode cX6_isPaceNumber 0 = .ok (.iload_n 0, 1) := by decide +kernel
theorem dX6_isPaceNumber_1 : decode cX6_isPaceNumber 1 = .ok (.bipush (-32), 2) := by decide +kernel
theorem dX6_isPaceNumber_3 : decode cX6_isPaceNumber 3 = .ok (.if_icmp .lt 13, 3) := by decide +kernel
theorem dX6_isPaceNumber_6 : decode cX6_isPaceNumber 6 = .ok (.iload_n 0, 1) := by decide +kernel
theorem dX6_isPaceNumber_7 : decode cX6_isPaceNumber 7 = .ok (.bipush 31, 2) := by decide +kernel
theorem dX6_isPaceNumber_9 : decode cX6_isPaceNumber 9 = .ok (.if_icmp .gt 7, 3) := by decide +kernel
theorem dX6_isPaceNumber_12 : decode cX6_isPaceNumber 12 = .ok (.iconst 1, 1) := by decide +kernel
theorem dX6_isPaceNumber_13 : decode cX6_isPaceNumber 13 = .ok (.goto 4, 3) := by decide +kernel
theorem dX6_isPaceNumber_16 : decode cX6_isPaceNumber 16 = .ok (.iconst 0, 1) := by decide +kernel
theorem dX6_isPaceNumber_17 : decode cX6_isPaceNumber 17 = .ok (.ireturn, 1) := by decide +kernel
theorem dX6_isDistance_0 : decode cX6_isDistance 0 = .ok (.iload_n 0, 1) := by decide +kernel
theorem dX6_isDistance_1 : decode cX6_isDistance 1 = .ok (.iconst 1, 1) := by decide +kernel
theorem dX6_isDistance_2 : decode cX6_isDistance 2 = .ok (.if_icmp .lt 12, 3) := by decide +kernel
theorem dX6_isDistance_5 : decode cX6_isDistance 5 = .ok (.iload_n 0, 1) := by decide +kernel
theorem dX6_isDistance_6 : decode cX6_isDistance 6 = .ok (.iconst 4, 1) := by decide +kernel
theorem dX6_isDistance_7 : decode cX6_isDistance 7 = .ok (.if_icmp .gt 7, 3) := by decide +kernel
theorem dX6_isDistance_10 : decode cX6_isDistance 10 = .ok (.iconst 1, 1) := by decide +kernel
theorem dX6_isDistance_11 : decode cX6_isDistance 11 = .ok (.goto 4, 3) := by decide +kernel
theorem dX6_isDistance_14 : decode cX6_isDistance 14 = .ok (.iconst 0, 1) := by decide +kernel
theorem dX6_isDistance_15 : decode cX6_isDistance 15 = .ok (.ireturn, 1) := by decide +kernel
theorem dX6_isPowers_0 : decode cX6_isPowers 0 = .ok (.iload_n 0, 1) := by decide +kernel
theorem dX6_isPowers_1 : decode cX6_isPowers 1 = .ok (.ifCond .lt 23, 3) := by decide +kernel
theorem dX6_isPowers_4 : decode cX6_isPowers 4 = .ok (.iload_n 0, 1) := by decide +kernel
theorem dX6_isPowers_5 : decode cX6_isPowers 5 = .ok (.iconst 4, 1) := by decide +kernel
theorem dX6_isPowers_6 : decode cX6_isPowers 6 = .ok (.if_icmp .gt 18, 3) := by decide +kernel
theorem dX6_isPowers_9 : decode cX6_isPowers 9 = .ok (.iload_n 1, 1) := by decide +kernel
theorem dX6_isPowers_10 : decode cX6_isPowers 10 = .ok (.ifCond .lt 14, 3) := by decide +kernel
theorem dX6_isPowers_13 : decode cX6_isPowers 13 = .ok (.iload_n 1, 1) := by decide +kernel
theorem dX6_isPowers_14 : decode cX6_isPowers 14 = .ok (.iconst 4, 1) := by decide +kernel
theorem dX6_isPowers_15 : decode cX6_isPowers 15 = .ok (.iload_n 0, 1) := by decide +kernel
theorem dX6_isPowers_16 : decode cX6_isPowers 16 = .ok (.isub, 1) := by decide +kernel
theorem dX6_isPowers_17 : decode cX6_isPowers 17 = .ok (.if_icmp .gt 7, 3) := by decide +kernel
theorem dX6_isPowers_20 : decode cX6_isPowers 20 = .ok (.iconst 1, 1) := by decide +kernel
theorem dX6_isPowers_21 : decode cX6_isPowers 21 = .ok (.goto 4, 3) := by decide +kernel
theorem dX6_isPowers_24 : decode cX6_isPowers 24 = .ok (.iconst 0, 1) := by decide +kernel
theorem dX6_isPowers_25 : decode cX6_isPowers 25 = .ok (.ireturn, 1) := by decide +kernel
theorem dX6_slot_0 : decode cX6_slot 0 = .ok (.iload_n 0, 1) := by decide +kernel
theorem dX6_slot_1 : decode cX6_slot 1 = .ok (.iconst 5, 1) := by decide +kernel
theorem dX6_slot_2 : decode cX6_slot 2 = .ok (.imul, 1) := by decide +kernel
theorem dX6_slot_3 : decode cX6_slot 3 = .ok (.iload_n 1, 1) := by decide +kernel
theorem dX6_slot_4 : decode cX6_slot 4 = .ok (.iadd, 1) := by decide +kernel
theorem dX6_slot_5 : decode cX6_slot 5 = .ok (.ireturn, 1) := by decide +kernel
theorem dX6_sideOf_0 : decode cX6_sideOf 0 = .ok (.bipush 64, 2) := by decide +kernel
theorem dX6_sideOf_2 : decode cX6_sideOf 2 = .ok (.iload_n 0, 1) := by decide +kernel
theorem dX6_sideOf_3 : decode cX6_sideOf 3 = .ok (.ishr, 1) := by decide +kernel
theorem dX6_sideOf_4 : decode cX6_sideOf 4 = .ok (.ireturn, 1) := by decide +kernel
theorem dX6_fromMiddle_0 : decode cX6_fromMiddle 0 = .ok (.iload_n 1, 1) := by decide +kernel
theorem dX6_fromMiddle_1 : decode cX6_fromMiddle 1 = .ok (.invokestatic 257, 3) := by decide +kernel
theorem dX6_fromMiddle_4 : decode cX6_fromMiddle 4 = .ok (.istore_n 3, 1) := by decide +kernel
theorem dX6_fromMiddle_5 : decode cX6_fromMiddle 5 = .ok (.iconst 2, 1) := by decide +kernel
theorem dX6_fromMiddle_6 : decode cX6_fromMiddle 6 = .ok (.iload_n 0, 1) := by decide +kernel
theorem dX6_fromMiddle_7 : decode cX6_fromMiddle 7 = .ok (.imul, 1) := by decide +kernel
theorem dX6_fromMiddle_8 : decode cX6_fromMiddle 8 = .ok (.iconst 2, 1) := by decide +kernel
theorem dX6_fromMiddle_9 : decode cX6_fromMiddle 9 = .ok (.iload_n 2, 1) := by decide +kernel
theorem dX6_fromMiddle_10 : decode cX6_fromMiddle 10 = .ok (.imul, 1) := by decide +kernel
theorem dX6_fromMiddle_11 : decode cX6_fromMiddle 11 = .ok (.iload_n 3, 1) := by decide +kernel
theorem dX6_fromMiddle_12 : decode cX6_fromMiddle 12 = .ok (.imul, 1) := by decide +kernel
theorem dX6_fromMiddle_13 : decode cX6_fromMiddle 13 = .ok (.iload_n 3, 1) := by decide +kernel
theorem dX6_fromMiddle_14 : decode cX6_fromMiddle 14 = .ok (.iadd, 1) := by decide +kernel
theorem dX6_fromMiddle_15 : decode cX6_fromMiddle 15 = .ok (.iconst 1, 1) := by decide +kernel
theorem dX6_fromMiddle_16 : decode cX6_fromMiddle 16 = .ok (.isub, 1) := by decide +kernel
theorem dX6_fromMiddle_17 : decode cX6_fromMiddle 17 = .ok (.isub, 1) := by decide +kernel
theorem dX6_fromMiddle_18 : decode cX6_fromMiddle 18 = .ok (.ireturn, 1) := by decide +kernel
theorem dX6_wrapPace_0 : decode cX6_wrapPace 0 = .ok (.lload_n 0, 1) := by decide +kernel
theorem dX6_wrapPace_1 : decode cX6_wrapPace 1 = .ok (.ldc2_w 269, 3) := by decide +kernel
theorem dX6_wrapPace_4 : decode cX6_wrapPace 4 = .ok (.lsub, 1) := by decide +kernel
theorem dX6_wrapPace_5 : decode cX6_wrapPace 5 = .ok (.ldc2_w 271, 3) := by decide +kernel
theorem dX6_wrapPace_8 : decode cX6_wrapPace 8 = .ok (.land, 1) := by decide +kernel
theorem dX6_wrapPace_9 : decode cX6_wrapPace 9 = .ok (.l2i, 1) := by decide +kernel
theorem dX6_wrapPace_10 : decode cX6_wrapPace 10 = .ok (.bipush (-32), 2) := by decide +kernel
theorem dX6_wrapPace_12 : decode cX6_wrapPace 12 = .ok (.iadd, 1) := by decide +kernel
theorem dX6_wrapPace_13 : decode cX6_wrapPace 13 = .ok (.ireturn, 1) := by decide +kernel
theorem dX6_wrapPlace_0 : decode cX6_wrapPlace 0 = .ok (.iload_n 0, 1) := by decide +kernel
theorem dX6_wrapPlace_1 : decode cX6_wrapPlace 1 = .ok (.bipush 63, 2) := by decide +kernel
theorem dX6_wrapPlace_3 : decode cX6_wrapPlace 3 = .ok (.iand, 1) := by decide +kernel
theorem dX6_wrapPlace_4 : decode cX6_wrapPlace 4 = .ok (.ireturn, 1) := by decide +kernel
