theorem dX0_init_0 : decode cX0_init 0 = .ok (.aload_n 0, 1) := by decide +kernel
theorem dX0_init_1 : decode cX0_init 1 = .ok (.invokespecial 3, 3) := by decide +kernel
theorem dX0_init_4 : decode cX0_init 4 = .ok (.aload_n 0, 1) := by decide +kernel
theorem dX0_init_5 : decode cX0_init 5 = .ok (.sipush 1365, 3) := by decide +kernel
theorem dX0_init_8 : decode cX0_init 8 = .ok (.newarray .int, 2) := by decide +kernel
theorem dX0_init_10 : decode cX0_init 10 = .ok (.putfield 9, 3) := by decide +kernel
theorem dX0_init_13 : decode cX0_init 13 = .ok (.aload_n 0, 1) := by decide +kernel
theorem dX0_init_14 : decode cX0_init 14 = .ok (.iconst 2, 1) := by decide +kernel
theorem dX0_init_15 : decode cX0_init 15 = .ok (.putfield 15, 3) := by decide +kernel
theorem dX0_init_18 : decode cX0_init 18 = .ok (.aload_n 0, 1) := by decide +kernel
theorem dX0_init_19 : decode cX0_init 19 = .ok (.bipush 25, 2) := by decide +kernel
theorem dX0_init_21 : decode cX0_init 21 = .ok (.newarray .long, 2) := by decide +kernel
theorem dX0_init_23 : decode cX0_init 23 = .ok (.putfield 19, 3) := by decide +kernel
theorem dX0_init_26 : decode cX0_init 26 = .ok (.aload_n 0, 1) := by decide +kernel
theorem dX0_init_27 : decode cX0_init 27 = .ok (.iconst 0, 1) := by decide +kernel
theorem dX0_init_28 : decode cX0_init 28 = .ok (.putfield 23, 3) := by decide +kernel
theorem dX0_init_31 : decode cX0_init 31 = .ok (.aload_n 0, 1) := by decide +kernel
theorem dX0_init_32 : decode cX0_init 32 = .ok (.aload_n 1, 1) := by decide +kernel
theorem dX0_init_33 : decode cX0_init 33 = .ok (.putfield 26, 3) := by decide +kernel
theorem dX0_init_36 : decode cX0_init 36 = .ok (.return_, 1) := by decide +kernel
theorem dX0_enter_0 : decode cX0_enter 0 = .ok (.iconst 0, 1) := by decide +kernel
theorem dX0_enter_1 : decode cX0_enter 1 = .ok (.istore_n 3, 1) := by decide +kernel
theorem dX0_enter_2 : decode cX0_enter 2 = .ok (.iload_n 3, 1) := by decide +kernel
theorem dX0_enter_3 : decode cX0_enter 3 = .ok (.iconst 5, 1) := by decide +kernel
theorem dX0_enter_4 : decode cX0_enter 4 = .ok (.if_icmp .gt 24, 3) := by decide +kernel
theorem dX0_enter_7 : decode cX0_enter 7 = .ok (.aload_n 0, 1) := by decide +kernel
theorem dX0_enter_8 : decode cX0_enter 8 = .ok (.getfield 9, 3) := by decide +kernel
theorem dX0_enter_11 : decode cX0_enter 11 = .ok (.iload_n 3, 1) := by decide +kernel
theorem dX0_enter_12 : decode cX0_enter 12 = .ok (.iload_n 1, 1) := by decide +kernel
theorem dX0_enter_13 : decode cX0_enter 13 = .ok (.iload_n 2, 1) := by decide +kernel
theorem dX0_enter_14 : decode cX0_enter 14 = .ok (.invokestatic 30, 3) := by decide +kernel
theorem dX0_enter_17 : decode cX0_enter 17 = .ok (.dup2, 1) := by decide +kernel
theorem dX0_enter_18 : decode cX0_enter 18 = .ok (.iaload, 1) := by decide +kernel
theorem dX0_enter_19 : decode cX0_enter 19 = .ok (.iconst 1, 1) := by decide +kernel
theorem dX0_enter_20 : decode cX0_enter 20 = .ok (.iadd, 1) := by decide +kernel
theorem dX0_enter_21 : decode cX0_enter 21 = .ok (.iastore, 1) := by decide +kernel
theorem dX0_enter_22 : decode cX0_enter 22 = .ok (.iinc 3 1, 3) := by decide +kernel
theorem dX0_enter_25 : decode cX0_enter 25 = .ok (.goto (-23), 3) := by decide +kernel
theorem dX0_enter_28 : decode cX0_enter 28 = .ok (.return_, 1) := by decide +kernel
theorem dX0_leave_0 : decode cX0_leave 0 = .ok (.iconst 0, 1) := by decide +kernel
theorem dX0_leave_1 : decode cX0_leave 1 = .ok (.istore_n 3, 1) := by decide +kernel
theorem dX0_leave_2 : decode cX0_leave 2 = .ok (.iload_n 3, 1) := by decide +kernel
theorem dX0_leave_3 : decode cX0_leave 3 = .ok (.iconst 5, 1) := by decide +kernel
theorem dX0_leave_4 : decode cX0_leave 4 = .ok (.if_icmp .gt 24, 3) := by decide +kernel
theorem dX0_leave_7 : decode cX0_leave 7 = .ok (.aload_n 0, 1) := by decide +kernel
theorem dX0_leave_8 : decode cX0_leave 8 = .ok (.getfield 9, 3) := by decide +kernel
theorem dX0_leave_11 : decode cX0_leave 11 = .ok (.iload_n 3, 1) := by decide +kernel
theorem dX0_leave_12 : decode cX0_leave 12 = .ok (.iload_n 1, 1) := by decide +kernel
theorem dX0_leave_13 : decode cX0_leave 13 = .ok (.iload_n 2, 1) := by decide +kernel
theorem dX0_leave_14 : decode cX0_leave 14 = .ok (.invokestatic 30, 3) := by decide +kernel
theorem dX0_leave_17 : decode cX0_leave 17 = .ok (.dup2, 1) := by decide +kernel
theorem dX0_leave_18 : decode cX0_leave 18 = .ok (.iaload, 1) := by decide +kernel
theorem dX0_leave_19 : decode cX0_leave 19 = .ok (.iconst 1, 1) := by decide +kernel
theorem dX0_leave_20 : decode cX0_leave 20 = .ok (.isub, 1) := by decide +kernel
theorem dX0_leave_21 : decode cX0_leave 21 = .ok (.iastore, 1) := by decide +kernel
theorem dX0_leave_22 : decode cX0_leave 22 = .ok (.iinc 3 1, 3) := by decide +kernel
theorem dX0_leave_25 : decode cX0_leave 25 = .ok (.goto (-23), 3) := by decide +kernel
theorem dX0_leave_28 : decode cX0_leave 28 = .ok (.return_, 1) := by decide +kernel
theorem dX0_pointsIn_0 : decode cX0_pointsIn 0 = .ok (.aload_n 0, 1) := by decide +kernel
theorem dX0_pointsIn_1 : decode cX0_pointsIn 1 = .ok (.getfield 9, 3) := by decide +kernel
theorem dX0_pointsIn_4 : decode cX0_pointsIn 4 = .ok (.iload_n 1, 1) := by decide +kernel
theorem dX0_pointsIn_5 : decode cX0_pointsIn 5 = .ok (.iload_n 2, 1) := by decide +kernel
theorem dX0_pointsIn_6 : decode cX0_pointsIn 6 = .ok (.iload_n 3, 1) := by decide +kernel
theorem dX0_pointsIn_7 : decode cX0_pointsIn 7 = .ok (.invokestatic 34, 3) := by decide +kernel
theorem dX0_pointsIn_10 : decode cX0_pointsIn 10 = .ok (.iaload, 1) := by decide +kernel
theorem dX0_pointsIn_11 : decode cX0_pointsIn 11 = .ok (.ireturn, 1) := by decide +kernel
theorem dX0_isThere_0 : decode cX0_isThere 0 = .ok (.iload_n 1, 1) := by decide +kernel
theorem dX0_isThere_1 : decode cX0_isThere 1 = .ok (.ifCond .lt 8, 3) := by decide +kernel
theorem dX0_isThere_4 : decode cX0_isThere 4 = .ok (.iload_n 1, 1) := by decide +kernel
theorem dX0_isThere_5 : decode cX0_isThere 5 = .ok (.iconst 5, 1) := by decide +kernel
theorem dX0_isThere_6 : decode cX0_isThere 6 = .ok (.if_icmp .le 5, 3) := by decide +kernel
theorem dX0_isThere_9 : decode cX0_isThere 9 = .ok (.iconst 0, 1) := by decide +kernel
theorem dX0_isThere_10 : decode cX0_isThere 10 = .ok (.ireturn, 1) := by decide +kernel
theorem dX0_isThere_11 : decode cX0_isThere 11 = .ok (.iconst 1, 1) := by decide +kernel
theorem dX0_isThere_12 : decode cX0_isThere 12 = .ok (.iload_n 1, 1) := by decide +kernel
theorem dX0_isThere_13 : decode cX0_isThere 13 = .ok (.ishl, 1) := by decide +kernel
theorem dX0_isThere_14 : decode cX0_isThere 14 = .ok (.istore 4, 2) := by decide +kernel
theorem dX0_isThere_16 : decode cX0_isThere 16 = .ok (.iload_n 2, 1) := by decide +kernel
theorem dX0_isThere_17 : decode cX0_isThere 17 = .ok (.ifCond .lt 19, 3) := by decide +kernel
theorem dX0_isThere_20 : decode cX0_isThere 20 = .ok (.iload_n 2, 1) := by decide +kernel
theorem dX0_isThere_21 : decode cX0_isThere 21 = .ok (.iload 4, 2) := by decide +kernel
theorem dX0_isThere_23 : decode cX0_isThere 23 = .ok (.if_icmp .ge 13, 3) := by decide +kernel
theorem dX0_isThere_26 : decode cX0_isThere 26 = .ok (.iload_n 3, 1) := by decide +kernel
theorem dX0_isThere_27 : decode cX0_isThere 27 = .ok (.ifCond .lt 9, 3) := by decide +kernel
theorem dX0_isThere_30 : decode cX0_isThere 30 = .ok (.iload_n 3, 1) := by decide +kernel
theorem dX0_isThere_31 : decode cX0_isThere 31 = .ok (.iload 4, 2) := by decide +kernel
theorem dX0_isThere_33 : decode cX0_isThere 33 = .ok (.if_icmp .lt 5, 3) := by decide +kernel
theorem dX0_isThere_36 : decode cX0_isThere 36 = .ok (.iconst 0, 1) := by decide +kernel
theorem dX0_isThere_37 : decode cX0_isThere 37 = .ok (.ireturn, 1) := by decide +kernel
theorem dX0_isThere_38 : decode cX0_isThere 38 = .ok (.iload_n 1, 1) := by decide +kernel
theorem dX0_isThere_39 : decode cX0_isThere 39 = .ok (.ifCond .eq 23, 3) := by decide +kernel
theorem dX0_isThere_42 : decode cX0_isThere 42 = .ok (.aload_n 0, 1) := by decide +kernel
theorem dX0_isThere_43 : decode cX0_isThere 43 = .ok (.iload_n 1, 1) := by decide +kernel
theorem dX0_isThere_44 : decode cX0_isThere 44 = .ok (.iconst 1, 1) := by decide +kernel
theorem dX0_isThere_45 : decode cX0_isThere 45 = .ok (.isub, 1) := by decide +kernel
theorem dX0_isThere_46 : decode cX0_isThere 46 = .ok (.iload_n 2, 1) := by decide +kernel
theorem dX0_isThere_47 : decode cX0_isThere 47 = .ok (.iconst 1, 1) := by decide +kernel
theorem dX0_isThere_48 : decode cX0_isThere 48 = .ok (.ishr, 1) := by decide +kernel
theorem dX0_isThere_49 : decode cX0_isThere 49 = .ok (.iload_n 3, 1) := by decide +kernel
theorem dX0_isThere_50 : decode cX0_isThere 50 = .ok (.iconst 1, 1) := by decide +kernel
theorem dX0_isThere_51 : decode cX0_isThere 51 = .ok (.ishr, 1) := by decide +kernel
theorem dX0_isThere_52 : decode cX0_isThere 52 = .ok (.invokevirtual 37, 3) := by decide +kernel
theorem dX0_isThere_55 : decode cX0_isThere 55 = .ok (.aload_n 0, 1) := by decide +kernel
theorem dX0_isThere_56 : decode cX0_isThere 56 = .ok (.getfield 15, 3) := by decide +kernel
theorem dX0_isThere_59 : decode cX0_isThere 59 = .ok (.if_icmp .le 7, 3) := by decide +kernel
theorem dX0_isThere_62 : decode cX0_isThere 62 = .ok (.iconst 1, 1) := by decide +kernel
theorem dX0_isThere_63 : decode cX0_isThere 63 = .ok (.goto 4, 3) := by decide +kernel
theorem dX0_isThere_66 : decode cX0_isThere 66 = .ok (.iconst 0, 1) := by decide +kernel
theorem dX0_isThere_67 : decode cX0_isThere 67 = .ok (.ireturn, 1) := by decide +kernel
theorem dX0_isSplit_0 : decode cX0_isSplit 0 = .ok (.iload_n 1, 1) := by decide +kernel
theorem dX0_isSplit_1 : decode cX0_isSplit 1 = .ok (.iconst 5, 1) := by decide +kernel
theorem dX0_isSplit_2 : decode cX0_isSplit 2 = .ok (.if_icmp .ge 21, 3) := by decide +kernel
theorem dX0_isSplit_5 : decode cX0_isSplit 5 = .ok (.aload_n 0, 1) := by decide +kernel
theorem dX0_isSplit_6 : decode cX0_isSplit 6 = .ok (.iload_n 1, 1) := by decide +kernel
theorem dX0_isSplit_7 : decode cX0_isSplit 7 = .ok (.iload_n 2, 1) := by decide +kernel
theorem dX0_isSplit_8 : decode cX0_isSplit 8 = .ok (.iload_n 3, 1) := by decide +kernel
theorem dX0_isSplit_9 : decode cX0_isSplit 9 = .ok (.invokevirtual 37, 3) := by decide +kernel
theorem dX0_isSplit_12 : decode cX0_isSplit 12 = .ok (.aload_n 0, 1) := by decide +kernel
theorem dX0_isSplit_13 : decode cX0_isSplit 13 = .ok (.getfield 15, 3) := by decide +kernel
theorem dX0_isSplit_16 : decode cX0_isSplit 16 = .ok (.if_icmp .le 7, 3) := by decide +kernel
theorem dX0_isSplit_19 : decode cX0_isSplit 19 = .ok (.iconst 1, 1) := by decide +kernel
theorem dX0_isSplit_20 : decode cX0_isSplit 20 = .ok (.goto 4, 3) := by decide +kernel
theorem dX0_isSplit_23 : decode cX0_isSplit 23 = .ok (.iconst 0, 1) := by decide +kernel
theorem dX0_isSplit_24 : decode cX0_isSplit 24 = .ok (.ireturn, 1) := by decide +kernel
theorem dX0_splitBoxes_0 : decode cX0_splitBoxes 0 = .ok (.iconst 0, 1) := by decide +kernel
theorem dX0_splitBoxes_1 : decode cX0_splitBoxes 1 = .ok (.istore_n 1, 1) := by decide +kernel
theorem dX0_splitBoxes_2 : decode cX0_splitBoxes 2 = .ok (.iconst 0, 1) := by decide +kernel
theorem dX0_splitBoxes_3 : decode cX0_splitBoxes 3 = .ok (.istore_n 2, 1) := by decide +kernel
theorem dX0_splitBoxes_4 : decode cX0_splitBoxes 4 = .ok (.iload_n 2, 1) := by decide +kernel
theorem dX0_splitBoxes_5 : decode cX0_splitBoxes 5 = .ok (.getstatic 40, 3) := by decide +kernel
theorem dX0_splitBoxes_8 : decode cX0_splitBoxes 8 = .ok (.iconst 5, 1) := by decide +kernel
theorem dX0_splitBoxes_9 : decode cX0_splitBoxes 9 = .ok (.iaload, 1) := by decide +kernel
theorem dX0_splitBoxes_10 : decode cX0_splitBoxes 10 = .ok (.if_icmp .ge 25, 3) := by decide +kernel
theorem dX0_splitBoxes_13 : decode cX0_splitBoxes 13 = .ok (.aload_n 0, 1) := by decide +kernel
theorem dX0_splitBoxes_14 : decode cX0_splitBoxes 14 = .ok (.getfield 9, 3) := by decide +kernel
theorem dX0_splitBoxes_17 : decode cX0_splitBoxes 17 = .ok (.iload_n 2, 1) := by decide +kernel
theorem dX0_splitBoxes_18 : decode cX0_splitBoxes 18 = .ok (.iaload, 1) := by decide +kernel
theorem dX0_splitBoxes_19 : decode cX0_splitBoxes 19 = .ok (.aload_n 0, 1) := by decide +kernel
theorem dX0_splitBoxes_20 : decode cX0_splitBoxes 20 = .ok (.getfield 15, 3) := by decide +kernel
theorem dX0_splitBoxes_23 : decode cX0_splitBoxes 23 = .ok (.if_icmp .le 6, 3) := by decide +kernel
theorem dX0_splitBoxes_26 : decode cX0_splitBoxes 26 = .ok (.iinc 1 1, 3) := by decide +kernel
theorem dX0_splitBoxes_29 : decode cX0_splitBoxes 29 = .ok (.iinc 2 1, 3) := by decide +kernel
theorem dX0_splitBoxes_32 : decode cX0_splitBoxes 32 = .ok (.goto (-28), 3) := by decide +kernel
theorem dX0_splitBoxes_35 : decode cX0_splitBoxes 35 = .ok (.iload_n 1, 1) := by decide +kernel
theorem dX0_splitBoxes_36 : decode cX0_splitBoxes 36 = .ok (.ireturn, 1) := by decide +kernel
theorem dX0_greatestLevel_0 : decode cX0_greatestLevel 0 = .ok (.iconst 5, 1) := by decide +kernel
theorem dX0_greatestLevel_1 : decode cX0_greatestLevel 1 = .ok (.istore_n 1, 1) := by decide +kernel
theorem dX0_greatestLevel_2 : decode cX0_greatestLevel 2 = .ok (.iload_n 1, 1) := by decide +kernel
theorem dX0_greatestLevel_3 : decode cX0_greatestLevel 3 = .ok (.ifCond .le 47, 3) := by decide +kernel
theorem dX0_greatestLevel_6 : decode cX0_greatestLevel 6 = .ok (.getstatic 40, 3) := by decide +kernel
theorem dX0_greatestLevel_9 : decode cX0_greatestLevel 9 = .ok (.iload_n 1, 1) := by decide +kernel
theorem dX0_greatestLevel_10 : decode cX0_greatestLevel 10 = .ok (.iconst 1, 1) := by decide +kernel
theorem dX0_greatestLevel_11 : decode cX0_greatestLevel 11 = .ok (.isub, 1) := by decide +kernel
theorem dX0_greatestLevel_12 : decode cX0_greatestLevel 12 = .ok (.iaload, 1) := by decide +kernel
theorem dX0_greatestLevel_13 : decode cX0_greatestLevel 13 = .ok (.istore_n 2, 1) := by decide +kernel
theorem dX0_greatestLevel_14 : decode cX0_greatestLevel 14 = .ok (.iload_n 2, 1) := by decide +kernel
theorem dX0_greatestLevel_15 : decode cX0_greatestLevel 15 = .ok (.getstatic 40, 3) := by decide +kernel
theorem dX0_greatestLevel_18 : decode cX0_greatestLevel 18 = .ok (.iload_n 1, 1) := by decide +kernel
theorem dX0_greatestLevel_19 : decode cX0_greatestLevel 19 = .ok (.iaload, 1) := by decide +kernel
theorem dX0_greatestLevel_20 : decode cX0_greatestLevel 20 = .ok (.if_icmp .ge 24, 3) := by decide +kernel
theorem dX0_greatestLevel_23 : decode cX0_greatestLevel 23 = .ok (.aload_n 0, 1) := by decide +kernel
theorem dX0_greatestLevel_24 : decode cX0_greatestLevel 24 = .ok (.getfield 9, 3) := by decide +kernel
theorem dX0_greatestLevel_27 : decode cX0_greatestLevel 27 = .ok (.iload_n 2, 1) := by decide +kernel
theorem dX0_greatestLevel_28 : decode cX0_greatestLevel 28 = .ok (.iaload, 1) := by decide +kernel
theorem dX0_greatestLevel_29 : decode cX0_greatestLevel 29 = .ok (.aload_n 0, 1) := by decide +kernel
theorem dX0_greatestLevel_30 : decode cX0_greatestLevel 30 = .ok (.getfield 15, 3) := by decide +kernel
theorem dX0_greatestLevel_33 : decode cX0_greatestLevel 33 = .ok (.if_icmp .le 5, 3) := by decide +kernel
theorem dX0_greatestLevel_36 : decode cX0_greatestLevel 36 = .ok (.iload_n 1, 1) := by decide +kernel
theorem dX0_greatestLevel_37 : decode cX0_greatestLevel 37 = .ok (.ireturn, 1) := by decide +kernel
theorem dX0_greatestLevel_38 : decode cX0_greatestLevel 38 = .ok (.iinc 2 1, 3) := by decide +kernel
theorem dX0_greatestLevel_41 : decode cX0_greatestLevel 41 = .ok (.goto (-27), 3) := by decide +kernel
theorem dX0_greatestLevel_44 : decode cX0_greatestLevel 44 = .ok (.iinc 1 (-1), 3) := by decide +kernel
theorem dX0_greatestLevel_47 : decode cX0_greatestLevel 47 = .ok (.goto (-45), 3) := by decide +kernel
theorem dX0_greatestLevel_50 : decode cX0_greatestLevel 50 = .ok (.iconst 0, 1) := by decide +kernel
theorem dX0_greatestLevel_51 : decode cX0_greatestLevel 51 = .ok (.ireturn, 1) := by decide +kernel
theorem dX0_leafLevel_0 : decode cX0_leafLevel 0 = .ok (.iconst 0, 1) := by decide +kernel
theorem dX0_leafLevel_1 : decode cX0_leafLevel 1 = .ok (.istore_n 3, 1) := by decide +kernel
theorem dX0_leafLevel_2 : decode cX0_leafLevel 2 = .ok (.iload_n 3, 1) := by decide +kernel
theorem dX0_leafLevel_3 : decode cX0_leafLevel 3 = .ok (.iconst 5, 1) := by decide +kernel
theorem dX0_leafLevel_4 : decode cX0_leafLevel 4 = .ok (.if_icmp .ge 29, 3) := by decide +kernel
theorem dX0_leafLevel_7 : decode cX0_leafLevel 7 = .ok (.aload_n 0, 1) := by decide +kernel
theorem dX0_leafLevel_8 : decode cX0_leafLevel 8 = .ok (.getfield 9, 3) := by decide +kernel
theorem dX0_leafLevel_11 : decode cX0_leafLevel 11 = .ok (.iload_n 3, 1) := by decide +kernel
theorem dX0_leafLevel_12 : decode cX0_leafLevel 12 = .ok (.iload_n 1, 1) := by decide +kernel
theorem dX0_leafLevel_13 : decode cX0_leafLevel 13 = .ok (.iload_n 2, 1) := by decide +kernel
theorem dX0_leafLevel_14 : decode cX0_leafLevel 14 = .ok (.invokestatic 30, 3) := by decide +kernel
theorem dX0_leafLevel_17 : decode cX0_leafLevel 17 = .ok (.iaload, 1) := by decide +kernel
theorem dX0_leafLevel_18 : decode cX0_leafLevel 18 = .ok (.aload_n 0, 1) := by decide +kernel
theorem dX0_leafLevel_19 : decode cX0_leafLevel 19 = .ok (.getfield 15, 3) := by decide +kernel
theorem dX0_leafLevel_22 : decode cX0_leafLevel 22 = .ok (.if_icmp .gt 5, 3) := by decide +kernel
theorem dX0_leafLevel_25 : decode cX0_leafLevel 25 = .ok (.iload_n 3, 1) := by decide +kernel
theorem dX0_leafLevel_26 : decode cX0_leafLevel 26 = .ok (.ireturn, 1) := by decide +kernel
theorem dX0_leafLevel_27 : decode cX0_leafLevel 27 = .ok (.iinc 3 1, 3) := by decide +kernel
theorem dX0_leafLevel_30 : decode cX0_leafLevel 30 = .ok (.goto (-28), 3) := by decide +kernel
theorem dX0_leafLevel_33 : decode cX0_leafLevel 33 = .ok (.iconst 5, 1) := by decide +kernel
theorem dX0_leafLevel_34 : decode cX0_leafLevel 34 = .ok (.ireturn, 1) := by decide +kernel
theorem dX0_holds_0 : decode cX0_holds 0 = .ok (.aload_n 0, 1) := by decide +kernel
theorem dX0_holds_1 : decode cX0_holds 1 = .ok (.getfield 26, 3) := by decide +kernel
theorem dX0_holds_4 : decode cX0_holds 4 = .ok (.getfield 43, 3) := by decide +kernel
theorem dX0_holds_7 : decode cX0_holds 7 = .ok (.iload 4, 2) := by decide +kernel
theorem dX0_holds_9 : decode cX0_holds 9 = .ok (.baload, 1) := by decide +kernel
theorem dX0_holds_10 : decode cX0_holds 10 = .ok (.ifCond .eq 43, 3) := by decide +kernel
theorem dX0_holds_13 : decode cX0_holds 13 = .ok (.iload_n 1, 1) := by decide +kernel
theorem dX0_holds_14 : decode cX0_holds 14 = .ok (.aload_n 0, 1) := by decide +kernel
theorem dX0_holds_15 : decode cX0_holds 15 = .ok (.getfield 26, 3) := by decide +kernel
theorem dX0_holds_18 : decode cX0_holds 18 = .ok (.getfield 49, 3) := by decide +kernel
theorem dX0_holds_21 : decode cX0_holds 21 = .ok (.iload 4, 2) := by decide +kernel
theorem dX0_holds_23 : decode cX0_holds 23 = .ok (.iaload, 1) := by decide +kernel
theorem dX0_holds_24 : decode cX0_holds 24 = .ok (.invokestatic 52, 3) := by decide +kernel
theorem dX0_holds_27 : decode cX0_holds 27 = .ok (.iload_n 2, 1) := by decide +kernel
theorem dX0_holds_28 : decode cX0_holds 28 = .ok (.if_icmp .ne 25, 3) := by decide +kernel
theorem dX0_holds_31 : decode cX0_holds 31 = .ok (.iload_n 1, 1) := by decide +kernel
theorem dX0_holds_32 : decode cX0_holds 32 = .ok (.aload_n 0, 1) := by decide +kernel
theorem dX0_holds_33 : decode cX0_holds 33 = .ok (.getfield 26, 3) := by decide +kernel
theorem dX0_holds_36 : decode cX0_holds 36 = .ok (.getfield 56, 3) := by decide +kernel
theorem dX0_holds_39 : decode cX0_holds 39 = .ok (.iload 4, 2) := by decide +kernel
theorem dX0_holds_41 : decode cX0_holds 41 = .ok (.iaload, 1) := by decide +kernel
theorem dX0_holds_42 : decode cX0_holds 42 = .ok (.invokestatic 52, 3) := by decide +kernel
theorem dX0_holds_45 : decode cX0_holds 45 = .ok (.iload_n 3, 1) := by decide +kernel
theorem dX0_holds_46 : decode cX0_holds 46 = .ok (.if_icmp .ne 7, 3) := by decide +kernel
theorem dX0_holds_49 : decode cX0_holds 49 = .ok (.iconst 1, 1) := by decide +kernel
theorem dX0_holds_50 : decode cX0_holds 50 = .ok (.goto 4, 3) := by decide +kernel
theorem dX0_holds_53 : decode cX0_holds 53 = .ok (.iconst 0, 1) := by decide +kernel
theorem dX0_holds_54 : decode cX0_holds 54 = .ok (.ireturn, 1) := by decide +kernel
theorem dX0_gather_0 : decode cX0_gather 0 = .ok (.iconst 0, 1) := by decide +kernel
theorem dX0_gather_1 : decode cX0_gather 1 = .ok (.istore 4, 2) := by decide +kernel
theorem dX0_gather_3 : decode cX0_gather 3 = .ok (.iload 4, 2) := by decide +kernel
theorem dX0_gather_5 : decode cX0_gather 5 = .ok (.bipush 25, 2) := by decide +kernel
theorem dX0_gather_7 : decode cX0_gather 7 = .ok (.if_icmp .ge 17, 3) := by decide +kernel
theorem dX0_gather_10 : decode cX0_gather 10 = .ok (.aload_n 0, 1) := by decide +kernel
theorem dX0_gather_11 : decode cX0_gather 11 = .ok (.getfield 19, 3) := by decide +kernel
theorem dX0_gather_14 : decode cX0_gather 14 = .ok (.iload 4, 2) := by decide +kernel
theorem dX0_gather_16 : decode cX0_gather 16 = .ok (.lconst 0, 1) := by decide +kernel
theorem dX0_gather_17 : decode cX0_gather 17 = .ok (.lastore, 1) := by decide +kernel
theorem dX0_gather_18 : decode cX0_gather 18 = .ok (.iinc 4 1, 3) := by decide +kernel
theorem dX0_gather_21 : decode cX0_gather 21 = .ok (.goto (-18), 3) := by decide +kernel
theorem dX0_gather_24 : decode cX0_gather 24 = .ok (.aload_n 0, 1) := by decide +kernel
theorem dX0_gather_25 : decode cX0_gather 25 = .ok (.iconst 0, 1) := by decide +kernel
theorem dX0_gather_26 : decode cX0_gather 26 = .ok (.putfield 23, 3) := by decide +kernel
theorem dX0_gather_29 : decode cX0_gather 29 = .ok (.iconst 0, 1) := by decide +kernel
theorem dX0_gather_30 : decode cX0_gather 30 = .ok (.istore 4, 2) := by decide +kernel
theorem dX0_gather_32 : decode cX0_gather 32 = .ok (.iload 4, 2) := by decide +kernel
theorem dX0_gather_34 : decode cX0_gather 34 = .ok (.bipush 40, 2) := by decide +kernel
theorem dX0_gather_36 : decode cX0_gather 36 = .ok (.if_icmp .ge 87, 3) := by decide +kernel
theorem dX0_gather_39 : decode cX0_gather 39 = .ok (.aload_n 0, 1) := by decide +kernel
theorem dX0_gather_40 : decode cX0_gather 40 = .ok (.iload_n 1, 1) := by decide +kernel
theorem dX0_gather_41 : decode cX0_gather 41 = .ok (.iload_n 2, 1) := by decide +kernel
theorem dX0_gather_42 : decode cX0_gather 42 = .ok (.iload_n 3, 1) := by decide +kernel
theorem dX0_gather_43 : decode cX0_gather 43 = .ok (.iload 4, 2) := by decide +kernel
theorem dX0_gather_45 : decode cX0_gather 45 = .ok (.invokevirtual 59, 3) := by decide +kernel
theorem dX0_gather_48 : decode cX0_gather 48 = .ok (.ifCond .eq 69, 3) := by decide +kernel
theorem dX0_gather_51 : decode cX0_gather 51 = .ok (.aload_n 0, 1) := by decide +kernel
theorem dX0_gather_52 : decode cX0_gather 52 = .ok (.aload_n 0, 1) := by decide +kernel
theorem dX0_gather_53 : decode cX0_gather 53 = .ok (.getfield 26, 3) := by decide +kernel
theorem dX0_gather_56 : decode cX0_gather 56 = .ok (.getfield 63, 3) := by decide +kernel
theorem dX0_gather_59 : decode cX0_gather 59 = .ok (.iload 4, 2) := by decide +kernel
theorem dX0_gather_61 : decode cX0_gather 61 = .ok (.iaload, 1) := by decide +kernel
theorem dX0_gather_62 : decode cX0_gather 62 = .ok (.aload_n 0, 1) := by decide +kernel
theorem dX0_gather_63 : decode cX0_gather 63 = .ok (.getfield 26, 3) := by decide +kernel
theorem dX0_gather_66 : decode cX0_gather 66 = .ok (.getfield 49, 3) := by decide +kernel
theorem dX0_gather_69 : decode cX0_gather 69 = .ok (.iload 4, 2) := by decide +kernel
theorem dX0_gather_71 : decode cX0_gather 71 = .ok (.iaload, 1) := by decide +kernel
theorem dX0_gather_72 : decode cX0_gather 72 = .ok (.iload_n 1, 1) := by decide +kernel
theorem dX0_gather_73 : decode cX0_gather 73 = .ok (.iload_n 2, 1) := by decide +kernel
theorem dX0_gather_74 : decode cX0_gather 74 = .ok (.invokestatic 66, 3) := by decide +kernel
theorem dX0_gather_77 : decode cX0_gather 77 = .ok (.aload_n 0, 1) := by decide +kernel
theorem dX0_gather_78 : decode cX0_gather 78 = .ok (.getfield 26, 3) := by decide +kernel
theorem dX0_gather_81 : decode cX0_gather 81 = .ok (.getfield 56, 3) := by decide +kernel
theorem dX0_gather_84 : decode cX0_gather 84 = .ok (.iload 4, 2) := by decide +kernel
theorem dX0_gather_86 : decode cX0_gather 86 = .ok (.iaload, 1) := by decide +kernel
theorem dX0_gather_87 : decode cX0_gather 87 = .ok (.iload_n 1, 1) := by decide +kernel
theorem dX0_gather_88 : decode cX0_gather 88 = .ok (.iload_n 3, 1) := by decide +kernel
theorem dX0_gather_89 : decode cX0_gather 89 = .ok (.invokestatic 66, 3) := by decide +kernel
theorem dX0_gather_92 : decode cX0_gather 92 = .ok (.invokevirtual 69, 3) := by decide +kernel
theorem dX0_gather_95 : decode cX0_gather 95 = .ok (.aload_n 0, 1) := by decide +kernel
theorem dX0_gather_96 : decode cX0_gather 96 = .ok (.dup, 1) := by decide +kernel
theorem dX0_gather_97 : decode cX0_gather 97 = .ok (.getfield 23, 3) := by decide +kernel
theorem dX0_gather_100 : decode cX0_gather 100 = .ok (.aload_n 0, 1) := by decide +kernel
theorem dX0_gather_101 : decode cX0_gather 101 = .ok (.getfield 26, 3) := by decide +kernel
theorem dX0_gather_104 : decode cX0_gather 104 = .ok (.getfield 63, 3) := by decide +kernel
theorem dX0_gather_107 : decode cX0_gather 107 = .ok (.iload 4, 2) := by decide +kernel
theorem dX0_gather_109 : decode cX0_gather 109 = .ok (.iaload, 1) := by decide +kernel
theorem dX0_gather_110 : decode cX0_gather 110 = .ok (.invokestatic 73, 3) := by decide +kernel
theorem dX0_gather_113 : decode cX0_gather 113 = .ok (.iadd, 1) := by decide +kernel
theorem dX0_gather_114 : decode cX0_gather 114 = .ok (.putfield 23, 3) := by decide +kernel
theorem dX0_gather_117 : decode cX0_gather 117 = .ok (.iinc 4 1, 3) := by decide +kernel
theorem dX0_gather_120 : decode cX0_gather 120 = .ok (.goto (-88), 3) := by decide +kernel
theorem dX0_gather_123 : decode cX0_gather 123 = .ok (.return_, 1) := by decide +kernel
theorem dX0_addMoments_0 : decode cX0_addMoments 0 = .ok (.iload_n 1, 1) := by decide +kernel
theorem dX0_addMoments_1 : decode cX0_addMoments 1 = .ok (.i2l, 1) := by decide +kernel
theorem dX0_addMoments_2 : decode cX0_addMoments 2 = .ok (.lstore 4, 2) := by decide +kernel
theorem dX0_addMoments_4 : decode cX0_addMoments 4 = .ok (.iconst 0, 1) := by decide +kernel
theorem dX0_addMoments_5 : decode cX0_addMoments 5 = .ok (.istore 6, 2) := by decide +kernel
theorem dX0_addMoments_7 : decode cX0_addMoments 7 = .ok (.iload 6, 2) := by decide +kernel
theorem dX0_addMoments_9 : decode cX0_addMoments 9 = .ok (.iconst 4, 1) := by decide +kernel
theorem dX0_addMoments_10 : decode cX0_addMoments 10 = .ok (.if_icmp .gt 62, 3) := by decide +kernel
theorem dX0_addMoments_13 : decode cX0_addMoments 13 = .ok (.lload 4, 2) := by decide +kernel
theorem dX0_addMoments_15 : decode cX0_addMoments 15 = .ok (.lstore 7, 2) := by decide +kernel
theorem dX0_addMoments_17 : decode cX0_addMoments 17 = .ok (.iconst 0, 1) := by decide +kernel
theorem dX0_addMoments_18 : decode cX0_addMoments 18 = .ok (.istore 9, 2) := by decide +kernel
theorem dX0_addMoments_20 : decode cX0_addMoments 20 = .ok (.iload 6, 2) := by decide +kernel
theorem dX0_addMoments_22 : decode cX0_addMoments 22 = .ok (.iload 9, 2) := by decide +kernel
theorem dX0_addMoments_24 : decode cX0_addMoments 24 = .ok (.iadd, 1) := by decide +kernel
theorem dX0_addMoments_25 : decode cX0_addMoments 25 = .ok (.iconst 4, 1) := by decide +kernel
theorem dX0_addMoments_26 : decode cX0_addMoments 26 = .ok (.if_icmp .gt 33, 3) := by decide +kernel
theorem dX0_addMoments_29 : decode cX0_addMoments 29 = .ok (.aload_n 0, 1) := by decide +kernel
theorem dX0_addMoments_30 : decode cX0_addMoments 30 = .ok (.getfield 19, 3) := by decide +kernel
theorem dX0_addMoments_33 : decode cX0_addMoments 33 = .ok (.iload 6, 2) := by decide +kernel
theorem dX0_addMoments_35 : decode cX0_addMoments 35 = .ok (.iload 9, 2) := by decide +kernel
theorem dX0_addMoments_37 : decode cX0_addMoments 37 = .ok (.invokestatic 79, 3) := by decide +kernel
theorem dX0_addMoments_40 : decode cX0_addMoments 40 = .ok (.dup2, 1) := by decide +kernel
theorem dX0_addMoments_41 : decode cX0_addMoments 41 = .ok (.laload, 1) := by decide +kernel
theorem dX0_addMoments_42 : decode cX0_addMoments 42 = .ok (.lload 7, 2) := by decide +kernel
theorem dX0_addMoments_44 : decode cX0_addMoments 44 = .ok (.ladd, 1) := by decide +kernel
theorem dX0_addMoments_45 : decode cX0_addMoments 45 = .ok (.lastore, 1) := by decide +kernel
theorem dX0_addMoments_46 : decode cX0_addMoments 46 = .ok (.lload 7, 2) := by decide +kernel
theorem dX0_addMoments_48 : decode cX0_addMoments 48 = .ok (.iload_n 3, 1) := by decide +kernel
theorem dX0_addMoments_49 : decode cX0_addMoments 49 = .ok (.i2l, 1) := by decide +kernel
theorem dX0_addMoments_50 : decode cX0_addMoments 50 = .ok (.lmul, 1) := by decide +kernel
theorem dX0_addMoments_51 : decode cX0_addMoments 51 = .ok (.lstore 7, 2) := by decide +kernel
theorem dX0_addMoments_53 : decode cX0_addMoments 53 = .ok (.iinc 9 1, 3) := by decide +kernel
theorem dX0_addMoments_56 : decode cX0_addMoments 56 = .ok (.goto (-36), 3) := by decide +kernel
theorem dX0_addMoments_59 : decode cX0_addMoments 59 = .ok (.lload 4, 2) := by decide +kernel
theorem dX0_addMoments_61 : decode cX0_addMoments 61 = .ok (.iload_n 2, 1) := by decide +kernel
theorem dX0_addMoments_62 : decode cX0_addMoments 62 = .ok (.i2l, 1) := by decide +kernel
theorem dX0_addMoments_63 : decode cX0_addMoments 63 = .ok (.lmul, 1) := by decide +kernel
theorem dX0_addMoments_64 : decode cX0_addMoments 64 = .ok (.lstore 4, 2) := by decide +kernel
theorem dX0_addMoments_66 : decode cX0_addMoments 66 = .ok (.iinc 6 1, 3) := by decide +kernel
theorem dX0_addMoments_69 : decode cX0_addMoments 69 = .ok (.goto (-62), 3) := by decide +kernel
theorem dX0_addMoments_72 : decode cX0_addMoments 72 = .ok (.return_, 1) := by decide +kernel
theorem dX0_numberAt_0 : decode cX0_numberAt 0 = .ok (.iload_n 1, 1) := by decide +kernel
theorem dX0_numberAt_1 : decode cX0_numberAt 1 = .ok (.bipush 6, 2) := by decide +kernel
theorem dX0_numberAt_3 : decode cX0_numberAt 3 = .ok (.iload_n 0, 1) := by decide +kernel
theorem dX0_numberAt_4 : decode cX0_numberAt 4 = .ok (.isub, 1) := by decide +kernel
theorem dX0_numberAt_5 : decode cX0_numberAt 5 = .ok (.ishr, 1) := by decide +kernel
theorem dX0_numberAt_6 : decode cX0_numberAt 6 = .ok (.ireturn, 1) := by decide +kernel
theorem dX0_placeIndex_0 : decode cX0_placeIndex 0 = .ok (.iload_n 0, 1) := by decide +kernel
theorem dX0_placeIndex_1 : decode cX0_placeIndex 1 = .ok (.iload_n 0, 1) := by decide +kernel
theorem dX0_placeIndex_2 : decode cX0_placeIndex 2 = .ok (.iload_n 1, 1) := by decide +kernel
theorem dX0_placeIndex_3 : decode cX0_placeIndex 3 = .ok (.invokestatic 52, 3) := by decide +kernel
theorem dX0_placeIndex_6 : decode cX0_placeIndex 6 = .ok (.iload_n 0, 1) := by decide +kernel
theorem dX0_placeIndex_7 : decode cX0_placeIndex 7 = .ok (.iload_n 2, 1) := by decide +kernel
theorem dX0_placeIndex_8 : decode cX0_placeIndex 8 = .ok (.invokestatic 52, 3) := by decide +kernel
theorem dX0_placeIndex_11 : decode cX0_placeIndex 11 = .ok (.invokestatic 34, 3) := by decide +kernel
theorem dX0_placeIndex_14 : decode cX0_placeIndex 14 = .ok (.ireturn, 1) := by decide +kernel
theorem dX0_boxIndex_0 : decode cX0_boxIndex 0 = .ok (.getstatic 40, 3) := by decide +kernel
theorem dX0_boxIndex_3 : decode cX0_boxIndex 3 = .ok (.iload_n 0, 1) := by decide +kernel
theorem dX0_boxIndex_4 : decode cX0_boxIndex 4 = .ok (.iaload, 1) := by decide +kernel
theorem dX0_boxIndex_5 : decode cX0_boxIndex 5 = .ok (.iload_n 2, 1) := by decide +kernel
theorem dX0_boxIndex_6 : decode cX0_boxIndex 6 = .ok (.iload_n 0, 1) := by decide +kernel
theorem dX0_boxIndex_7 : decode cX0_boxIndex 7 = .ok (.ishl, 1) := by decide +kernel
theorem dX0_boxIndex_8 : decode cX0_boxIndex 8 = .ok (.iadd, 1) := by decide +kernel
theorem dX0_boxIndex_9 : decode cX0_boxIndex 9 = .ok (.iload_n 1, 1) := by decide +kernel
theorem dX0_boxIndex_10 : decode cX0_boxIndex 10 = .ok (.iadd, 1) := by decide +kernel
theorem dX0_boxIndex_11 : decode cX0_boxIndex 11 = .ok (.ireturn, 1) := by decide +kernel
theorem dX1_init_0 : decode cX1_init 0 = .ok (.aload_n 0, 1) := by decide +kernel
theorem dX1_init_1 : decode cX1_init 1 = .ok (.invokespecial 3, 3) := by decide +kernel
theorem dX1_init_4 : decode cX1_init 4 = .ok (.aload_n 0, 1) := by decide +kernel
theorem dX1_init_5 : decode cX1_init 5 = .ok (.bipush 40, 2) := by decide +kernel
theorem dX1_init_7 : decode cX1_init 7 = .ok (.newarray .int, 2) := by decide +kernel
theorem dX1_init_9 : decode cX1_init 9 = .ok (.putfield 9, 3) := by decide +kernel
theorem dX1_init_12 : decode cX1_init 12 = .ok (.aload_n 0, 1) := by decide +kernel
theorem dX1_init_13 : decode cX1_init 13 = .ok (.bipush 40, 2) := by decide +kernel
theorem dX1_init_15 : decode cX1_init 15 = .ok (.newarray .int, 2) := by decide +kernel
theorem dX1_init_17 : decode cX1_init 17 = .ok (.putfield 15, 3) := by decide +kernel
theorem dX1_init_20 : decode cX1_init 20 = .ok (.aload_n 0, 1) := by decide +kernel
theorem dX1_init_21 : decode cX1_init 21 = .ok (.iconst 0, 1) := by decide +kernel
theorem dX1_init_22 : decode cX1_init 22 = .ok (.putfield 18, 3) := by decide +kernel
theorem dX1_init_25 : decode cX1_init 25 = .ok (.aload_n 0, 1) := by decide +kernel
theorem dX1_init_26 : decode cX1_init 26 = .ok (.aload_n 1, 1) := by decide +kernel
theorem dX1_init_27 : decode cX1_init 27 = .ok (.putfield 22, 3) := by decide +kernel
theorem dX1_init_30 : decode cX1_init 30 = .ok (.aload_n 0, 1) := by decide +kernel
theorem dX1_init_31 : decode cX1_init 31 = .ok (.aload_n 2, 1) := by decide +kernel
theorem dX1_init_32 : decode cX1_init 32 = .ok (.putfield 26, 3) := by decide +kernel
theorem dX1_init_35 : decode cX1_init 35 = .ok (.aload_n 0, 1) := by decide +kernel
theorem dX1_init_36 : decode cX1_init 36 = .ok (.aload_n 3, 1) := by decide +kernel
theorem dX1_init_37 : decode cX1_init 37 = .ok (.putfield 30, 3) := by decide +kernel
theorem dX1_init_40 : decode cX1_init 40 = .ok (.return_, 1) := by decide +kernel
theorem dX1_forth_0 : decode cX1_forth 0 = .ok (.aload_n 0, 1) := by decide +kernel
theorem dX1_forth_1 : decode cX1_forth 1 = .ok (.invokevirtual 34, 3) := by decide +kernel
theorem dX1_forth_4 : decode cX1_forth 4 = .ok (.aload_n 0, 1) := by decide +kernel
theorem dX1_forth_5 : decode cX1_forth 5 = .ok (.iconst 1, 1) := by decide +kernel
theorem dX1_forth_6 : decode cX1_forth 6 = .ok (.invokevirtual 37, 3) := by decide +kernel
theorem dX1_forth_9 : decode cX1_forth 9 = .ok (.aload_n 0, 1) := by decide +kernel
theorem dX1_forth_10 : decode cX1_forth 10 = .ok (.iconst 1, 1) := by decide +kernel
theorem dX1_forth_11 : decode cX1_forth 11 = .ok (.invokevirtual 41, 3) := by decide +kernel
theorem dX1_forth_14 : decode cX1_forth 14 = .ok (.aload_n 0, 1) := by decide +kernel
theorem dX1_forth_15 : decode cX1_forth 15 = .ok (.dup, 1) := by decide +kernel
theorem dX1_forth_16 : decode cX1_forth 16 = .ok (.getfield 18, 3) := by decide +kernel
theorem dX1_forth_19 : decode cX1_forth 19 = .ok (.iconst 1, 1) := by decide +kernel
theorem dX1_forth_20 : decode cX1_forth 20 = .ok (.iadd, 1) := by decide +kernel
theorem dX1_forth_21 : decode cX1_forth 21 = .ok (.putfield 18, 3) := by decide +kernel
theorem dX1_forth_24 : decode cX1_forth 24 = .ok (.return_, 1) := by decide +kernel
theorem dX1_back_0 : decode cX1_back 0 = .ok (.aload_n 0, 1) := by decide +kernel
theorem dX1_back_1 : decode cX1_back 1 = .ok (.iconst (-1), 1) := by decide +kernel
theorem dX1_back_2 : decode cX1_back 2 = .ok (.invokevirtual 41, 3) := by decide +kernel
theorem dX1_back_5 : decode cX1_back 5 = .ok (.aload_n 0, 1) := by decide +kernel
theorem dX1_back_6 : decode cX1_back 6 = .ok (.invokevirtual 34, 3) := by decide +kernel
theorem dX1_back_9 : decode cX1_back 9 = .ok (.aload_n 0, 1) := by decide +kernel
theorem dX1_back_10 : decode cX1_back 10 = .ok (.iconst (-1), 1) := by decide +kernel
theorem dX1_back_11 : decode cX1_back 11 = .ok (.invokevirtual 37, 3) := by decide +kernel
theorem dX1_back_14 : decode cX1_back 14 = .ok (.aload_n 0, 1) := by decide +kernel
theorem dX1_back_15 : decode cX1_back 15 = .ok (.dup, 1) := by decide +kernel
theorem dX1_back_16 : decode cX1_back 16 = .ok (.getfield 18, 3) := by decide +kernel
theorem dX1_back_19 : decode cX1_back 19 = .ok (.iconst 1, 1) := by decide +kernel
theorem dX1_back_20 : decode cX1_back 20 = .ok (.isub, 1) := by decide +kernel
theorem dX1_back_21 : decode cX1_back 21 = .ok (.putfield 18, 3) := by decide +kernel
theorem dX1_back_24 : decode cX1_back 24 = .ok (.return_, 1) := by decide +kernel
theorem dX1_findPushes_0 : decode cX1_findPushes 0 = .ok (.aload_n 0, 1) := by decide +kernel
theorem dX1_findPushes_1 : decode cX1_findPushes 1 = .ok (.getfield 26, 3) := by decide +kernel
theorem dX1_findPushes_4 : decode cX1_findPushes 4 = .ok (.iconst 0, 1) := by decide +kernel
theorem dX1_findPushes_5 : decode cX1_findPushes 5 = .ok (.iconst 0, 1) := by decide +kernel
theorem dX1_findPushes_6 : decode cX1_findPushes 6 = .ok (.iconst 0, 1) := by decide +kernel
theorem dX1_findPushes_7 : decode cX1_findPushes 7 = .ok (.invokevirtual 44, 3) := by decide +kernel
theorem dX1_findPushes_10 : decode cX1_findPushes 10 = .ok (.aload_n 0, 1) := by decide +kernel
theorem dX1_findPushes_11 : decode cX1_findPushes 11 = .ok (.getfield 30, 3) := by decide +kernel
theorem dX1_findPushes_14 : decode cX1_findPushes 14 = .ok (.aload_n 0, 1) := by decide +kernel
theorem dX1_findPushes_15 : decode cX1_findPushes 15 = .ok (.getfield 26, 3) := by decide +kernel
theorem dX1_findPushes_18 : decode cX1_findPushes 18 = .ok (.getfield 50, 3) := by decide +kernel
theorem dX1_findPushes_21 : decode cX1_findPushes 21 = .ok (.iconst 4, 1) := by decide +kernel
theorem dX1_findPushes_22 : decode cX1_findPushes 22 = .ok (.invokevirtual 54, 3) := by decide +kernel
theorem dX1_findPushes_25 : decode cX1_findPushes 25 = .ok (.iconst 0, 1) := by decide +kernel
theorem dX1_findPushes_26 : decode cX1_findPushes 26 = .ok (.istore_n 1, 1) := by decide +kernel
theorem dX1_findPushes_27 : decode cX1_findPushes 27 = .ok (.iload_n 1, 1) := by decide +kernel
theorem dX1_findPushes_28 : decode cX1_findPushes 28 = .ok (.bipush 40, 2) := by decide +kernel
theorem dX1_findPushes_30 : decode cX1_findPushes 30 = .ok (.if_icmp .ge 93, 3) := by decide +kernel
theorem dX1_findPushes_33 : decode cX1_findPushes 33 = .ok (.aload_n 0, 1) := by decide +kernel
theorem dX1_findPushes_34 : decode cX1_findPushes 34 = .ok (.getfield 22, 3) := by decide +kernel
theorem dX1_findPushes_37 : decode cX1_findPushes 37 = .ok (.getfield 60, 3) := by decide +kernel
theorem dX1_findPushes_40 : decode cX1_findPushes 40 = .ok (.iload_n 1, 1) := by decide +kernel
theorem dX1_findPushes_41 : decode cX1_findPushes 41 = .ok (.baload, 1) := by decide +kernel
theorem dX1_findPushes_42 : decode cX1_findPushes 42 = .ok (.ifCond .eq 75, 3) := by decide +kernel
theorem dX1_findPushes_45 : decode cX1_findPushes 45 = .ok (.aload_n 0, 1) := by decide +kernel
theorem dX1_findPushes_46 : decode cX1_findPushes 46 = .ok (.getfield 22, 3) := by decide +kernel
theorem dX1_findPushes_49 : decode cX1_findPushes 49 = .ok (.getfield 66, 3) := by decide +kernel
theorem dX1_findPushes_52 : decode cX1_findPushes 52 = .ok (.iload_n 1, 1) := by decide +kernel
theorem dX1_findPushes_53 : decode cX1_findPushes 53 = .ok (.iaload, 1) := by decide +kernel
theorem dX1_findPushes_54 : decode cX1_findPushes 54 = .ok (.istore_n 2, 1) := by decide +kernel
theorem dX1_findPushes_55 : decode cX1_findPushes 55 = .ok (.aload_n 0, 1) := by decide +kernel
theorem dX1_findPushes_56 : decode cX1_findPushes 56 = .ok (.getfield 22, 3) := by decide +kernel
theorem dX1_findPushes_59 : decode cX1_findPushes 59 = .ok (.getfield 69, 3) := by decide +kernel
theorem dX1_findPushes_62 : decode cX1_findPushes 62 = .ok (.iload_n 1, 1) := by decide +kernel
theorem dX1_findPushes_63 : decode cX1_findPushes 63 = .ok (.iaload, 1) := by decide +kernel
theorem dX1_findPushes_64 : decode cX1_findPushes 64 = .ok (.istore_n 3, 1) := by decide +kernel
theorem dX1_findPushes_65 : decode cX1_findPushes 65 = .ok (.aload_n 0, 1) := by decide +kernel
theorem dX1_findPushes_66 : decode cX1_findPushes 66 = .ok (.getfield 9, 3) := by decide +kernel
theorem dX1_findPushes_69 : decode cX1_findPushes 69 = .ok (.iload_n 1, 1) := by decide +kernel
theorem dX1_findPushes_70 : decode cX1_findPushes 70 = .ok (.aload_n 0, 1) := by decide +kernel
theorem dX1_findPushes_71 : decode cX1_findPushes 71 = .ok (.iload_n 2, 1) := by decide +kernel
theorem dX1_findPushes_72 : decode cX1_findPushes 72 = .ok (.iconst 1, 1) := by decide +kernel
theorem dX1_findPushes_73 : decode cX1_findPushes 73 = .ok (.iadd, 1) := by decide +kernel
theorem dX1_findPushes_74 : decode cX1_findPushes 74 = .ok (.iload_n 3, 1) := by decide +kernel
theorem dX1_findPushes_75 : decode cX1_findPushes 75 = .ok (.invokevirtual 72, 3) := by decide +kernel
theorem dX1_findPushes_78 : decode cX1_findPushes 78 = .ok (.aload_n 0, 1) := by decide +kernel
theorem dX1_findPushes_79 : decode cX1_findPushes 79 = .ok (.iload_n 2, 1) := by decide +kernel
theorem dX1_findPushes_80 : decode cX1_findPushes 80 = .ok (.iconst 1, 1) := by decide +kernel
theorem dX1_findPushes_81 : decode cX1_findPushes 81 = .ok (.isub, 1) := by decide +kernel
theorem dX1_findPushes_82 : decode cX1_findPushes 82 = .ok (.iload_n 3, 1) := by decide +kernel
theorem dX1_findPushes_83 : decode cX1_findPushes 83 = .ok (.invokevirtual 72, 3) := by decide +kernel
theorem dX1_findPushes_86 : decode cX1_findPushes 86 = .ok (.lsub, 1) := by decide +kernel
theorem dX1_findPushes_87 : decode cX1_findPushes 87 = .ok (.invokestatic 76, 3) := by decide +kernel
theorem dX1_findPushes_90 : decode cX1_findPushes 90 = .ok (.iastore, 1) := by decide +kernel
theorem dX1_findPushes_91 : decode cX1_findPushes 91 = .ok (.aload_n 0, 1) := by decide +kernel
theorem dX1_findPushes_92 : decode cX1_findPushes 92 = .ok (.getfield 15, 3) := by decide +kernel
theorem dX1_findPushes_95 : decode cX1_findPushes 95 = .ok (.iload_n 1, 1) := by decide +kernel
theorem dX1_findPushes_96 : decode cX1_findPushes 96 = .ok (.aload_n 0, 1) := by decide +kernel
theorem dX1_findPushes_97 : decode cX1_findPushes 97 = .ok (.iload_n 2, 1) := by decide +kernel
theorem dX1_findPushes_98 : decode cX1_findPushes 98 = .ok (.iload_n 3, 1) := by decide +kernel
theorem dX1_findPushes_99 : decode cX1_findPushes 99 = .ok (.iconst 1, 1) := by decide +kernel
theorem dX1_findPushes_100 : decode cX1_findPushes 100 = .ok (.iadd, 1) := by decide +kernel
theorem dX1_findPushes_101 : decode cX1_findPushes 101 = .ok (.invokevirtual 72, 3) := by decide +kernel
theorem dX1_findPushes_104 : decode cX1_findPushes 104 = .ok (.aload_n 0, 1) := by decide +kernel
theorem dX1_findPushes_105 : decode cX1_findPushes 105 = .ok (.iload_n 2, 1) := by decide +kernel
theorem dX1_findPushes_106 : decode cX1_findPushes 106 = .ok (.iload_n 3, 1) := by decide +kernel
theorem dX1_findPushes_107 : decode cX1_findPushes 107 = .ok (.iconst 1, 1) := by decide +kernel
theorem dX1_findPushes_108 : decode cX1_findPushes 108 = .ok (.isub, 1) := by decide +kernel
theorem dX1_findPushes_109 : decode cX1_findPushes 109 = .ok (.invokevirtual 72, 3) := by decide +kernel
theorem dX1_findPushes_112 : decode cX1_findPushes 112 = .ok (.lsub, 1) := by decide +kernel
theorem dX1_findPushes_113 : decode cX1_findPushes 113 = .ok (.invokestatic 76, 3) := by decide +kernel
theorem dX1_findPushes_116 : decode cX1_findPushes 116 = .ok (.iastore, 1) := by decide +kernel
theorem dX1_findPushes_117 : decode cX1_findPushes 117 = .ok (.iinc 1 1, 3) := by decide +kernel
theorem dX1_findPushes_120 : decode cX1_findPushes 120 = .ok (.goto (-93), 3) := by decide +kernel
theorem dX1_findPushes_123 : decode cX1_findPushes 123 = .ok (.return_, 1) := by decide +kernel
theorem dX1_wholeSum_0 : decode cX1_wholeSum 0 = .ok (.aload_n 0, 1) := by decide +kernel
theorem dX1_wholeSum_1 : decode cX1_wholeSum 1 = .ok (.getfield 30, 3) := by decide +kernel
theorem dX1_wholeSum_4 : decode cX1_wholeSum 4 = .ok (.getfield 80, 3) := by decide +kernel
theorem dX1_wholeSum_7 : decode cX1_wholeSum 7 = .ok (.iload_n 1, 1) := by decide +kernel
theorem dX1_wholeSum_8 : decode cX1_wholeSum 8 = .ok (.iconst 0, 1) := by decide +kernel
theorem dX1_wholeSum_9 : decode cX1_wholeSum 9 = .ok (.iconst 0, 1) := by decide +kernel
theorem dX1_wholeSum_10 : decode cX1_wholeSum 10 = .ok (.invokestatic 84, 3) := by decide +kernel
theorem dX1_wholeSum_13 : decode cX1_wholeSum 13 = .ok (.i2l, 1) := by decide +kernel
theorem dX1_wholeSum_14 : decode cX1_wholeSum 14 = .ok (.iload_n 2, 1) := by decide +kernel
theorem dX1_wholeSum_15 : decode cX1_wholeSum 15 = .ok (.iconst 0, 1) := by decide +kernel
theorem dX1_wholeSum_16 : decode cX1_wholeSum 16 = .ok (.iconst 0, 1) := by decide +kernel
theorem dX1_wholeSum_17 : decode cX1_wholeSum 17 = .ok (.invokestatic 84, 3) := by decide +kernel
theorem dX1_wholeSum_20 : decode cX1_wholeSum 20 = .ok (.i2l, 1) := by decide +kernel
theorem dX1_wholeSum_21 : decode cX1_wholeSum 21 = .ok (.invokevirtual 88, 3) := by decide +kernel
theorem dX1_wholeSum_24 : decode cX1_wholeSum 24 = .ok (.lreturn, 1) := by decide +kernel
theorem dX1_pushOf_0 : decode cX1_pushOf 0 = .ok (.lload_n 0, 1) := by decide +kernel
theorem dX1_pushOf_1 : decode cX1_pushOf 1 = .ok (.bipush 12, 2) := by decide +kernel
theorem dX1_pushOf_3 : decode cX1_pushOf 3 = .ok (.lshr, 1) := by decide +kernel
theorem dX1_pushOf_4 : decode cX1_pushOf 4 = .ok (.invokestatic 94, 3) := by decide +kernel
theorem dX1_pushOf_7 : decode cX1_pushOf 7 = .ok (.ireturn, 1) := by decide +kernel
theorem dX1_addPushes_0 : decode cX1_addPushes 0 = .ok (.iconst 0, 1) := by decide +kernel
theorem dX1_addPushes_1 : decode cX1_addPushes 1 = .ok (.istore_n 2, 1) := by decide +kernel
theorem dX1_addPushes_2 : decode cX1_addPushes 2 = .ok (.iload_n 2, 1) := by decide +kernel
theorem dX1_addPushes_3 : decode cX1_addPushes 3 = .ok (.bipush 40, 2) := by decide +kernel
theorem dX1_addPushes_5 : decode cX1_addPushes 5 = .ok (.if_icmp .ge 73, 3) := by decide +kernel
theorem dX1_addPushes_8 : decode cX1_addPushes 8 = .ok (.aload_n 0, 1) := by decide +kernel
theorem dX1_addPushes_9 : decode cX1_addPushes 9 = .ok (.getfield 22, 3) := by decide +kernel
theorem dX1_addPushes_12 : decode cX1_addPushes 12 = .ok (.getfield 60, 3) := by decide +kernel
theorem dX1_addPushes_15 : decode cX1_addPushes 15 = .ok (.iload_n 2, 1) := by decide +kernel
theorem dX1_addPushes_16 : decode cX1_addPushes 16 = .ok (.baload, 1) := by decide +kernel
theorem dX1_addPushes_17 : decode cX1_addPushes 17 = .ok (.ifCond .eq 55, 3) := by decide +kernel
theorem dX1_addPushes_20 : decode cX1_addPushes 20 = .ok (.aload_n 0, 1) := by decide +kernel
theorem dX1_addPushes_21 : decode cX1_addPushes 21 = .ok (.getfield 22, 3) := by decide +kernel
theorem dX1_addPushes_24 : decode cX1_addPushes 24 = .ok (.iload_n 2, 1) := by decide +kernel
theorem dX1_addPushes_25 : decode cX1_addPushes 25 = .ok (.aload_n 0, 1) := by decide +kernel
theorem dX1_addPushes_26 : decode cX1_addPushes 26 = .ok (.getfield 22, 3) := by decide +kernel
theorem dX1_addPushes_29 : decode cX1_addPushes 29 = .ok (.getfield 97, 3) := by decide +kernel
theorem dX1_addPushes_32 : decode cX1_addPushes 32 = .ok (.iload_n 2, 1) := by decide +kernel
theorem dX1_addPushes_33 : decode cX1_addPushes 33 = .ok (.iaload, 1) := by decide +kernel
theorem dX1_addPushes_34 : decode cX1_addPushes 34 = .ok (.iload_n 1, 1) := by decide +kernel
theorem dX1_addPushes_35 : decode cX1_addPushes 35 = .ok (.aload_n 0, 1) := by decide +kernel
theorem dX1_addPushes_36 : decode cX1_addPushes 36 = .ok (.getfield 9, 3) := by decide +kernel
theorem dX1_addPushes_39 : decode cX1_addPushes 39 = .ok (.iload_n 2, 1) := by decide +kernel
theorem dX1_addPushes_40 : decode cX1_addPushes 40 = .ok (.iaload, 1) := by decide +kernel
theorem dX1_addPushes_41 : decode cX1_addPushes 41 = .ok (.imul, 1) := by decide +kernel
theorem dX1_addPushes_42 : decode cX1_addPushes 42 = .ok (.iadd, 1) := by decide +kernel
theorem dX1_addPushes_43 : decode cX1_addPushes 43 = .ok (.i2l, 1) := by decide +kernel
theorem dX1_addPushes_44 : decode cX1_addPushes 44 = .ok (.invokestatic 94, 3) := by decide +kernel
theorem dX1_addPushes_47 : decode cX1_addPushes 47 = .ok (.aload_n 0, 1) := by decide +kernel
theorem dX1_addPushes_48 : decode cX1_addPushes 48 = .ok (.getfield 22, 3) := by decide +kernel
theorem dX1_addPushes_51 : decode cX1_addPushes 51 = .ok (.getfield 100, 3) := by decide +kernel
theorem dX1_addPushes_54 : decode cX1_addPushes 54 = .ok (.iload_n 2, 1) := by decide +kernel
theorem dX1_addPushes_55 : decode cX1_addPushes 55 = .ok (.iaload, 1) := by decide +kernel
theorem dX1_addPushes_56 : decode cX1_addPushes 56 = .ok (.iload_n 1, 1) := by decide +kernel
theorem dX1_addPushes_57 : decode cX1_addPushes 57 = .ok (.aload_n 0, 1) := by decide +kernel
theorem dX1_addPushes_58 : decode cX1_addPushes 58 = .ok (.getfield 15, 3) := by decide +kernel
theorem dX1_addPushes_61 : decode cX1_addPushes 61 = .ok (.iload_n 2, 1) := by decide +kernel
theorem dX1_addPushes_62 : decode cX1_addPushes 62 = .ok (.iaload, 1) := by decide +kernel
theorem dX1_addPushes_63 : decode cX1_addPushes 63 = .ok (.imul, 1) := by decide +kernel
theorem dX1_addPushes_64 : decode cX1_addPushes 64 = .ok (.iadd, 1) := by decide +kernel
theorem dX1_addPushes_65 : decode cX1_addPushes 65 = .ok (.i2l, 1) := by decide +kernel
theorem dX1_addPushes_66 : decode cX1_addPushes 66 = .ok (.invokestatic 94, 3) := by decide +kernel
theorem dX1_addPushes_69 : decode cX1_addPushes 69 = .ok (.invokevirtual 103, 3) := by decide +kernel
theorem dX1_addPushes_72 : decode cX1_addPushes 72 = .ok (.iinc 2 1, 3) := by decide +kernel
theorem dX1_addPushes_75 : decode cX1_addPushes 75 = .ok (.goto (-73), 3) := by decide +kernel
theorem dX1_addPushes_78 : decode cX1_addPushes 78 = .ok (.return_, 1) := by decide +kernel
theorem dX1_shiftPlaces_0 : decode cX1_shiftPlaces 0 = .ok (.iconst 0, 1) := by decide +kernel
theorem dX1_shiftPlaces_1 : decode cX1_shiftPlaces 1 = .ok (.istore_n 2, 1) := by decide +kernel
theorem dX1_shiftPlaces_2 : decode cX1_shiftPlaces 2 = .ok (.iload_n 2, 1) := by decide +kernel
theorem dX1_shiftPlaces_3 : decode cX1_shiftPlaces 3 = .ok (.bipush 40, 2) := by decide +kernel
theorem dX1_shiftPlaces_5 : decode cX1_shiftPlaces 5 = .ok (.if_icmp .ge 127, 3) := by decide +kernel
theorem dX1_shiftPlaces_8 : decode cX1_shiftPlaces 8 = .ok (.aload_n 0, 1) := by decide +kernel
theorem dX1_shiftPlaces_9 : decode cX1_shiftPlaces 9 = .ok (.getfield 22, 3) := by decide +kernel
theorem dX1_shiftPlaces_12 : decode cX1_shiftPlaces 12 = .ok (.getfield 60, 3) := by decide +kernel
theorem dX1_shiftPlaces_15 : decode cX1_shiftPlaces 15 = .ok (.iload_n 2, 1) := by decide +kernel
theorem dX1_shiftPlaces_16 : decode cX1_shiftPlaces 16 = .ok (.baload, 1) := by decide +kernel
theorem dX1_shiftPlaces_17 : decode cX1_shiftPlaces 17 = .ok (.ifCond .eq 109, 3) := by decide +kernel
theorem dX1_shiftPlaces_20 : decode cX1_shiftPlaces 20 = .ok (.aload_n 0, 1) := by decide +kernel
theorem dX1_shiftPlaces_21 : decode cX1_shiftPlaces 21 = .ok (.getfield 26, 3) := by decide +kernel
theorem dX1_shiftPlaces_24 : decode cX1_shiftPlaces 24 = .ok (.aload_n 0, 1) := by decide +kernel
theorem dX1_shiftPlaces_25 : decode cX1_shiftPlaces 25 = .ok (.getfield 22, 3) := by decide +kernel
theorem dX1_shiftPlaces_28 : decode cX1_shiftPlaces 28 = .ok (.getfield 66, 3) := by decide +kernel
theorem dX1_shiftPlaces_31 : decode cX1_shiftPlaces 31 = .ok (.iload_n 2, 1) := by decide +kernel
theorem dX1_shiftPlaces_32 : decode cX1_shiftPlaces 32 = .ok (.iaload, 1) := by decide +kernel
theorem dX1_shiftPlaces_33 : decode cX1_shiftPlaces 33 = .ok (.aload_n 0, 1) := by decide +kernel
theorem dX1_shiftPlaces_34 : decode cX1_shiftPlaces 34 = .ok (.getfield 22, 3) := by decide +kernel
theorem dX1_shiftPlaces_37 : decode cX1_shiftPlaces 37 = .ok (.getfield 69, 3) := by decide +kernel
theorem dX1_shiftPlaces_40 : decode cX1_shiftPlaces 40 = .ok (.iload_n 2, 1) := by decide +kernel
theorem dX1_shiftPlaces_41 : decode cX1_shiftPlaces 41 = .ok (.iaload, 1) := by decide +kernel
theorem dX1_shiftPlaces_42 : decode cX1_shiftPlaces 42 = .ok (.invokevirtual 106, 3) := by decide +kernel
theorem dX1_shiftPlaces_45 : decode cX1_shiftPlaces 45 = .ok (.aload_n 0, 1) := by decide +kernel
theorem dX1_shiftPlaces_46 : decode cX1_shiftPlaces 46 = .ok (.getfield 22, 3) := by decide +kernel
theorem dX1_shiftPlaces_49 : decode cX1_shiftPlaces 49 = .ok (.iload_n 2, 1) := by decide +kernel
theorem dX1_shiftPlaces_50 : decode cX1_shiftPlaces 50 = .ok (.aload_n 0, 1) := by decide +kernel
theorem dX1_shiftPlaces_51 : decode cX1_shiftPlaces 51 = .ok (.getfield 22, 3) := by decide +kernel
theorem dX1_shiftPlaces_54 : decode cX1_shiftPlaces 54 = .ok (.getfield 66, 3) := by decide +kernel
theorem dX1_shiftPlaces_57 : decode cX1_shiftPlaces 57 = .ok (.iload_n 2, 1) := by decide +kernel
theorem dX1_shiftPlaces_58 : decode cX1_shiftPlaces 58 = .ok (.iaload, 1) := by decide +kernel
theorem dX1_shiftPlaces_59 : decode cX1_shiftPlaces 59 = .ok (.iload_n 1, 1) := by decide +kernel
theorem dX1_shiftPlaces_60 : decode cX1_shiftPlaces 60 = .ok (.aload_n 0, 1) := by decide +kernel
theorem dX1_shiftPlaces_61 : decode cX1_shiftPlaces 61 = .ok (.getfield 22, 3) := by decide +kernel
theorem dX1_shiftPlaces_64 : decode cX1_shiftPlaces 64 = .ok (.getfield 97, 3) := by decide +kernel
theorem dX1_shiftPlaces_67 : decode cX1_shiftPlaces 67 = .ok (.iload_n 2, 1) := by decide +kernel
theorem dX1_shiftPlaces_68 : decode cX1_shiftPlaces 68 = .ok (.iaload, 1) := by decide +kernel
theorem dX1_shiftPlaces_69 : decode cX1_shiftPlaces 69 = .ok (.imul, 1) := by decide +kernel
theorem dX1_shiftPlaces_70 : decode cX1_shiftPlaces 70 = .ok (.iadd, 1) := by decide +kernel
theorem dX1_shiftPlaces_71 : decode cX1_shiftPlaces 71 = .ok (.invokestatic 110, 3) := by decide +kernel
theorem dX1_shiftPlaces_74 : decode cX1_shiftPlaces 74 = .ok (.aload_n 0, 1) := by decide +kernel
theorem dX1_shiftPlaces_75 : decode cX1_shiftPlaces 75 = .ok (.getfield 22, 3) := by decide +kernel
theorem dX1_shiftPlaces_78 : decode cX1_shiftPlaces 78 = .ok (.getfield 69, 3) := by decide +kernel
theorem dX1_shiftPlaces_81 : decode cX1_shiftPlaces 81 = .ok (.iload_n 2, 1) := by decide +kernel
theorem dX1_shiftPlaces_82 : decode cX1_shiftPlaces 82 = .ok (.iaload, 1) := by decide +kernel
theorem dX1_shiftPlaces_83 : decode cX1_shiftPlaces 83 = .ok (.iload_n 1, 1) := by decide +kernel
theorem dX1_shiftPlaces_84 : decode cX1_shiftPlaces 84 = .ok (.aload_n 0, 1) := by decide +kernel
theorem dX1_shiftPlaces_85 : decode cX1_shiftPlaces 85 = .ok (.getfield 22, 3) := by decide +kernel
theorem dX1_shiftPlaces_88 : decode cX1_shiftPlaces 88 = .ok (.getfield 100, 3) := by decide +kernel
theorem dX1_shiftPlaces_91 : decode cX1_shiftPlaces 91 = .ok (.iload_n 2, 1) := by decide +kernel
theorem dX1_shiftPlaces_92 : decode cX1_shiftPlaces 92 = .ok (.iaload, 1) := by decide +kernel
theorem dX1_shiftPlaces_93 : decode cX1_shiftPlaces 93 = .ok (.imul, 1) := by decide +kernel
theorem dX1_shiftPlaces_94 : decode cX1_shiftPlaces 94 = .ok (.iadd, 1) := by decide +kernel
theorem dX1_shiftPlaces_95 : decode cX1_shiftPlaces 95 = .ok (.invokestatic 110, 3) := by decide +kernel
theorem dX1_shiftPlaces_98 : decode cX1_shiftPlaces 98 = .ok (.invokevirtual 114, 3) := by decide +kernel
theorem dX1_shiftPlaces_101 : decode cX1_shiftPlaces 101 = .ok (.aload_n 0, 1) := by decide +kernel
theorem dX1_shiftPlaces_102 : decode cX1_shiftPlaces 102 = .ok (.getfield 26, 3) := by decide +kernel
theorem dX1_shiftPlaces_105 : decode cX1_shiftPlaces 105 = .ok (.aload_n 0, 1) := by decide +kernel
theorem dX1_shiftPlaces_106 : decode cX1_shiftPlaces 106 = .ok (.getfield 22, 3) := by decide +kernel
theorem dX1_shiftPlaces_109 : decode cX1_shiftPlaces 109 = .ok (.getfield 66, 3) := by decide +kernel
theorem dX1_shiftPlaces_112 : decode cX1_shiftPlaces 112 = .ok (.iload_n 2, 1) := by decide +kernel
theorem dX1_shiftPlaces_113 : decode cX1_shiftPlaces 113 = .ok (.iaload, 1) := by decide +kernel
theorem dX1_shiftPlaces_114 : decode cX1_shiftPlaces 114 = .ok (.aload_n 0, 1) := by decide +kernel
theorem dX1_shiftPlaces_115 : decode cX1_shiftPlaces 115 = .ok (.getfield 22, 3) := by decide +kernel
theorem dX1_shiftPlaces_118 : decode cX1_shiftPlaces 118 = .ok (.getfield 69, 3) := by decide +kernel
theorem dX1_shiftPlaces_121 : decode cX1_shiftPlaces 121 = .ok (.iload_n 2, 1) := by decide +kernel
theorem dX1_shiftPlaces_122 : decode cX1_shiftPlaces 122 = .ok (.iaload, 1) := by decide +kernel
theorem dX1_shiftPlaces_123 : decode cX1_shiftPlaces 123 = .ok (.invokevirtual 117, 3) := by decide +kernel
theorem dX1_shiftPlaces_126 : decode cX1_shiftPlaces 126 = .ok (.iinc 2 1, 3) := by decide +kernel
theorem dX1_shiftPlaces_129 : decode cX1_shiftPlaces 129 = .ok (.goto (-127), 3) := by decide +kernel
theorem dX1_shiftPlaces_132 : decode cX1_shiftPlaces 132 = .ok (.return_, 1) := by decide +kernel
theorem dX2_init_0 : decode cX2_init 0 = .ok (.aload_n 0, 1) := by decide +kernel
theorem dX2_init_1 : decode cX2_init 1 = .ok (.invokespecial 3, 3) := by decide +kernel
theorem dX2_init_4 : decode cX2_init 4 = .ok (.aload_n 0, 1) := by decide +kernel
theorem dX2_init_5 : decode cX2_init 5 = .ok (.bipush 40, 2) := by decide +kernel
theorem dX2_init_7 : decode cX2_init 7 = .ok (.newarray .boolean, 2) := by decide +kernel
theorem dX2_init_9 : decode cX2_init 9 = .ok (.putfield 9, 3) := by decide +kernel
theorem dX2_init_12 : decode cX2_init 12 = .ok (.aload_n 0, 1) := by decide +kernel
theorem dX2_init_13 : decode cX2_init 13 = .ok (.bipush 40, 2) := by decide +kernel
theorem dX2_init_15 : decode cX2_init 15 = .ok (.newarray .int, 2) := by decide +kernel
theorem dX2_init_17 : decode cX2_init 17 = .ok (.putfield 15, 3) := by decide +kernel
theorem dX2_init_20 : decode cX2_init 20 = .ok (.aload_n 0, 1) := by decide +kernel
theorem dX2_init_21 : decode cX2_init 21 = .ok (.bipush 40, 2) := by decide +kernel
theorem dX2_init_23 : decode cX2_init 23 = .ok (.newarray .int, 2) := by decide +kernel
theorem dX2_init_25 : decode cX2_init 25 = .ok (.putfield 19, 3) := by decide +kernel
theorem dX2_init_28 : decode cX2_init 28 = .ok (.aload_n 0, 1) := by decide +kernel
theorem dX2_init_29 : decode cX2_init 29 = .ok (.bipush 40, 2) := by decide +kernel
theorem dX2_init_31 : decode cX2_init 31 = .ok (.newarray .int, 2) := by decide +kernel
theorem dX2_init_33 : decode cX2_init 33 = .ok (.putfield 22, 3) := by decide +kernel
theorem dX2_init_36 : decode cX2_init 36 = .ok (.aload_n 0, 1) := by decide +kernel
theorem dX2_init_37 : decode cX2_init 37 = .ok (.bipush 40, 2) := by decide +kernel
theorem dX2_init_39 : decode cX2_init 39 = .ok (.newarray .int, 2) := by decide +kernel
theorem dX2_init_41 : decode cX2_init 41 = .ok (.putfield 25, 3) := by decide +kernel
theorem dX2_init_44 : decode cX2_init 44 = .ok (.aload_n 0, 1) := by decide +kernel
theorem dX2_init_45 : decode cX2_init 45 = .ok (.bipush 40, 2) := by decide +kernel
theorem dX2_init_47 : decode cX2_init 47 = .ok (.newarray .int, 2) := by decide +kernel
theorem dX2_init_49 : decode cX2_init 49 = .ok (.putfield 28, 3) := by decide +kernel
theorem dX2_init_52 : decode cX2_init 52 = .ok (.aload_n 0, 1) := by decide +kernel
theorem dX2_init_53 : decode cX2_init 53 = .ok (.iconst 0, 1) := by decide +kernel
theorem dX2_init_54 : decode cX2_init 54 = .ok (.putfield 31, 3) := by decide +kernel
theorem dX2_init_57 : decode cX2_init 57 = .ok (.return_, 1) := by decide +kernel
theorem dX2_has_0 : decode cX2_has 0 = .ok (.iload_n 1, 1) := by decide +kernel
theorem dX2_has_1 : decode cX2_has 1 = .ok (.ifCond .lt 22, 3) := by decide +kernel
theorem dX2_has_4 : decode cX2_has 4 = .ok (.iload_n 1, 1) := by decide +kernel
theorem dX2_has_5 : decode cX2_has 5 = .ok (.bipush 40, 2) := by decide +kernel
theorem dX2_has_7 : decode cX2_has 7 = .ok (.if_icmp .ge 16, 3) := by decide +kernel
theorem dX2_has_10 : decode cX2_has 10 = .ok (.aload_n 0, 1) := by decide +kernel
theorem dX2_has_11 : decode cX2_has 11 = .ok (.getfield 9, 3) := by decide +kernel
theorem dX2_has_14 : decode cX2_has 14 = .ok (.iload_n 1, 1) := by decide +kernel
theorem dX2_has_15 : decode cX2_has 15 = .ok (.baload, 1) := by decide +kernel
theorem dX2_has_16 : decode cX2_has 16 = .ok (.ifCond .eq 7, 3) := by decide +kernel
theorem dX2_has_19 : decode cX2_has 19 = .ok (.iconst 1, 1) := by decide +kernel
theorem dX2_has_20 : decode cX2_has 20 = .ok (.goto 4, 3) := by decide +kernel
theorem dX2_has_23 : decode cX2_has 23 = .ok (.iconst 0, 1) := by decide +kernel
theorem dX2_has_24 : decode cX2_has 24 = .ok (.ireturn, 1) := by decide +kernel
theorem dX2_leastFree_0 : decode cX2_leastFree 0 = .ok (.iconst 0, 1) := by decide +kernel
theorem dX2_leastFree_1 : decode cX2_leastFree 1 = .ok (.istore_n 1, 1) := by decide +kernel
theorem dX2_leastFree_2 : decode cX2_leastFree 2 = .ok (.iload_n 1, 1) := by decide +kernel
theorem dX2_leastFree_3 : decode cX2_leastFree 3 = .ok (.bipush 40, 2) := by decide +kernel
theorem dX2_leastFree_5 : decode cX2_leastFree 5 = .ok (.if_icmp .ge 20, 3) := by decide +kernel
theorem dX2_leastFree_8 : decode cX2_leastFree 8 = .ok (.aload_n 0, 1) := by decide +kernel
theorem dX2_leastFree_9 : decode cX2_leastFree 9 = .ok (.getfield 9, 3) := by decide +kernel
theorem dX2_leastFree_12 : decode cX2_leastFree 12 = .ok (.iload_n 1, 1) := by decide +kernel
theorem dX2_leastFree_13 : decode cX2_leastFree 13 = .ok (.baload, 1) := by decide +kernel
theorem dX2_leastFree_14 : decode cX2_leastFree 14 = .ok (.ifCond .ne 5, 3) := by decide +kernel
theorem dX2_leastFree_17 : decode cX2_leastFree 17 = .ok (.iload_n 1, 1) := by decide +kernel
theorem dX2_leastFree_18 : decode cX2_leastFree 18 = .ok (.ireturn, 1) := by decide +kernel
theorem dX2_leastFree_19 : decode cX2_leastFree 19 = .ok (.iinc 1 1, 3) := by decide +kernel
theorem dX2_leastFree_22 : decode cX2_leastFree 22 = .ok (.goto (-20), 3) := by decide +kernel
theorem dX2_leastFree_25 : decode cX2_leastFree 25 = .ok (.iconst (-1), 1) := by decide +kernel
theorem dX2_leastFree_26 : decode cX2_leastFree 26 = .ok (.ireturn, 1) := by decide +kernel
theorem dX2_add_0 : decode cX2_add 0 = .ok (.aload_n 0, 1) := by decide +kernel
theorem dX2_add_1 : decode cX2_add 1 = .ok (.getfield 9, 3) := by decide +kernel
theorem dX2_add_4 : decode cX2_add 4 = .ok (.iload_n 1, 1) := by decide +kernel
theorem dX2_add_5 : decode cX2_add 5 = .ok (.iconst 1, 1) := by decide +kernel
theorem dX2_add_6 : decode cX2_add 6 = .ok (.bastore, 1) := by decide +kernel
theorem dX2_add_7 : decode cX2_add 7 = .ok (.aload_n 0, 1) := by decide +kernel
theorem dX2_add_8 : decode cX2_add 8 = .ok (.iload_n 1, 1) := by decide +kernel
theorem dX2_add_9 : decode cX2_add 9 = .ok (.iload_n 2, 1) := by decide +kernel
theorem dX2_add_10 : decode cX2_add 10 = .ok (.iload_n 3, 1) := by decide +kernel
theorem dX2_add_11 : decode cX2_add 11 = .ok (.invokevirtual 35, 3) := by decide +kernel
theorem dX2_add_14 : decode cX2_add 14 = .ok (.aload_n 0, 1) := by decide +kernel
theorem dX2_add_15 : decode cX2_add 15 = .ok (.getfield 22, 3) := by decide +kernel
theorem dX2_add_18 : decode cX2_add 18 = .ok (.iload_n 1, 1) := by decide +kernel
theorem dX2_add_19 : decode cX2_add 19 = .ok (.iload 4, 2) := by decide +kernel
theorem dX2_add_21 : decode cX2_add 21 = .ok (.iastore, 1) := by decide +kernel
theorem dX2_add_22 : decode cX2_add 22 = .ok (.aload_n 0, 1) := by decide +kernel
theorem dX2_add_23 : decode cX2_add 23 = .ok (.iload_n 1, 1) := by decide +kernel
theorem dX2_add_24 : decode cX2_add 24 = .ok (.iconst 0, 1) := by decide +kernel
theorem dX2_add_25 : decode cX2_add 25 = .ok (.iconst 0, 1) := by decide +kernel
theorem dX2_add_26 : decode cX2_add 26 = .ok (.invokevirtual 39, 3) := by decide +kernel
theorem dX2_add_29 : decode cX2_add 29 = .ok (.aload_n 0, 1) := by decide +kernel
theorem dX2_add_30 : decode cX2_add 30 = .ok (.dup, 1) := by decide +kernel
theorem dX2_add_31 : decode cX2_add 31 = .ok (.getfield 31, 3) := by decide +kernel
theorem dX2_add_34 : decode cX2_add 34 = .ok (.iconst 1, 1) := by decide +kernel
theorem dX2_add_35 : decode cX2_add 35 = .ok (.iadd, 1) := by decide +kernel
theorem dX2_add_36 : decode cX2_add 36 = .ok (.putfield 31, 3) := by decide +kernel
theorem dX2_add_39 : decode cX2_add 39 = .ok (.return_, 1) := by decide +kernel
theorem dX2_remove_0 : decode cX2_remove 0 = .ok (.aload_n 0, 1) := by decide +kernel
theorem dX2_remove_1 : decode cX2_remove 1 = .ok (.getfield 9, 3) := by decide +kernel
theorem dX2_remove_4 : decode cX2_remove 4 = .ok (.iload_n 1, 1) := by decide +kernel
theorem dX2_remove_5 : decode cX2_remove 5 = .ok (.iconst 0, 1) := by decide +kernel
theorem dX2_remove_6 : decode cX2_remove 6 = .ok (.bastore, 1) := by decide +kernel
theorem dX2_remove_7 : decode cX2_remove 7 = .ok (.aload_n 0, 1) := by decide +kernel
theorem dX2_remove_8 : decode cX2_remove 8 = .ok (.dup, 1) := by decide +kernel
theorem dX2_remove_9 : decode cX2_remove 9 = .ok (.getfield 31, 3) := by decide +kernel
theorem dX2_remove_12 : decode cX2_remove 12 = .ok (.iconst 1, 1) := by decide +kernel
theorem dX2_remove_13 : decode cX2_remove 13 = .ok (.isub, 1) := by decide +kernel
theorem dX2_remove_14 : decode cX2_remove 14 = .ok (.putfield 31, 3) := by decide +kernel
theorem dX2_remove_17 : decode cX2_remove 17 = .ok (.return_, 1) := by decide +kernel
theorem dX2_put_0 : decode cX2_put 0 = .ok (.aload_n 0, 1) := by decide +kernel
theorem dX2_put_1 : decode cX2_put 1 = .ok (.getfield 15, 3) := by decide +kernel
theorem dX2_put_4 : decode cX2_put 4 = .ok (.iload_n 1, 1) := by decide +kernel
theorem dX2_put_5 : decode cX2_put 5 = .ok (.iload_n 2, 1) := by decide +kernel
theorem dX2_put_6 : decode cX2_put 6 = .ok (.iastore, 1) := by decide +kernel
theorem dX2_put_7 : decode cX2_put 7 = .ok (.aload_n 0, 1) := by decide +kernel
theorem dX2_put_8 : decode cX2_put 8 = .ok (.getfield 19, 3) := by decide +kernel
theorem dX2_put_11 : decode cX2_put 11 = .ok (.iload_n 1, 1) := by decide +kernel
theorem dX2_put_12 : decode cX2_put 12 = .ok (.iload_n 3, 1) := by decide +kernel
theorem dX2_put_13 : decode cX2_put 13 = .ok (.iastore, 1) := by decide +kernel
theorem dX2_put_14 : decode cX2_put 14 = .ok (.return_, 1) := by decide +kernel
theorem dX2_setPace_0 : decode cX2_setPace 0 = .ok (.aload_n 0, 1) := by decide +kernel
theorem dX2_setPace_1 : decode cX2_setPace 1 = .ok (.getfield 25, 3) := by decide +kernel
theorem dX2_setPace_4 : decode cX2_setPace 4 = .ok (.iload_n 1, 1) := by decide +kernel
theorem dX2_setPace_5 : decode cX2_setPace 5 = .ok (.iload_n 2, 1) := by decide +kernel
theorem dX2_setPace_6 : decode cX2_setPace 6 = .ok (.iastore, 1) := by decide +kernel
theorem dX2_setPace_7 : decode cX2_setPace 7 = .ok (.aload_n 0, 1) := by decide +kernel
theorem dX2_setPace_8 : decode cX2_setPace 8 = .ok (.getfield 28, 3) := by decide +kernel
theorem dX2_setPace_11 : decode cX2_setPace 11 = .ok (.iload_n 1, 1) := by decide +kernel
theorem dX2_setPace_12 : decode cX2_setPace 12 = .ok (.iload_n 3, 1) := by decide +kernel
theorem dX2_setPace_13 : decode cX2_setPace 13 = .ok (.iastore, 1) := by decide +kernel
theorem dX2_setPace_14 : decode cX2_setPace 14 = .ok (.return_, 1) := by decide +kernel
theorem dX2_read_0 : decode cX2_read 0 = .ok (.iload_n 2, 1) := by decide +kernel
theorem dX2_read_1 : decode cX2_read 1 = .ok (.tableswitch 70 0 4 #[35, 42, 49, 56, 63], 35) := by decide +kernel
theorem dX2_read_36 : decode cX2_read 36 = .ok (.aload_n 0, 1) := by decide +kernel
theorem dX2_read_37 : decode cX2_read 37 = .ok (.getfield 15, 3) := by decide +kernel
theorem dX2_read_40 : decode cX2_read 40 = .ok (.iload_n 1, 1) := by decide +kernel
theorem dX2_read_41 : decode cX2_read 41 = .ok (.iaload, 1) := by decide +kernel
theorem dX2_read_42 : decode cX2_read 42 = .ok (.ireturn, 1) := by decide +kernel
theorem dX2_read_43 : decode cX2_read 43 = .ok (.aload_n 0, 1) := by decide +kernel
theorem dX2_read_44 : decode cX2_read 44 = .ok (.getfield 19, 3) := by decide +kernel
theorem dX2_read_47 : decode cX2_read 47 = .ok (.iload_n 1, 1) := by decide +kernel
theorem dX2_read_48 : decode cX2_read 48 = .ok (.iaload, 1) := by decide +kernel
theorem dX2_read_49 : decode cX2_read 49 = .ok (.ireturn, 1) := by decide +kernel
theorem dX2_read_50 : decode cX2_read 50 = .ok (.aload_n 0, 1) := by decide +kernel
theorem dX2_read_51 : decode cX2_read 51 = .ok (.getfield 22, 3) := by decide +kernel
theorem dX2_read_54 : decode cX2_read 54 = .ok (.iload_n 1, 1) := by decide +kernel
theorem dX2_read_55 : decode cX2_read 55 = .ok (.iaload, 1) := by decide +kernel
theorem dX2_read_56 : decode cX2_read 56 = .ok (.ireturn, 1) := by decide +kernel
theorem dX2_read_57 : decode cX2_read 57 = .ok (.aload_n 0, 1) := by decide +kernel
theorem dX2_read_58 : decode cX2_read 58 = .ok (.getfield 25, 3) := by decide +kernel
theorem dX2_read_61 : decode cX2_read 61 = .ok (.iload_n 1, 1) := by decide +kernel
theorem dX2_read_62 : decode cX2_read 62 = .ok (.iaload, 1) := by decide +kernel
theorem dX2_read_63 : decode cX2_read 63 = .ok (.ireturn, 1) := by decide +kernel
theorem dX2_read_64 : decode cX2_read 64 = .ok (.aload_n 0, 1) := by decide +kernel
theorem dX2_read_65 : decode cX2_read 65 = .ok (.getfield 28, 3) := by decide +kernel
theorem dX2_read_68 : decode cX2_read 68 = .ok (.iload_n 1, 1) := by decide +kernel
theorem dX2_read_69 : decode cX2_read 69 = .ok (.iaload, 1) := by decide +kernel
theorem dX2_read_70 : decode cX2_read 70 = .ok (.ireturn, 1) := by decide +kernel
theorem dX2_read_71 : decode cX2_read 71 = .ok (.sipush (-2000), 3) := by decide +kernel
theorem dX2_read_74 : decode cX2_read 74 = .ok (.ireturn, 1) := by decide +kernel
theorem dX2_wholeBulk_0 : decode cX2_wholeBulk 0 = .ok (.iconst 0, 1) := by decide +kernel
theorem dX2_wholeBulk_1 : decode cX2_wholeBulk 1 = .ok (.istore_n 1, 1) := by decide +kernel
theorem dX2_wholeBulk_2 : decode cX2_wholeBulk 2 = .ok (.iconst 0, 1) := by decide +kernel
theorem dX2_wholeBulk_3 : decode cX2_wholeBulk 3 = .ok (.istore_n 2, 1) := by decide +kernel
theorem dX2_wholeBulk_4 : decode cX2_wholeBulk 4 = .ok (.iload_n 2, 1) := by decide +kernel
theorem dX2_wholeBulk_5 : decode cX2_wholeBulk 5 = .ok (.bipush 40, 2) := by decide +kernel
theorem dX2_wholeBulk_7 : decode cX2_wholeBulk 7 = .ok (.if_icmp .ge 30, 3) := by decide +kernel
theorem dX2_wholeBulk_10 : decode cX2_wholeBulk 10 = .ok (.aload_n 0, 1) := by decide +kernel
theorem dX2_wholeBulk_11 : decode cX2_wholeBulk 11 = .ok (.getfield 9, 3) := by decide +kernel
theorem dX2_wholeBulk_14 : decode cX2_wholeBulk 14 = .ok (.iload_n 2, 1) := by decide +kernel
theorem dX2_wholeBulk_15 : decode cX2_wholeBulk 15 = .ok (.baload, 1) := by decide +kernel
theorem dX2_wholeBulk_16 : decode cX2_wholeBulk 16 = .ok (.ifCond .eq 15, 3) := by decide +kernel
theorem dX2_wholeBulk_19 : decode cX2_wholeBulk 19 = .ok (.iload_n 1, 1) := by decide +kernel
theorem dX2_wholeBulk_20 : decode cX2_wholeBulk 20 = .ok (.aload_n 0, 1) := by decide +kernel
theorem dX2_wholeBulk_21 : decode cX2_wholeBulk 21 = .ok (.getfield 22, 3) := by decide +kernel
theorem dX2_wholeBulk_24 : decode cX2_wholeBulk 24 = .ok (.iload_n 2, 1) := by decide +kernel
theorem dX2_wholeBulk_25 : decode cX2_wholeBulk 25 = .ok (.iaload, 1) := by decide +kernel
theorem dX2_wholeBulk_26 : decode cX2_wholeBulk 26 = .ok (.invokestatic 42, 3) := by decide +kernel
theorem dX2_wholeBulk_29 : decode cX2_wholeBulk 29 = .ok (.iadd, 1) := by decide +kernel
theorem dX2_wholeBulk_30 : decode cX2_wholeBulk 30 = .ok (.istore_n 1, 1) := by decide +kernel
theorem dX2_wholeBulk_31 : decode cX2_wholeBulk 31 = .ok (.iinc 2 1, 3) := by decide +kernel
theorem dX2_wholeBulk_34 : decode cX2_wholeBulk 34 = .ok (.goto (-30), 3) := by decide +kernel
theorem dX2_wholeBulk_37 : decode cX2_wholeBulk 37 = .ok (.iload_n 1, 1) := by decide +kernel
theorem dX2_wholeBulk_38 : decode cX2_wholeBulk 38 = .ok (.ireturn, 1) := by decide +kernel
theorem dX2_nearerThan_0 : decode cX2_nearerThan 0 = .ok (.aload_n 0, 1) := by decide +kernel
theorem dX2_nearerThan_1 : decode cX2_nearerThan 1 = .ok (.iload_n 1, 1) := by decide +kernel
theorem dX2_nearerThan_2 : decode cX2_nearerThan 2 = .ok (.iload_n 2, 1) := by decide +kernel
theorem dX2_nearerThan_3 : decode cX2_nearerThan 3 = .ok (.iload_n 3, 1) := by decide +kernel
theorem dX2_nearerThan_4 : decode cX2_nearerThan 4 = .ok (.invokevirtual 48, 3) := by decide +kernel
theorem dX2_nearerThan_7 : decode cX2_nearerThan 7 = .ok (.istore 4, 2) := by decide +kernel
theorem dX2_nearerThan_9 : decode cX2_nearerThan 9 = .ok (.iconst 0, 1) := by decide +kernel
theorem dX2_nearerThan_10 : decode cX2_nearerThan 10 = .ok (.istore 5, 2) := by decide +kernel
theorem dX2_nearerThan_12 : decode cX2_nearerThan 12 = .ok (.iconst 0, 1) := by decide +kernel
theorem dX2_nearerThan_13 : decode cX2_nearerThan 13 = .ok (.istore 6, 2) := by decide +kernel
theorem dX2_nearerThan_15 : decode cX2_nearerThan 15 = .ok (.iload 6, 2) := by decide +kernel
theorem dX2_nearerThan_17 : decode cX2_nearerThan 17 = .ok (.bipush 40, 2) := by decide +kernel
theorem dX2_nearerThan_19 : decode cX2_nearerThan 19 = .ok (.if_icmp .ge 35, 3) := by decide +kernel
theorem dX2_nearerThan_22 : decode cX2_nearerThan 22 = .ok (.aload_n 0, 1) := by decide +kernel
theorem dX2_nearerThan_23 : decode cX2_nearerThan 23 = .ok (.getfield 9, 3) := by decide +kernel
theorem dX2_nearerThan_26 : decode cX2_nearerThan 26 = .ok (.iload 6, 2) := by decide +kernel
theorem dX2_nearerThan_28 : decode cX2_nearerThan 28 = .ok (.baload, 1) := by decide +kernel
theorem dX2_nearerThan_29 : decode cX2_nearerThan 29 = .ok (.ifCond .eq 19, 3) := by decide +kernel
theorem dX2_nearerThan_32 : decode cX2_nearerThan 32 = .ok (.aload_n 0, 1) := by decide +kernel
theorem dX2_nearerThan_33 : decode cX2_nearerThan 33 = .ok (.iload 6, 2) := by decide +kernel
theorem dX2_nearerThan_35 : decode cX2_nearerThan 35 = .ok (.iload_n 2, 1) := by decide +kernel
theorem dX2_nearerThan_36 : decode cX2_nearerThan 36 = .ok (.iload_n 3, 1) := by decide +kernel
theorem dX2_nearerThan_37 : decode cX2_nearerThan 37 = .ok (.invokevirtual 48, 3) := by decide +kernel
theorem dX2_nearerThan_40 : decode cX2_nearerThan 40 = .ok (.iload 4, 2) := by decide +kernel
theorem dX2_nearerThan_42 : decode cX2_nearerThan 42 = .ok (.if_icmp .ge 6, 3) := by decide +kernel
theorem dX2_nearerThan_45 : decode cX2_nearerThan 45 = .ok (.iinc 5 1, 3) := by decide +kernel
theorem dX2_nearerThan_48 : decode cX2_nearerThan 48 = .ok (.iinc 6 1, 3) := by decide +kernel
theorem dX2_nearerThan_51 : decode cX2_nearerThan 51 = .ok (.goto (-36), 3) := by decide +kernel
theorem dX2_nearerThan_54 : decode cX2_nearerThan 54 = .ok (.iload 5, 2) := by decide +kernel
theorem dX2_nearerThan_56 : decode cX2_nearerThan 56 = .ok (.ireturn, 1) := by decide +kernel
theorem dX2_rankKey_0 : decode cX2_rankKey 0 = .ok (.aload_n 0, 1) := by decide +kernel
theorem dX2_rankKey_1 : decode cX2_rankKey 1 = .ok (.getfield 15, 3) := by decide +kernel
theorem dX2_rankKey_4 : decode cX2_rankKey 4 = .ok (.iload_n 1, 1) := by decide +kernel
theorem dX2_rankKey_5 : decode cX2_rankKey 5 = .ok (.iaload, 1) := by decide +kernel
theorem dX2_rankKey_6 : decode cX2_rankKey 6 = .ok (.iload_n 2, 1) := by decide +kernel
theorem dX2_rankKey_7 : decode cX2_rankKey 7 = .ok (.isub, 1) := by decide +kernel
theorem dX2_rankKey_8 : decode cX2_rankKey 8 = .ok (.istore 4, 2) := by decide +kernel
theorem dX2_rankKey_10 : decode cX2_rankKey 10 = .ok (.aload_n 0, 1) := by decide +kernel
theorem dX2_rankKey_11 : decode cX2_rankKey 11 = .ok (.getfield 19, 3) := by decide +kernel
theorem dX2_rankKey_14 : decode cX2_rankKey 14 = .ok (.iload_n 1, 1) := by decide +kernel
theorem dX2_rankKey_15 : decode cX2_rankKey 15 = .ok (.iaload, 1) := by decide +kernel
theorem dX2_rankKey_16 : decode cX2_rankKey 16 = .ok (.iload_n 3, 1) := by decide +kernel
theorem dX2_rankKey_17 : decode cX2_rankKey 17 = .ok (.isub, 1) := by decide +kernel
theorem dX2_rankKey_18 : decode cX2_rankKey 18 = .ok (.istore 5, 2) := by decide +kernel
theorem dX2_rankKey_20 : decode cX2_rankKey 20 = .ok (.iload 4, 2) := by decide +kernel
theorem dX2_rankKey_22 : decode cX2_rankKey 22 = .ok (.iload 4, 2) := by decide +kernel
theorem dX2_rankKey_24 : decode cX2_rankKey 24 = .ok (.imul, 1) := by decide +kernel
theorem dX2_rankKey_25 : decode cX2_rankKey 25 = .ok (.iload 5, 2) := by decide +kernel
theorem dX2_rankKey_27 : decode cX2_rankKey 27 = .ok (.iload 5, 2) := by decide +kernel
theorem dX2_rankKey_29 : decode cX2_rankKey 29 = .ok (.imul, 1) := by decide +kernel
theorem dX2_rankKey_30 : decode cX2_rankKey 30 = .ok (.iadd, 1) := by decide +kernel
theorem dX2_rankKey_31 : decode cX2_rankKey 31 = .ok (.bipush 40, 2) := by decide +kernel
theorem dX2_rankKey_33 : decode cX2_rankKey 33 = .ok (.imul, 1) := by decide +kernel
theorem dX2_rankKey_34 : decode cX2_rankKey 34 = .ok (.iload_n 1, 1) := by decide +kernel
theorem dX2_rankKey_35 : decode cX2_rankKey 35 = .ok (.iadd, 1) := by decide +kernel
theorem dX2_rankKey_36 : decode cX2_rankKey 36 = .ok (.ireturn, 1) := by decide +kernel
theorem dX3_init_0 : decode cX3_init 0 = .ok (.aload_n 0, 1) := by decide +kernel
theorem dX3_init_1 : decode cX3_init 1 = .ok (.invokespecial 3, 3) := by decide +kernel
theorem dX3_init_4 : decode cX3_init 4 = .ok (.aload_n 0, 1) := by decide +kernel
theorem dX3_init_5 : decode cX3_init 5 = .ok (.bipush 25, 2) := by decide +kernel
theorem dX3_init_7 : decode cX3_init 7 = .ok (.newarray .long, 2) := by decide +kernel
theorem dX3_init_9 : decode cX3_init 9 = .ok (.putfield 9, 3) := by decide +kernel
theorem dX3_init_12 : decode cX3_init 12 = .ok (.return_, 1) := by decide +kernel
theorem dX3_get_0 : decode cX3_get 0 = .ok (.aload_n 0, 1) := by decide +kernel
theorem dX3_get_1 : decode cX3_get 1 = .ok (.getfield 9, 3) := by decide +kernel
theorem dX3_get_4 : decode cX3_get 4 = .ok (.iload_n 1, 1) := by decide +kernel
theorem dX3_get_5 : decode cX3_get 5 = .ok (.iload_n 2, 1) := by decide +kernel
theorem dX3_get_6 : decode cX3_get 6 = .ok (.invokestatic 15, 3) := by decide +kernel
theorem dX3_get_9 : decode cX3_get 9 = .ok (.laload, 1) := by decide +kernel
theorem dX3_get_10 : decode cX3_get 10 = .ok (.lreturn, 1) := by decide +kernel
theorem dX3_set_0 : decode cX3_set 0 = .ok (.aload_n 0, 1) := by decide +kernel
theorem dX3_set_1 : decode cX3_set 1 = .ok (.getfield 9, 3) := by decide +kernel
theorem dX3_set_4 : decode cX3_set 4 = .ok (.iload_n 1, 1) := by decide +kernel
theorem dX3_set_5 : decode cX3_set 5 = .ok (.iload_n 2, 1) := by decide +kernel
theorem dX3_set_6 : decode cX3_set 6 = .ok (.invokestatic 15, 3) := by decide +kernel
theorem dX3_set_9 : decode cX3_set 9 = .ok (.lload_n 3, 1) := by decide +kernel
theorem dX3_set_10 : decode cX3_set 10 = .ok (.lastore, 1) := by decide +kernel
theorem dX3_set_11 : decode cX3_set 11 = .ok (.return_, 1) := by decide +kernel
theorem dX3_add_0 : decode cX3_add 0 = .ok (.aload_n 0, 1) := by decide +kernel
theorem dX3_add_1 : decode cX3_add 1 = .ok (.getfield 9, 3) := by decide +kernel
theorem dX3_add_4 : decode cX3_add 4 = .ok (.iload_n 1, 1) := by decide +kernel
theorem dX3_add_5 : decode cX3_add 5 = .ok (.iload_n 2, 1) := by decide +kernel
theorem dX3_add_6 : decode cX3_add 6 = .ok (.invokestatic 15, 3) := by decide +kernel
theorem dX3_add_9 : decode cX3_add 9 = .ok (.dup2, 1) := by decide +kernel
theorem dX3_add_10 : decode cX3_add 10 = .ok (.laload, 1) := by decide +kernel
theorem dX3_add_11 : decode cX3_add 11 = .ok (.lload_n 3, 1) := by decide +kernel
theorem dX3_add_12 : decode cX3_add 12 = .ok (.ladd, 1) := by decide +kernel
theorem dX3_add_13 : decode cX3_add 13 = .ok (.lastore, 1) := by decide +kernel
theorem dX3_add_14 : decode cX3_add 14 = .ok (.return_, 1) := by decide +kernel
theorem dX3_clear_0 : decode cX3_clear 0 = .ok (.iconst 0, 1) := by decide +kernel
theorem dX3_clear_1 : decode cX3_clear 1 = .ok (.istore_n 1, 1) := by decide +kernel
theorem dX3_clear_2 : decode cX3_clear 2 = .ok (.iload_n 1, 1) := by decide +kernel
theorem dX3_clear_3 : decode cX3_clear 3 = .ok (.bipush 25, 2) := by decide +kernel
theorem dX3_clear_5 : decode cX3_clear 5 = .ok (.if_icmp .ge 16, 3) := by decide +kernel
theorem dX3_clear_8 : decode cX3_clear 8 = .ok (.aload_n 0, 1) := by decide +kernel
theorem dX3_clear_9 : decode cX3_clear 9 = .ok (.getfield 9, 3) := by decide +kernel
theorem dX3_clear_12 : decode cX3_clear 12 = .ok (.iload_n 1, 1) := by decide +kernel
theorem dX3_clear_13 : decode cX3_clear 13 = .ok (.lconst 0, 1) := by decide +kernel
theorem dX3_clear_14 : decode cX3_clear 14 = .ok (.lastore, 1) := by decide +kernel
theorem dX3_clear_15 : decode cX3_clear 15 = .ok (.iinc 1 1, 3) := by decide +kernel
theorem dX3_clear_18 : decode cX3_clear 18 = .ok (.goto (-16), 3) := by decide +kernel
theorem dX3_clear_21 : decode cX3_clear 21 = .ok (.return_, 1) := by decide +kernel
theorem dX3_valueAt_0 : decode cX3_valueAt 0 = .ok (.lconst 0, 1) := by decide +kernel
theorem dX3_valueAt_1 : decode cX3_valueAt 1 = .ok (.lstore 5, 2) := by decide +kernel
theorem dX3_valueAt_3 : decode cX3_valueAt 3 = .ok (.iconst 4, 1) := by decide +kernel
theorem dX3_valueAt_4 : decode cX3_valueAt 4 = .ok (.istore 7, 2) := by decide +kernel
theorem dX3_valueAt_6 : decode cX3_valueAt 6 = .ok (.iload 7, 2) := by decide +kernel
theorem dX3_valueAt_8 : decode cX3_valueAt 8 = .ok (.ifCond .lt 57, 3) := by decide +kernel
theorem dX3_valueAt_11 : decode cX3_valueAt 11 = .ok (.lconst 0, 1) := by decide +kernel
theorem dX3_valueAt_12 : decode cX3_valueAt 12 = .ok (.lstore 8, 2) := by decide +kernel
theorem dX3_valueAt_14 : decode cX3_valueAt 14 = .ok (.iconst 4, 1) := by decide +kernel
theorem dX3_valueAt_15 : decode cX3_valueAt 15 = .ok (.iload 7, 2) := by decide +kernel
theorem dX3_valueAt_17 : decode cX3_valueAt 17 = .ok (.isub, 1) := by decide +kernel
theorem dX3_valueAt_18 : decode cX3_valueAt 18 = .ok (.istore 10, 2) := by decide +kernel
theorem dX3_valueAt_20 : decode cX3_valueAt 20 = .ok (.iload 10, 2) := by decide +kernel
theorem dX3_valueAt_22 : decode cX3_valueAt 22 = .ok (.ifCond .lt 28, 3) := by decide +kernel
theorem dX3_valueAt_25 : decode cX3_valueAt 25 = .ok (.lload 8, 2) := by decide +kernel
theorem dX3_valueAt_27 : decode cX3_valueAt 27 = .ok (.lload_n 3, 1) := by decide +kernel
theorem dX3_valueAt_28 : decode cX3_valueAt 28 = .ok (.lmul, 1) := by decide +kernel
theorem dX3_valueAt_29 : decode cX3_valueAt 29 = .ok (.aload_n 0, 1) := by decide +kernel
theorem dX3_valueAt_30 : decode cX3_valueAt 30 = .ok (.getfield 9, 3) := by decide +kernel
theorem dX3_valueAt_33 : decode cX3_valueAt 33 = .ok (.iload 7, 2) := by decide +kernel
theorem dX3_valueAt_35 : decode cX3_valueAt 35 = .ok (.iload 10, 2) := by decide +kernel
theorem dX3_valueAt_37 : decode cX3_valueAt 37 = .ok (.invokestatic 15, 3) := by decide +kernel
theorem dX3_valueAt_40 : decode cX3_valueAt 40 = .ok (.laload, 1) := by decide +kernel
theorem dX3_valueAt_41 : decode cX3_valueAt 41 = .ok (.ladd, 1) := by decide +kernel
theorem dX3_valueAt_42 : decode cX3_valueAt 42 = .ok (.lstore 8, 2) := by decide +kernel
theorem dX3_valueAt_44 : decode cX3_valueAt 44 = .ok (.iinc 10 (-1), 3) := by decide +kernel
theorem dX3_valueAt_47 : decode cX3_valueAt 47 = .ok (.goto (-27), 3) := by decide +kernel
theorem dX3_valueAt_50 : decode cX3_valueAt 50 = .ok (.lload 5, 2) := by decide +kernel
theorem dX3_valueAt_52 : decode cX3_valueAt 52 = .ok (.lload_n 1, 1) := by decide +kernel
theorem dX3_valueAt_53 : decode cX3_valueAt 53 = .ok (.lmul, 1) := by decide +kernel
theorem dX3_valueAt_54 : decode cX3_valueAt 54 = .ok (.lload 8, 2) := by decide +kernel
theorem dX3_valueAt_56 : decode cX3_valueAt 56 = .ok (.ladd, 1) := by decide +kernel
theorem dX3_valueAt_57 : decode cX3_valueAt 57 = .ok (.lstore 5, 2) := by decide +kernel
theorem dX3_valueAt_59 : decode cX3_valueAt 59 = .ok (.iinc 7 (-1), 3) := by decide +kernel
theorem dX3_valueAt_62 : decode cX3_valueAt 62 = .ok (.goto (-56), 3) := by decide +kernel
theorem dX3_valueAt_65 : decode cX3_valueAt 65 = .ok (.lload 5, 2) := by decide +kernel
theorem dX3_valueAt_67 : decode cX3_valueAt 67 = .ok (.lreturn, 1) := by decide +kernel
theorem dX4_init_0 : decode cX4_init 0 = .ok (.aload_n 0, 1) := by decide +kernel
theorem dX4_init_1 : decode cX4_init 1 = .ok (.invokespecial 3, 3) := by decide +kernel
theorem dX4_init_4 : decode cX4_init 4 = .ok (.aload_n 0, 1) := by decide +kernel
theorem dX4_init_5 : decode cX4_init 5 = .ok (.new 9, 3) := by decide +kernel
theorem dX4_init_8 : decode cX4_init 8 = .ok (.dup, 1) := by decide +kernel
theorem dX4_init_9 : decode cX4_init 9 = .ok (.invokespecial 11, 3) := by decide +kernel
theorem dX4_init_12 : decode cX4_init 12 = .ok (.putfield 12, 3) := by decide +kernel
theorem dX4_init_15 : decode cX4_init 15 = .ok (.aload_n 0, 1) := by decide +kernel
theorem dX4_init_16 : decode cX4_init 16 = .ok (.aload_n 1, 1) := by decide +kernel
theorem dX4_init_17 : decode cX4_init 17 = .ok (.putfield 18, 3) := by decide +kernel
theorem dX4_init_20 : decode cX4_init 20 = .ok (.return_, 1) := by decide +kernel
theorem dX4_expandTerm_0 : decode cX4_expandTerm 0 = .ok (.aload_n 0, 1) := by decide +kernel
theorem dX4_expandTerm_1 : decode cX4_expandTerm 1 = .ok (.getfield 12, 3) := by decide +kernel
theorem dX4_expandTerm_4 : decode cX4_expandTerm 4 = .ok (.invokevirtual 21, 3) := by decide +kernel
theorem dX4_expandTerm_7 : decode cX4_expandTerm 7 = .ok (.iconst 0, 1) := by decide +kernel
theorem dX4_expandTerm_8 : decode cX4_expandTerm 8 = .ok (.istore_n 3, 1) := by decide +kernel
theorem dX4_expandTerm_9 : decode cX4_expandTerm 9 = .ok (.iload_n 3, 1) := by decide +kernel
theorem dX4_expandTerm_10 : decode cX4_expandTerm 10 = .ok (.iconst 4, 1) := by decide +kernel
theorem dX4_expandTerm_11 : decode cX4_expandTerm 11 = .ok (.if_icmp .gt 63, 3) := by decide +kernel
theorem dX4_expandTerm_14 : decode cX4_expandTerm 14 = .ok (.iconst 0, 1) := by decide +kernel
theorem dX4_expandTerm_15 : decode cX4_expandTerm 15 = .ok (.istore 4, 2) := by decide +kernel
theorem dX4_expandTerm_17 : decode cX4_expandTerm 17 = .ok (.iload_n 3, 1) := by decide +kernel
theorem dX4_expandTerm_18 : decode cX4_expandTerm 18 = .ok (.iload 4, 2) := by decide +kernel
theorem dX4_expandTerm_20 : decode cX4_expandTerm 20 = .ok (.iadd, 1) := by decide +kernel
theorem dX4_expandTerm_21 : decode cX4_expandTerm 21 = .ok (.iconst 4, 1) := by decide +kernel
theorem dX4_expandTerm_22 : decode cX4_expandTerm 22 = .ok (.if_icmp .gt 46, 3) := by decide +kernel
theorem dX4_expandTerm_25 : decode cX4_expandTerm 25 = .ok (.aload_n 0, 1) := by decide +kernel
theorem dX4_expandTerm_26 : decode cX4_expandTerm 26 = .ok (.getfield 18, 3) := by decide +kernel
theorem dX4_expandTerm_29 : decode cX4_expandTerm 29 = .ok (.iload_n 3, 1) := by decide +kernel
theorem dX4_expandTerm_30 : decode cX4_expandTerm 30 = .ok (.iload 4, 2) := by decide +kernel
theorem dX4_expandTerm_32 : decode cX4_expandTerm 32 = .ok (.invokevirtual 24, 3) := by decide +kernel
theorem dX4_expandTerm_35 : decode cX4_expandTerm 35 = .ok (.iconst 4, 1) := by decide +kernel
theorem dX4_expandTerm_36 : decode cX4_expandTerm 36 = .ok (.iload_n 3, 1) := by decide +kernel
theorem dX4_expandTerm_37 : decode cX4_expandTerm 37 = .ok (.isub, 1) := by decide +kernel
theorem dX4_expandTerm_38 : decode cX4_expandTerm 38 = .ok (.iload 4, 2) := by decide +kernel
theorem dX4_expandTerm_40 : decode cX4_expandTerm 40 = .ok (.isub, 1) := by decide +kernel
theorem dX4_expandTerm_41 : decode cX4_expandTerm 41 = .ok (.lshl, 1) := by decide +kernel
theorem dX4_expandTerm_42 : decode cX4_expandTerm 42 = .ok (.lstore 5, 2) := by decide +kernel
theorem dX4_expandTerm_44 : decode cX4_expandTerm 44 = .ok (.lload 5, 2) := by decide +kernel
theorem dX4_expandTerm_46 : decode cX4_expandTerm 46 = .ok (.lconst 0, 1) := by decide +kernel
theorem dX4_expandTerm_47 : decode cX4_expandTerm 47 = .ok (.lcmp, 1) := by decide +kernel
theorem dX4_expandTerm_48 : decode cX4_expandTerm 48 = .ok (.ifCond .eq 14, 3) := by decide +kernel
theorem dX4_expandTerm_51 : decode cX4_expandTerm 51 = .ok (.aload_n 0, 1) := by decide +kernel
theorem dX4_expandTerm_52 : decode cX4_expandTerm 52 = .ok (.iload_n 3, 1) := by decide +kernel
theorem dX4_expandTerm_53 : decode cX4_expandTerm 53 = .ok (.iload 4, 2) := by decide +kernel
theorem dX4_expandTerm_55 : decode cX4_expandTerm 55 = .ok (.lload 5, 2) := by decide +kernel
theorem dX4_expandTerm_57 : decode cX4_expandTerm 57 = .ok (.aload_n 1, 1) := by decide +kernel
theorem dX4_expandTerm_58 : decode cX4_expandTerm 58 = .ok (.iload_n 2, 1) := by decide +kernel
theorem dX4_expandTerm_59 : decode cX4_expandTerm 59 = .ok (.invokevirtual 28, 3) := by decide +kernel
theorem dX4_expandTerm_62 : decode cX4_expandTerm 62 = .ok (.iinc 4 1, 3) := by decide +kernel
theorem dX4_expandTerm_65 : decode cX4_expandTerm 65 = .ok (.goto (-48), 3) := by decide +kernel
theorem dX4_expandTerm_68 : decode cX4_expandTerm 68 = .ok (.iinc 3 1, 3) := by decide +kernel
theorem dX4_expandTerm_71 : decode cX4_expandTerm 71 = .ok (.goto (-62), 3) := by decide +kernel
theorem dX4_expandTerm_74 : decode cX4_expandTerm 74 = .ok (.return_, 1) := by decide +kernel
theorem dX4_expandEnd_0 : decode cX4_expandEnd 0 = .ok (.aload_n 0, 1) := by decide +kernel
theorem dX4_expandEnd_1 : decode cX4_expandEnd 1 = .ok (.getfield 12, 3) := by decide +kernel
theorem dX4_expandEnd_4 : decode cX4_expandEnd 4 = .ok (.invokevirtual 21, 3) := by decide +kernel
theorem dX4_expandEnd_7 : decode cX4_expandEnd 7 = .ok (.iconst 0, 1) := by decide +kernel
theorem dX4_expandEnd_8 : decode cX4_expandEnd 8 = .ok (.istore 5, 2) := by decide +kernel
theorem dX4_expandEnd_10 : decode cX4_expandEnd 10 = .ok (.iload 5, 2) := by decide +kernel
theorem dX4_expandEnd_12 : decode cX4_expandEnd 12 = .ok (.iconst 4, 1) := by decide +kernel
theorem dX4_expandEnd_13 : decode cX4_expandEnd 13 = .ok (.if_icmp .gt 73, 3) := by decide +kernel
theorem dX4_expandEnd_16 : decode cX4_expandEnd 16 = .ok (.iconst 0, 1) := by decide +kernel
theorem dX4_expandEnd_17 : decode cX4_expandEnd 17 = .ok (.istore 6, 2) := by decide +kernel
theorem dX4_expandEnd_19 : decode cX4_expandEnd 19 = .ok (.iload 5, 2) := by decide +kernel
theorem dX4_expandEnd_21 : decode cX4_expandEnd 21 = .ok (.iload 6, 2) := by decide +kernel
theorem dX4_expandEnd_23 : decode cX4_expandEnd 23 = .ok (.iadd, 1) := by decide +kernel
theorem dX4_expandEnd_24 : decode cX4_expandEnd 24 = .ok (.iconst 4, 1) := by decide +kernel
theorem dX4_expandEnd_25 : decode cX4_expandEnd 25 = .ok (.if_icmp .gt 55, 3) := by decide +kernel
theorem dX4_expandEnd_28 : decode cX4_expandEnd 28 = .ok (.aload_n 0, 1) := by decide +kernel
theorem dX4_expandEnd_29 : decode cX4_expandEnd 29 = .ok (.getfield 18, 3) := by decide +kernel
theorem dX4_expandEnd_32 : decode cX4_expandEnd 32 = .ok (.iload 5, 2) := by decide +kernel
theorem dX4_expandEnd_34 : decode cX4_expandEnd 34 = .ok (.iload 6, 2) := by decide +kernel
theorem dX4_expandEnd_36 : decode cX4_expandEnd 36 = .ok (.invokevirtual 24, 3) := by decide +kernel
theorem dX4_expandEnd_39 : decode cX4_expandEnd 39 = .ok (.invokestatic 32, 3) := by decide +kernel
theorem dX4_expandEnd_42 : decode cX4_expandEnd 42 = .ok (.iconst 4, 1) := by decide +kernel
theorem dX4_expandEnd_43 : decode cX4_expandEnd 43 = .ok (.iload 5, 2) := by decide +kernel
theorem dX4_expandEnd_45 : decode cX4_expandEnd 45 = .ok (.isub, 1) := by decide +kernel
theorem dX4_expandEnd_46 : decode cX4_expandEnd 46 = .ok (.iload 6, 2) := by decide +kernel
theorem dX4_expandEnd_48 : decode cX4_expandEnd 48 = .ok (.isub, 1) := by decide +kernel
theorem dX4_expandEnd_49 : decode cX4_expandEnd 49 = .ok (.lshl, 1) := by decide +kernel
theorem dX4_expandEnd_50 : decode cX4_expandEnd 50 = .ok (.lstore 7, 2) := by decide +kernel
theorem dX4_expandEnd_52 : decode cX4_expandEnd 52 = .ok (.lload 7, 2) := by decide +kernel
theorem dX4_expandEnd_54 : decode cX4_expandEnd 54 = .ok (.lconst 0, 1) := by decide +kernel
theorem dX4_expandEnd_55 : decode cX4_expandEnd 55 = .ok (.lcmp, 1) := by decide +kernel
theorem dX4_expandEnd_56 : decode cX4_expandEnd 56 = .ok (.ifCond .eq 18, 3) := by decide +kernel
theorem dX4_expandEnd_59 : decode cX4_expandEnd 59 = .ok (.aload_n 0, 1) := by decide +kernel
theorem dX4_expandEnd_60 : decode cX4_expandEnd 60 = .ok (.iload 5, 2) := by decide +kernel
theorem dX4_expandEnd_62 : decode cX4_expandEnd 62 = .ok (.iload 6, 2) := by decide +kernel
theorem dX4_expandEnd_64 : decode cX4_expandEnd 64 = .ok (.lload 7, 2) := by decide +kernel
theorem dX4_expandEnd_66 : decode cX4_expandEnd 66 = .ok (.lload_n 1, 1) := by decide +kernel
theorem dX4_expandEnd_67 : decode cX4_expandEnd 67 = .ok (.lmul, 1) := by decide +kernel
theorem dX4_expandEnd_68 : decode cX4_expandEnd 68 = .ok (.iload_n 3, 1) := by decide +kernel
theorem dX4_expandEnd_69 : decode cX4_expandEnd 69 = .ok (.iload 4, 2) := by decide +kernel
theorem dX4_expandEnd_71 : decode cX4_expandEnd 71 = .ok (.invokevirtual 38, 3) := by decide +kernel
theorem dX4_expandEnd_74 : decode cX4_expandEnd 74 = .ok (.iinc 6 1, 3) := by decide +kernel
theorem dX4_expandEnd_77 : decode cX4_expandEnd 77 = .ok (.goto (-58), 3) := by decide +kernel
theorem dX4_expandEnd_80 : decode cX4_expandEnd 80 = .ok (.iinc 5 1, 3) := by decide +kernel
theorem dX4_expandEnd_83 : decode cX4_expandEnd 83 = .ok (.goto (-73), 3) := by decide +kernel
theorem dX4_expandEnd_86 : decode cX4_expandEnd 86 = .ok (.return_, 1) := by decide +kernel
theorem dX4_addTermParts_0 : decode cX4_addTermParts 0 = .ok (.iconst 0, 1) := by decide +kernel
theorem dX4_addTermParts_1 : decode cX4_addTermParts 1 = .ok (.istore 7, 2) := by decide +kernel
theorem dX4_addTermParts_3 : decode cX4_addTermParts 3 = .ok (.iload 7, 2) := by decide +kernel
theorem dX4_addTermParts_5 : decode cX4_addTermParts 5 = .ok (.iload_n 1, 1) := by decide +kernel
theorem dX4_addTermParts_6 : decode cX4_addTermParts 6 = .ok (.if_icmp .gt 91, 3) := by decide +kernel
theorem dX4_addTermParts_9 : decode cX4_addTermParts 9 = .ok (.iconst 0, 1) := by decide +kernel
theorem dX4_addTermParts_10 : decode cX4_addTermParts 10 = .ok (.istore 8, 2) := by decide +kernel
theorem dX4_addTermParts_12 : decode cX4_addTermParts 12 = .ok (.iload 8, 2) := by decide +kernel
theorem dX4_addTermParts_14 : decode cX4_addTermParts 14 = .ok (.iload_n 2, 1) := by decide +kernel
theorem dX4_addTermParts_15 : decode cX4_addTermParts 15 = .ok (.if_icmp .gt 76, 3) := by decide +kernel
theorem dX4_addTermParts_18 : decode cX4_addTermParts 18 = .ok (.iload 7, 2) := by decide +kernel
theorem dX4_addTermParts_20 : decode cX4_addTermParts 20 = .ok (.iload 8, 2) := by decide +kernel
theorem dX4_addTermParts_22 : decode cX4_addTermParts 22 = .ok (.iadd, 1) := by decide +kernel
theorem dX4_addTermParts_23 : decode cX4_addTermParts 23 = .ok (.iload 6, 2) := by decide +kernel
theorem dX4_addTermParts_25 : decode cX4_addTermParts 25 = .ok (.if_icmp .gt 66, 3) := by decide +kernel
theorem dX4_addTermParts_28 : decode cX4_addTermParts 28 = .ok (.lload_n 3, 1) := by decide +kernel
theorem dX4_addTermParts_29 : decode cX4_addTermParts 29 = .ok (.iload_n 1, 1) := by decide +kernel
theorem dX4_addTermParts_30 : decode cX4_addTermParts 30 = .ok (.iload 7, 2) := by decide +kernel
theorem dX4_addTermParts_32 : decode cX4_addTermParts 32 = .ok (.iload_n 2, 1) := by decide +kernel
theorem dX4_addTermParts_33 : decode cX4_addTermParts 33 = .ok (.iload 8, 2) := by decide +kernel
theorem dX4_addTermParts_35 : decode cX4_addTermParts 35 = .ok (.invokestatic 42, 3) := by decide +kernel
theorem dX4_addTermParts_38 : decode cX4_addTermParts 38 = .ok (.lmul, 1) := by decide +kernel
theorem dX4_addTermParts_39 : decode cX4_addTermParts 39 = .ok (.aload 5, 2) := by decide +kernel
theorem dX4_addTermParts_41 : decode cX4_addTermParts 41 = .ok (.iload 7, 2) := by decide +kernel
theorem dX4_addTermParts_43 : decode cX4_addTermParts 43 = .ok (.iload 8, 2) := by decide +kernel
theorem dX4_addTermParts_45 : decode cX4_addTermParts 45 = .ok (.invokestatic 46, 3) := by decide +kernel
theorem dX4_addTermParts_48 : decode cX4_addTermParts 48 = .ok (.laload, 1) := by decide +kernel
theorem dX4_addTermParts_49 : decode cX4_addTermParts 49 = .ok (.lmul, 1) := by decide +kernel
theorem dX4_addTermParts_50 : decode cX4_addTermParts 50 = .ok (.lstore 9, 2) := by decide +kernel
theorem dX4_addTermParts_52 : decode cX4_addTermParts 52 = .ok (.aload_n 0, 1) := by decide +kernel
theorem dX4_addTermParts_53 : decode cX4_addTermParts 53 = .ok (.getfield 12, 3) := by decide +kernel
theorem dX4_addTermParts_56 : decode cX4_addTermParts 56 = .ok (.iload_n 1, 1) := by decide +kernel
theorem dX4_addTermParts_57 : decode cX4_addTermParts 57 = .ok (.iload 7, 2) := by decide +kernel
theorem dX4_addTermParts_59 : decode cX4_addTermParts 59 = .ok (.isub, 1) := by decide +kernel
theorem dX4_addTermParts_60 : decode cX4_addTermParts 60 = .ok (.iload_n 2, 1) := by decide +kernel
theorem dX4_addTermParts_61 : decode cX4_addTermParts 61 = .ok (.iload 8, 2) := by decide +kernel
theorem dX4_addTermParts_63 : decode cX4_addTermParts 63 = .ok (.isub, 1) := by decide +kernel
theorem dX4_addTermParts_64 : decode cX4_addTermParts 64 = .ok (.iload 7, 2) := by decide +kernel
theorem dX4_addTermParts_66 : decode cX4_addTermParts 66 = .ok (.iload 8, 2) := by decide +kernel
theorem dX4_addTermParts_68 : decode cX4_addTermParts 68 = .ok (.iadd, 1) := by decide +kernel
theorem dX4_addTermParts_69 : decode cX4_addTermParts 69 = .ok (.iconst 1, 1) := by decide +kernel
theorem dX4_addTermParts_70 : decode cX4_addTermParts 70 = .ok (.iand, 1) := by decide +kernel
theorem dX4_addTermParts_71 : decode cX4_addTermParts 71 = .ok (.ifCond .ne 8, 3) := by decide +kernel
theorem dX4_addTermParts_74 : decode cX4_addTermParts 74 = .ok (.lload 9, 2) := by decide +kernel
theorem dX4_addTermParts_76 : decode cX4_addTermParts 76 = .ok (.goto 6, 3) := by decide +kernel
theorem dX4_addTermParts_79 : decode cX4_addTermParts 79 = .ok (.lload 9, 2) := by decide +kernel
theorem dX4_addTermParts_81 : decode cX4_addTermParts 81 = .ok (.lneg, 1) := by decide +kernel
theorem dX4_addTermParts_82 : decode cX4_addTermParts 82 = .ok (.invokevirtual 50, 3) := by decide +kernel
theorem dX4_addTermParts_85 : decode cX4_addTermParts 85 = .ok (.iinc 8 1, 3) := by decide +kernel
theorem dX4_addTermParts_88 : decode cX4_addTermParts 88 = .ok (.goto (-76), 3) := by decide +kernel
theorem dX4_addTermParts_91 : decode cX4_addTermParts 91 = .ok (.iinc 7 1, 3) := by decide +kernel
theorem dX4_addTermParts_94 : decode cX4_addTermParts 94 = .ok (.goto (-91), 3) := by decide +kernel
theorem dX4_addTermParts_97 : decode cX4_addTermParts 97 = .ok (.return_, 1) := by decide +kernel
theorem dX4_addEndParts_0 : decode cX4_addEndParts 0 = .ok (.iconst 0, 1) := by decide +kernel
theorem dX4_addEndParts_1 : decode cX4_addEndParts 1 = .ok (.istore 7, 2) := by decide +kernel
theorem dX4_addEndParts_3 : decode cX4_addEndParts 3 = .ok (.iload 7, 2) := by decide +kernel
theorem dX4_addEndParts_5 : decode cX4_addEndParts 5 = .ok (.iload_n 1, 1) := by decide +kernel
theorem dX4_addEndParts_6 : decode cX4_addEndParts 6 = .ok (.if_icmp .gt 72, 3) := by decide +kernel
theorem dX4_addEndParts_9 : decode cX4_addEndParts 9 = .ok (.iconst 0, 1) := by decide +kernel
theorem dX4_addEndParts_10 : decode cX4_addEndParts 10 = .ok (.iload 6, 2) := by decide +kernel
theorem dX4_addEndParts_12 : decode cX4_addEndParts 12 = .ok (.iconst 1, 1) := by decide +kernel
theorem dX4_addEndParts_13 : decode cX4_addEndParts 13 = .ok (.iadd, 1) := by decide +kernel
theorem dX4_addEndParts_14 : decode cX4_addEndParts 14 = .ok (.iload 7, 2) := by decide +kernel
theorem dX4_addEndParts_16 : decode cX4_addEndParts 16 = .ok (.isub, 1) := by decide +kernel
theorem dX4_addEndParts_17 : decode cX4_addEndParts 17 = .ok (.invokestatic 54, 3) := by decide +kernel
theorem dX4_addEndParts_20 : decode cX4_addEndParts 20 = .ok (.istore 8, 2) := by decide +kernel
theorem dX4_addEndParts_22 : decode cX4_addEndParts 22 = .ok (.iload 8, 2) := by decide +kernel
theorem dX4_addEndParts_24 : decode cX4_addEndParts 24 = .ok (.iload_n 2, 1) := by decide +kernel
theorem dX4_addEndParts_25 : decode cX4_addEndParts 25 = .ok (.if_icmp .gt 47, 3) := by decide +kernel
theorem dX4_addEndParts_28 : decode cX4_addEndParts 28 = .ok (.aload_n 0, 1) := by decide +kernel
theorem dX4_addEndParts_29 : decode cX4_addEndParts 29 = .ok (.getfield 12, 3) := by decide +kernel
theorem dX4_addEndParts_32 : decode cX4_addEndParts 32 = .ok (.iload_n 1, 1) := by decide +kernel
theorem dX4_addEndParts_33 : decode cX4_addEndParts 33 = .ok (.iload 7, 2) := by decide +kernel
theorem dX4_addEndParts_35 : decode cX4_addEndParts 35 = .ok (.isub, 1) := by decide +kernel
theorem dX4_addEndParts_36 : decode cX4_addEndParts 36 = .ok (.iload_n 2, 1) := by decide +kernel
theorem dX4_addEndParts_37 : decode cX4_addEndParts 37 = .ok (.iload 8, 2) := by decide +kernel
theorem dX4_addEndParts_39 : decode cX4_addEndParts 39 = .ok (.isub, 1) := by decide +kernel
theorem dX4_addEndParts_40 : decode cX4_addEndParts 40 = .ok (.lload_n 3, 1) := by decide +kernel
theorem dX4_addEndParts_41 : decode cX4_addEndParts 41 = .ok (.iload_n 1, 1) := by decide +kernel
theorem dX4_addEndParts_42 : decode cX4_addEndParts 42 = .ok (.iload 7, 2) := by decide +kernel
theorem dX4_addEndParts_44 : decode cX4_addEndParts 44 = .ok (.iload_n 2, 1) := by decide +kernel
theorem dX4_addEndParts_45 : decode cX4_addEndParts 45 = .ok (.iload 8, 2) := by decide +kernel
theorem dX4_addEndParts_47 : decode cX4_addEndParts 47 = .ok (.invokestatic 42, 3) := by decide +kernel
theorem dX4_addEndParts_50 : decode cX4_addEndParts 50 = .ok (.lmul, 1) := by decide +kernel
theorem dX4_addEndParts_51 : decode cX4_addEndParts 51 = .ok (.iload 5, 2) := by decide +kernel
theorem dX4_addEndParts_53 : decode cX4_addEndParts 53 = .ok (.i2l, 1) := by decide +kernel
theorem dX4_addEndParts_54 : decode cX4_addEndParts 54 = .ok (.iload 7, 2) := by decide +kernel
theorem dX4_addEndParts_56 : decode cX4_addEndParts 56 = .ok (.iload 8, 2) := by decide +kernel
theorem dX4_addEndParts_58 : decode cX4_addEndParts 58 = .ok (.iadd, 1) := by decide +kernel
theorem dX4_addEndParts_59 : decode cX4_addEndParts 59 = .ok (.invokestatic 57, 3) := by decide +kernel
theorem dX4_addEndParts_62 : decode cX4_addEndParts 62 = .ok (.lmul, 1) := by decide +kernel
theorem dX4_addEndParts_63 : decode cX4_addEndParts 63 = .ok (.invokevirtual 50, 3) := by decide +kernel
theorem dX4_addEndParts_66 : decode cX4_addEndParts 66 = .ok (.iinc 8 1, 3) := by decide +kernel
theorem dX4_addEndParts_69 : decode cX4_addEndParts 69 = .ok (.goto (-47), 3) := by decide +kernel
theorem dX4_addEndParts_72 : decode cX4_addEndParts 72 = .ok (.iinc 7 1, 3) := by decide +kernel
theorem dX4_addEndParts_75 : decode cX4_addEndParts 75 = .ok (.goto (-72), 3) := by decide +kernel
theorem dX4_addEndParts_78 : decode cX4_addEndParts 78 = .ok (.return_, 1) := by decide +kernel
theorem dX4_waysToChoose_0 : decode cX4_waysToChoose 0 = .ok (.getstatic 61, 3) := by decide +kernel
theorem dX4_waysToChoose_3 : decode cX4_waysToChoose 3 = .ok (.iload_n 0, 1) := by decide +kernel
theorem dX4_waysToChoose_4 : decode cX4_waysToChoose 4 = .ok (.iload_n 1, 1) := by decide +kernel
theorem dX4_waysToChoose_5 : decode cX4_waysToChoose 5 = .ok (.invokestatic 46, 3) := by decide +kernel
theorem dX4_waysToChoose_8 : decode cX4_waysToChoose 8 = .ok (.iaload, 1) := by decide +kernel
theorem dX4_waysToChoose_9 : decode cX4_waysToChoose 9 = .ok (.getstatic 61, 3) := by decide +kernel
theorem dX4_waysToChoose_12 : decode cX4_waysToChoose 12 = .ok (.iload_n 2, 1) := by decide +kernel
theorem dX4_waysToChoose_13 : decode cX4_waysToChoose 13 = .ok (.iload_n 3, 1) := by decide +kernel
theorem dX4_waysToChoose_14 : decode cX4_waysToChoose 14 = .ok (.invokestatic 46, 3) := by decide +kernel
theorem dX4_waysToChoose_17 : decode cX4_waysToChoose 17 = .ok (.iaload, 1) := by decide +kernel
theorem dX4_waysToChoose_18 : decode cX4_waysToChoose 18 = .ok (.imul, 1) := by decide +kernel
theorem dX4_waysToChoose_19 : decode cX4_waysToChoose 19 = .ok (.i2l, 1) := by decide +kernel
theorem dX4_waysToChoose_20 : decode cX4_waysToChoose 20 = .ok (.lreturn, 1) := by decide +kernel
theorem dX4_power_0 : decode cX4_power 0 = .ok (.lconst 1, 1) := by decide +kernel
theorem dX4_power_1 : decode cX4_power 1 = .ok (.lstore_n 3, 1) := by decide +kernel
theorem dX4_power_2 : decode cX4_power 2 = .ok (.iconst 0, 1) := by decide +kernel
theorem dX4_power_3 : decode cX4_power 3 = .ok (.istore 5, 2) := by decide +kernel
theorem dX4_power_5 : decode cX4_power 5 = .ok (.iload 5, 2) := by decide +kernel
theorem dX4_power_7 : decode cX4_power 7 = .ok (.iload_n 2, 1) := by decide +kernel
theorem dX4_power_8 : decode cX4_power 8 = .ok (.if_icmp .ge 13, 3) := by decide +kernel
theorem dX4_power_11 : decode cX4_power 11 = .ok (.lload_n 3, 1) := by decide +kernel
theorem dX4_power_12 : decode cX4_power 12 = .ok (.lload_n 0, 1) := by decide +kernel
theorem dX4_power_13 : decode cX4_power 13 = .ok (.lmul, 1) := by decide +kernel
theorem dX4_power_14 : decode cX4_power 14 = .ok (.lstore_n 3, 1) := by decide +kernel
theorem dX4_power_15 : decode cX4_power 15 = .ok (.iinc 5 1, 3) := by decide +kernel
theorem dX4_power_18 : decode cX4_power 18 = .ok (.goto (-13), 3) := by decide +kernel
theorem dX4_power_21 : decode cX4_power 21 = .ok (.lload_n 3, 1) := by decide +kernel
theorem dX4_power_22 : decode cX4_power 22 = .ok (.lreturn, 1) := by decide +kernel
theorem dX5_init_0 : decode cX5_init 0 = .ok (.aload_n 0, 1) := by decide +kernel
theorem dX5_init_1 : decode cX5_init 1 = .ok (.invokespecial 3, 3) := by decide +kernel
theorem dX5_init_4 : decode cX5_init 4 = .ok (.aload_n 0, 1) := by decide +kernel
theorem dX5_init_5 : decode cX5_init 5 = .ok (.bipush 40, 2) := by decide +kernel
theorem dX5_init_7 : decode cX5_init 7 = .ok (.newarray .int, 2) := by decide +kernel
theorem dX5_init_9 : decode cX5_init 9 = .ok (.putfield 9, 3) := by decide +kernel
theorem dX5_init_12 : decode cX5_init 12 = .ok (.aload_n 0, 1) := by decide +kernel
theorem dX5_init_13 : decode cX5_init 13 = .ok (.bipush 40, 2) := by decide +kernel
theorem dX5_init_15 : decode cX5_init 15 = .ok (.newarray .int, 2) := by decide +kernel
theorem dX5_init_17 : decode cX5_init 17 = .ok (.putfield 15, 3) := by decide +kernel
theorem dX5_init_20 : decode cX5_init 20 = .ok (.aload_n 0, 1) := by decide +kernel
theorem dX5_init_21 : decode cX5_init 21 = .ok (.bipush 40, 2) := by decide +kernel
theorem dX5_init_23 : decode cX5_init 23 = .ok (.newarray .int, 2) := by decide +kernel
theorem dX5_init_25 : decode cX5_init 25 = .ok (.putfield 18, 3) := by decide +kernel
theorem dX5_init_28 : decode cX5_init 28 = .ok (.aload_n 0, 1) := by decide +kernel
theorem dX5_init_29 : decode cX5_init 29 = .ok (.iconst 0, 1) := by decide +kernel
theorem dX5_init_30 : decode cX5_init 30 = .ok (.putfield 21, 3) := by decide +kernel
theorem dX5_init_33 : decode cX5_init 33 = .ok (.aload_n 0, 1) := by decide +kernel
theorem dX5_init_34 : decode cX5_init 34 = .ok (.iconst 0, 1) := by decide +kernel
theorem dX5_init_35 : decode cX5_init 35 = .ok (.putfield 25, 3) := by decide +kernel
theorem dX5_init_38 : decode cX5_init 38 = .ok (.aload_n 0, 1) := by decide +kernel
theorem dX5_init_39 : decode cX5_init 39 = .ok (.iconst 0, 1) := by decide +kernel
theorem dX5_init_40 : decode cX5_init 40 = .ok (.putfield 28, 3) := by decide +kernel
theorem dX5_init_43 : decode cX5_init 43 = .ok (.aload_n 0, 1) := by decide +kernel
theorem dX5_init_44 : decode cX5_init 44 = .ok (.iconst 1, 1) := by decide +kernel
theorem dX5_init_45 : decode cX5_init 45 = .ok (.putfield 31, 3) := by decide +kernel
theorem dX5_init_48 : decode cX5_init 48 = .ok (.aload_n 0, 1) := by decide +kernel
theorem dX5_init_49 : decode cX5_init 49 = .ok (.aload_n 1, 1) := by decide +kernel
theorem dX5_init_50 : decode cX5_init 50 = .ok (.putfield 34, 3) := by decide +kernel
theorem dX5_init_53 : decode cX5_init 53 = .ok (.aload_n 0, 1) := by decide +kernel
theorem dX5_init_54 : decode cX5_init 54 = .ok (.aload_n 2, 1) := by decide +kernel
theorem dX5_init_55 : decode cX5_init 55 = .ok (.putfield 38, 3) := by decide +kernel
theorem dX5_init_58 : decode cX5_init 58 = .ok (.return_, 1) := by decide +kernel
theorem dX5_trace_0 : decode cX5_trace 0 = .ok (.aload_n 0, 1) := by decide +kernel
theorem dX5_trace_1 : decode cX5_trace 1 = .ok (.iload_n 1, 1) := by decide +kernel
theorem dX5_trace_2 : decode cX5_trace 2 = .ok (.putfield 25, 3) := by decide +kernel
theorem dX5_trace_5 : decode cX5_trace 5 = .ok (.aload_n 0, 1) := by decide +kernel
theorem dX5_trace_6 : decode cX5_trace 6 = .ok (.iload_n 2, 1) := by decide +kernel
theorem dX5_trace_7 : decode cX5_trace 7 = .ok (.putfield 28, 3) := by decide +kernel
theorem dX5_trace_10 : decode cX5_trace 10 = .ok (.aload_n 0, 1) := by decide +kernel
theorem dX5_trace_11 : decode cX5_trace 11 = .ok (.iload_n 3, 1) := by decide +kernel
theorem dX5_trace_12 : decode cX5_trace 12 = .ok (.putfield 31, 3) := by decide +kernel
theorem dX5_trace_15 : decode cX5_trace 15 = .ok (.aload_n 0, 1) := by decide +kernel
theorem dX5_trace_16 : decode cX5_trace 16 = .ok (.iconst 0, 1) := by decide +kernel
theorem dX5_trace_17 : decode cX5_trace 17 = .ok (.putfield 21, 3) := by decide +kernel
theorem dX5_trace_20 : decode cX5_trace 20 = .ok (.aload_n 0, 1) := by decide +kernel
theorem dX5_trace_21 : decode cX5_trace 21 = .ok (.iconst 0, 1) := by decide +kernel
theorem dX5_trace_22 : decode cX5_trace 22 = .ok (.iconst 0, 1) := by decide +kernel
theorem dX5_trace_23 : decode cX5_trace 23 = .ok (.iconst 0, 1) := by decide +kernel
theorem dX5_trace_24 : decode cX5_trace 24 = .ok (.invokevirtual 42, 3) := by decide +kernel
theorem dX5_trace_27 : decode cX5_trace 27 = .ok (.return_, 1) := by decide +kernel
theorem dX5_read_0 : decode cX5_read 0 = .ok (.iload_n 1, 1) := by decide +kernel
theorem dX5_read_1 : decode cX5_read 1 = .ok (.ifCond .lt 11, 3) := by decide +kernel
theorem dX5_read_4 : decode cX5_read 4 = .ok (.iload_n 1, 1) := by decide +kernel
theorem dX5_read_5 : decode cX5_read 5 = .ok (.aload_n 0, 1) := by decide +kernel
theorem dX5_read_6 : decode cX5_read 6 = .ok (.getfield 21, 3) := by decide +kernel
theorem dX5_read_9 : decode cX5_read 9 = .ok (.if_icmp .lt 5, 3) := by decide +kernel
theorem dX5_read_12 : decode cX5_read 12 = .ok (.iconst (-1), 1) := by decide +kernel
theorem dX5_read_13 : decode cX5_read 13 = .ok (.ireturn, 1) := by decide +kernel
theorem dX5_read_14 : decode cX5_read 14 = .ok (.iload_n 2, 1) := by decide +kernel
theorem dX5_read_15 : decode cX5_read 15 = .ok (.lookupswitch 39 #[(0, 25), (1, 32)], 25) := by decide +kernel
theorem dX5_read_40 : decode cX5_read 40 = .ok (.aload_n 0, 1) := by decide +kernel
theorem dX5_read_41 : decode cX5_read 41 = .ok (.getfield 9, 3) := by decide +kernel
theorem dX5_read_44 : decode cX5_read 44 = .ok (.iload_n 1, 1) := by decide +kernel
theorem dX5_read_45 : decode cX5_read 45 = .ok (.iaload, 1) := by decide +kernel
theorem dX5_read_46 : decode cX5_read 46 = .ok (.ireturn, 1) := by decide +kernel
theorem dX5_read_47 : decode cX5_read 47 = .ok (.aload_n 0, 1) := by decide +kernel
theorem dX5_read_48 : decode cX5_read 48 = .ok (.getfield 15, 3) := by decide +kernel
theorem dX5_read_51 : decode cX5_read 51 = .ok (.iload_n 1, 1) := by decide +kernel
theorem dX5_read_52 : decode cX5_read 52 = .ok (.iaload, 1) := by decide +kernel
theorem dX5_read_53 : decode cX5_read 53 = .ok (.ireturn, 1) := by decide +kernel
theorem dX5_read_54 : decode cX5_read 54 = .ok (.aload_n 0, 1) := by decide +kernel
theorem dX5_read_55 : decode cX5_read 55 = .ok (.getfield 18, 3) := by decide +kernel
theorem dX5_read_58 : decode cX5_read 58 = .ok (.iload_n 1, 1) := by decide +kernel
theorem dX5_read_59 : decode cX5_read 59 = .ok (.iaload, 1) := by decide +kernel
theorem dX5_read_60 : decode cX5_read 60 = .ok (.ireturn, 1) := by decide +kernel
theorem dX5_visit_0 : decode cX5_visit 0 = .ok (.iload_n 1, 1) := by decide +kernel
theorem dX5_visit_1 : decode cX5_visit 1 = .ok (.iconst 5, 1) := by decide +kernel
theorem dX5_visit_2 : decode cX5_visit 2 = .ok (.if_icmp .gt 16, 3) := by decide +kernel
theorem dX5_visit_5 : decode cX5_visit 5 = .ok (.aload_n 0, 1) := by decide +kernel
theorem dX5_visit_6 : decode cX5_visit 6 = .ok (.getfield 38, 3) := by decide +kernel
theorem dX5_visit_9 : decode cX5_visit 9 = .ok (.iload_n 1, 1) := by decide +kernel
theorem dX5_visit_10 : decode cX5_visit 10 = .ok (.iload_n 2, 1) := by decide +kernel
theorem dX5_visit_11 : decode cX5_visit 11 = .ok (.iload_n 3, 1) := by decide +kernel
theorem dX5_visit_12 : decode cX5_visit 12 = .ok (.invokevirtual 46, 3) := by decide +kernel
theorem dX5_visit_15 : decode cX5_visit 15 = .ok (.ifCond .ne 4, 3) := by decide +kernel
theorem dX5_visit_18 : decode cX5_visit 18 = .ok (.return_, 1) := by decide +kernel
theorem dX5_visit_19 : decode cX5_visit 19 = .ok (.aload_n 0, 1) := by decide +kernel
theorem dX5_visit_20 : decode cX5_visit 20 = .ok (.iload_n 1, 1) := by decide +kernel
theorem dX5_visit_21 : decode cX5_visit 21 = .ok (.iload_n 2, 1) := by decide +kernel
theorem dX5_visit_22 : decode cX5_visit 22 = .ok (.iload_n 3, 1) := by decide +kernel
theorem dX5_visit_23 : decode cX5_visit 23 = .ok (.invokevirtual 52, 3) := by decide +kernel
theorem dX5_visit_26 : decode cX5_visit 26 = .ok (.ifCond .eq 13, 3) := by decide +kernel
theorem dX5_visit_29 : decode cX5_visit 29 = .ok (.aload_n 0, 1) := by decide +kernel
theorem dX5_visit_30 : decode cX5_visit 30 = .ok (.iload_n 1, 1) := by decide +kernel
theorem dX5_visit_31 : decode cX5_visit 31 = .ok (.iload_n 2, 1) := by decide +kernel
theorem dX5_visit_32 : decode cX5_visit 32 = .ok (.iload_n 3, 1) := by decide +kernel
theorem dX5_visit_33 : decode cX5_visit 33 = .ok (.invokevirtual 56, 3) := by decide +kernel
theorem dX5_visit_36 : decode cX5_visit 36 = .ok (.goto 86, 3) := by decide +kernel
theorem dX5_visit_39 : decode cX5_visit 39 = .ok (.aload_n 0, 1) := by decide +kernel
theorem dX5_visit_40 : decode cX5_visit 40 = .ok (.getfield 38, 3) := by decide +kernel
theorem dX5_visit_43 : decode cX5_visit 43 = .ok (.iload_n 1, 1) := by decide +kernel
theorem dX5_visit_44 : decode cX5_visit 44 = .ok (.iload_n 2, 1) := by decide +kernel
theorem dX5_visit_45 : decode cX5_visit 45 = .ok (.iload_n 3, 1) := by decide +kernel
theorem dX5_visit_46 : decode cX5_visit 46 = .ok (.invokevirtual 59, 3) := by decide +kernel
theorem dX5_visit_49 : decode cX5_visit 49 = .ok (.ifCond .eq 66, 3) := by decide +kernel
theorem dX5_visit_52 : decode cX5_visit 52 = .ok (.aload_n 0, 1) := by decide +kernel
theorem dX5_visit_53 : decode cX5_visit 53 = .ok (.iload_n 1, 1) := by decide +kernel
theorem dX5_visit_54 : decode cX5_visit 54 = .ok (.iconst 1, 1) := by decide +kernel
theorem dX5_visit_55 : decode cX5_visit 55 = .ok (.iadd, 1) := by decide +kernel
theorem dX5_visit_56 : decode cX5_visit 56 = .ok (.iconst 2, 1) := by decide +kernel
theorem dX5_visit_57 : decode cX5_visit 57 = .ok (.iload_n 2, 1) := by decide +kernel
theorem dX5_visit_58 : decode cX5_visit 58 = .ok (.imul, 1) := by decide +kernel
theorem dX5_visit_59 : decode cX5_visit 59 = .ok (.iconst 2, 1) := by decide +kernel
theorem dX5_visit_60 : decode cX5_visit 60 = .ok (.iload_n 3, 1) := by decide +kernel
theorem dX5_visit_61 : decode cX5_visit 61 = .ok (.imul, 1) := by decide +kernel
theorem dX5_visit_62 : decode cX5_visit 62 = .ok (.invokevirtual 42, 3) := by decide +kernel
theorem dX5_visit_65 : decode cX5_visit 65 = .ok (.aload_n 0, 1) := by decide +kernel
theorem dX5_visit_66 : decode cX5_visit 66 = .ok (.iload_n 1, 1) := by decide +kernel
theorem dX5_visit_67 : decode cX5_visit 67 = .ok (.iconst 1, 1) := by decide +kernel
theorem dX5_visit_68 : decode cX5_visit 68 = .ok (.iadd, 1) := by decide +kernel
theorem dX5_visit_69 : decode cX5_visit 69 = .ok (.iconst 2, 1) := by decide +kernel
theorem dX5_visit_70 : decode cX5_visit 70 = .ok (.iload_n 2, 1) := by decide +kernel
theorem dX5_visit_71 : decode cX5_visit 71 = .ok (.imul, 1) := by decide +kernel
theorem dX5_visit_72 : decode cX5_visit 72 = .ok (.iconst 1, 1) := by decide +kernel
theorem dX5_visit_73 : decode cX5_visit 73 = .ok (.iadd, 1) := by decide +kernel
theorem dX5_visit_74 : decode cX5_visit 74 = .ok (.iconst 2, 1) := by decide +kernel
theorem dX5_visit_75 : decode cX5_visit 75 = .ok (.iload_n 3, 1) := by decide +kernel
theorem dX5_visit_76 : decode cX5_visit 76 = .ok (.imul, 1) := by decide +kernel
theorem dX5_visit_77 : decode cX5_visit 77 = .ok (.invokevirtual 42, 3) := by decide +kernel
theorem dX5_visit_80 : decode cX5_visit 80 = .ok (.aload_n 0, 1) := by decide +kernel
theorem dX5_visit_81 : decode cX5_visit 81 = .ok (.iload_n 1, 1) := by decide +kernel
theorem dX5_visit_82 : decode cX5_visit 82 = .ok (.iconst 1, 1) := by decide +kernel
theorem dX5_visit_83 : decode cX5_visit 83 = .ok (.iadd, 1) := by decide +kernel
theorem dX5_visit_84 : decode cX5_visit 84 = .ok (.iconst 2, 1) := by decide +kernel
theorem dX5_visit_85 : decode cX5_visit 85 = .ok (.iload_n 2, 1) := by decide +kernel
theorem dX5_visit_86 : decode cX5_visit 86 = .ok (.imul, 1) := by decide +kernel
theorem dX5_visit_87 : decode cX5_visit 87 = .ok (.iconst 2, 1) := by decide +kernel
theorem dX5_visit_88 : decode cX5_visit 88 = .ok (.iload_n 3, 1) := by decide +kernel
theorem dX5_visit_89 : decode cX5_visit 89 = .ok (.imul, 1) := by decide +kernel
theorem dX5_visit_90 : decode cX5_visit 90 = .ok (.iconst 1, 1) := by decide +kernel
theorem dX5_visit_91 : decode cX5_visit 91 = .ok (.iadd, 1) := by decide +kernel
theorem dX5_visit_92 : decode cX5_visit 92 = .ok (.invokevirtual 42, 3) := by decide +kernel
theorem dX5_visit_95 : decode cX5_visit 95 = .ok (.aload_n 0, 1) := by decide +kernel
theorem dX5_visit_96 : decode cX5_visit 96 = .ok (.iload_n 1, 1) := by decide +kernel
theorem dX5_visit_97 : decode cX5_visit 97 = .ok (.iconst 1, 1) := by decide +kernel
theorem dX5_visit_98 : decode cX5_visit 98 = .ok (.iadd, 1) := by decide +kernel
theorem dX5_visit_99 : decode cX5_visit 99 = .ok (.iconst 2, 1) := by decide +kernel
theorem dX5_visit_100 : decode cX5_visit 100 = .ok (.iload_n 2, 1) := by decide +kernel
theorem dX5_visit_101 : decode cX5_visit 101 = .ok (.imul, 1) := by decide +kernel
theorem dX5_visit_102 : decode cX5_visit 102 = .ok (.iconst 1, 1) := by decide +kernel
theorem dX5_visit_103 : decode cX5_visit 103 = .ok (.iadd, 1) := by decide +kernel
theorem dX5_visit_104 : decode cX5_visit 104 = .ok (.iconst 2, 1) := by decide +kernel
theorem dX5_visit_105 : decode cX5_visit 105 = .ok (.iload_n 3, 1) := by decide +kernel
theorem dX5_visit_106 : decode cX5_visit 106 = .ok (.imul, 1) := by decide +kernel
theorem dX5_visit_107 : decode cX5_visit 107 = .ok (.iconst 1, 1) := by decide +kernel
theorem dX5_visit_108 : decode cX5_visit 108 = .ok (.iadd, 1) := by decide +kernel
theorem dX5_visit_109 : decode cX5_visit 109 = .ok (.invokevirtual 42, 3) := by decide +kernel
theorem dX5_visit_112 : decode cX5_visit 112 = .ok (.goto 10, 3) := by decide +kernel
theorem dX5_visit_115 : decode cX5_visit 115 = .ok (.aload_n 0, 1) := by decide +kernel
theorem dX5_visit_116 : decode cX5_visit 116 = .ok (.iload_n 1, 1) := by decide +kernel
theorem dX5_visit_117 : decode cX5_visit 117 = .ok (.iload_n 2, 1) := by decide +kernel
theorem dX5_visit_118 : decode cX5_visit 118 = .ok (.iload_n 3, 1) := by decide +kernel
theorem dX5_visit_119 : decode cX5_visit 119 = .ok (.invokevirtual 62, 3) := by decide +kernel
theorem dX5_visit_122 : decode cX5_visit 122 = .ok (.return_, 1) := by decide +kernel
theorem dX5_isFar_0 : decode cX5_isFar 0 = .ok (.iconst 2, 1) := by decide +kernel
theorem dX5_isFar_1 : decode cX5_isFar 1 = .ok (.iload_n 1, 1) := by decide +kernel
theorem dX5_isFar_2 : decode cX5_isFar 2 = .ok (.invokestatic 65, 3) := by decide +kernel
theorem dX5_isFar_5 : decode cX5_isFar 5 = .ok (.imul, 1) := by decide +kernel
theorem dX5_isFar_6 : decode cX5_isFar 6 = .ok (.aload_n 0, 1) := by decide +kernel
theorem dX5_isFar_7 : decode cX5_isFar 7 = .ok (.getfield 31, 3) := by decide +kernel
theorem dX5_isFar_10 : decode cX5_isFar 10 = .ok (.imul, 1) := by decide +kernel
theorem dX5_isFar_11 : decode cX5_isFar 11 = .ok (.istore 4, 2) := by decide +kernel
theorem dX5_isFar_13 : decode cX5_isFar 13 = .ok (.aload_n 0, 1) := by decide +kernel
theorem dX5_isFar_14 : decode cX5_isFar 14 = .ok (.getfield 25, 3) := by decide +kernel
theorem dX5_isFar_17 : decode cX5_isFar 17 = .ok (.iload_n 1, 1) := by decide +kernel
theorem dX5_isFar_18 : decode cX5_isFar 18 = .ok (.iload_n 2, 1) := by decide +kernel
theorem dX5_isFar_19 : decode cX5_isFar 19 = .ok (.invokestatic 69, 3) := by decide +kernel
theorem dX5_isFar_22 : decode cX5_isFar 22 = .ok (.invokestatic 72, 3) := by decide +kernel
theorem dX5_isFar_25 : decode cX5_isFar 25 = .ok (.iload 4, 2) := by decide +kernel
theorem dX5_isFar_27 : decode cX5_isFar 27 = .ok (.if_icmp .ge 20, 3) := by decide +kernel
theorem dX5_isFar_30 : decode cX5_isFar 30 = .ok (.aload_n 0, 1) := by decide +kernel
theorem dX5_isFar_31 : decode cX5_isFar 31 = .ok (.getfield 28, 3) := by decide +kernel
theorem dX5_isFar_34 : decode cX5_isFar 34 = .ok (.iload_n 1, 1) := by decide +kernel
theorem dX5_isFar_35 : decode cX5_isFar 35 = .ok (.iload_n 3, 1) := by decide +kernel
theorem dX5_isFar_36 : decode cX5_isFar 36 = .ok (.invokestatic 69, 3) := by decide +kernel
theorem dX5_isFar_39 : decode cX5_isFar 39 = .ok (.invokestatic 72, 3) := by decide +kernel
theorem dX5_isFar_42 : decode cX5_isFar 42 = .ok (.iload 4, 2) := by decide +kernel
theorem dX5_isFar_44 : decode cX5_isFar 44 = .ok (.if_icmp .lt 7, 3) := by decide +kernel
theorem dX5_isFar_47 : decode cX5_isFar 47 = .ok (.iconst 1, 1) := by decide +kernel
theorem dX5_isFar_48 : decode cX5_isFar 48 = .ok (.goto 4, 3) := by decide +kernel
theorem dX5_isFar_51 : decode cX5_isFar 51 = .ok (.iconst 0, 1) := by decide +kernel
theorem dX5_isFar_52 : decode cX5_isFar 52 = .ok (.ireturn, 1) := by decide +kernel
theorem dX5_notePoints_0 : decode cX5_notePoints 0 = .ok (.iconst 0, 1) := by decide +kernel
theorem dX5_notePoints_1 : decode cX5_notePoints 1 = .ok (.istore 4, 2) := by decide +kernel
theorem dX5_notePoints_3 : decode cX5_notePoints 3 = .ok (.iload 4, 2) := by decide +kernel
theorem dX5_notePoints_5 : decode cX5_notePoints 5 = .ok (.bipush 40, 2) := by decide +kernel
theorem dX5_notePoints_7 : decode cX5_notePoints 7 = .ok (.if_icmp .ge 32, 3) := by decide +kernel
theorem dX5_notePoints_10 : decode cX5_notePoints 10 = .ok (.aload_n 0, 1) := by decide +kernel
theorem dX5_notePoints_11 : decode cX5_notePoints 11 = .ok (.getfield 38, 3) := by decide +kernel
theorem dX5_notePoints_14 : decode cX5_notePoints 14 = .ok (.iload_n 1, 1) := by decide +kernel
theorem dX5_notePoints_15 : decode cX5_notePoints 15 = .ok (.iload_n 2, 1) := by decide +kernel
theorem dX5_notePoints_16 : decode cX5_notePoints 16 = .ok (.iload_n 3, 1) := by decide +kernel
theorem dX5_notePoints_17 : decode cX5_notePoints 17 = .ok (.iload 4, 2) := by decide +kernel
theorem dX5_notePoints_19 : decode cX5_notePoints 19 = .ok (.invokevirtual 77, 3) := by decide +kernel
theorem dX5_notePoints_22 : decode cX5_notePoints 22 = .ok (.ifCond .eq 11, 3) := by decide +kernel
theorem dX5_notePoints_25 : decode cX5_notePoints 25 = .ok (.aload_n 0, 1) := by decide +kernel
theorem dX5_notePoints_26 : decode cX5_notePoints 26 = .ok (.iconst (-1), 1) := by decide +kernel
theorem dX5_notePoints_27 : decode cX5_notePoints 27 = .ok (.iload 4, 2) := by decide +kernel
theorem dX5_notePoints_29 : decode cX5_notePoints 29 = .ok (.iconst (-1), 1) := by decide +kernel
theorem dX5_notePoints_30 : decode cX5_notePoints 30 = .ok (.invokevirtual 56, 3) := by decide +kernel
theorem dX5_notePoints_33 : decode cX5_notePoints 33 = .ok (.iinc 4 1, 3) := by decide +kernel
theorem dX5_notePoints_36 : decode cX5_notePoints 36 = .ok (.goto (-33), 3) := by decide +kernel
theorem dX5_notePoints_39 : decode cX5_notePoints 39 = .ok (.return_, 1) := by decide +kernel
theorem dX5_note_0 : decode cX5_note 0 = .ok (.aload_n 0, 1) := by decide +kernel
theorem dX5_note_1 : decode cX5_note 1 = .ok (.getfield 21, 3) := by decide +kernel
theorem dX5_note_4 : decode cX5_note 4 = .ok (.bipush 40, 2) := by decide +kernel
theorem dX5_note_6 : decode cX5_note 6 = .ok (.if_icmp .ge 43, 3) := by decide +kernel
theorem dX5_note_9 : decode cX5_note 9 = .ok (.aload_n 0, 1) := by decide +kernel
theorem dX5_note_10 : decode cX5_note 10 = .ok (.getfield 9, 3) := by decide +kernel
theorem dX5_note_13 : decode cX5_note 13 = .ok (.aload_n 0, 1) := by decide +kernel
theorem dX5_note_14 : decode cX5_note 14 = .ok (.getfield 21, 3) := by decide +kernel
theorem dX5_note_17 : decode cX5_note 17 = .ok (.iload_n 1, 1) := by decide +kernel
theorem dX5_note_18 : decode cX5_note 18 = .ok (.iastore, 1) := by decide +kernel
theorem dX5_note_19 : decode cX5_note 19 = .ok (.aload_n 0, 1) := by decide +kernel
theorem dX5_note_20 : decode cX5_note 20 = .ok (.getfield 15, 3) := by decide +kernel
theorem dX5_note_23 : decode cX5_note 23 = .ok (.aload_n 0, 1) := by decide +kernel
theorem dX5_note_24 : decode cX5_note 24 = .ok (.getfield 21, 3) := by decide +kernel
theorem dX5_note_27 : decode cX5_note 27 = .ok (.iload_n 2, 1) := by decide +kernel
theorem dX5_note_28 : decode cX5_note 28 = .ok (.iastore, 1) := by decide +kernel
theorem dX5_note_29 : decode cX5_note 29 = .ok (.aload_n 0, 1) := by decide +kernel
theorem dX5_note_30 : decode cX5_note 30 = .ok (.getfield 18, 3) := by decide +kernel
theorem dX5_note_33 : decode cX5_note 33 = .ok (.aload_n 0, 1) := by decide +kernel
theorem dX5_note_34 : decode cX5_note 34 = .ok (.getfield 21, 3) := by decide +kernel
theorem dX5_note_37 : decode cX5_note 37 = .ok (.iload_n 3, 1) := by decide +kernel
theorem dX5_note_38 : decode cX5_note 38 = .ok (.iastore, 1) := by decide +kernel
theorem dX5_note_39 : decode cX5_note 39 = .ok (.aload_n 0, 1) := by decide +kernel
theorem dX5_note_40 : decode cX5_note 40 = .ok (.dup, 1) := by decide +kernel
theorem dX5_note_41 : decode cX5_note 41 = .ok (.getfield 21, 3) := by decide +kernel
theorem dX5_note_44 : decode cX5_note 44 = .ok (.iconst 1, 1) := by decide +kernel
theorem dX5_note_45 : decode cX5_note 45 = .ok (.iadd, 1) := by decide +kernel
theorem dX5_note_46 : decode cX5_note 46 = .ok (.putfield 21, 3) := by decide +kernel
theorem dX5_note_49 : decode cX5_note 49 = .ok (.return_, 1) := by decide +kernel
theorem dJ9_abs_0f7a4_0 : decode cJ9_abs_0f7a4 0 = .ok (.iload_n 0, 1) := by decide +kernel
theorem dJ9_abs_0f7a4_1 : decode cJ9_abs_0f7a4 1 = .ok (.ifCond .ge 8, 3) := by decide +kernel
theorem dJ9_abs_0f7a4_4 : decode cJ9_abs_0f7a4 4 = .ok (.iload_n 0, 1) := by decide +kernel
theorem dJ9_abs_0f7a4_5 : decode cJ9_abs_0f7a4 5 = .ok (.ineg, 1) := by decide +kernel
theorem dJ9_abs_0f7a4_6 : decode cJ9_abs_0f7a4 6 = .ok (.goto 4, 3) := by decide +kernel
theorem dJ9_abs_0f7a4_9 : decode cJ9_abs_0f7a4 9 = .ok (.iload_n 0, 1) := by decide +kernel
theorem dJ9_abs_0f7a4_10 : decode cJ9_abs_0f7a4 10 = .ok (.ireturn, 1) := by decide +kernel
theorem dJ9_abs_067f4_0 : decode cJ9_abs_067f4 0 = .ok (.lload_n 0, 1) := by decide +kernel
theorem dJ9_abs_067f4_1 : decode cJ9_abs_067f4 1 = .ok (.lconst 0, 1) := by decide +kernel
theorem dJ9_abs_067f4_2 : decode cJ9_abs_067f4 2 = .ok (.lcmp, 1) := by decide +kernel
theorem dJ9_abs_067f4_3 : decode cJ9_abs_067f4 3 = .ok (.ifCond .ge 8, 3) := by decide +kernel
theorem dJ9_abs_067f4_6 : decode cJ9_abs_067f4 6 = .ok (.lload_n 0, 1) := by decide +kernel
theorem dJ9_abs_067f4_7 : decode cJ9_abs_067f4 7 = .ok (.lneg, 1) := by decide +kernel
theorem dJ9_abs_067f4_8 : decode cJ9_abs_067f4 8 = .ok (.goto 4, 3) := by decide +kernel
theorem dJ9_abs_067f4_11 : decode cJ9_abs_067f4 11 = .ok (.lload_n 0, 1) := by decide +kernel
theorem dJ9_abs_067f4_12 : decode cJ9_abs_067f4 12 = .ok (.lreturn, 1) := by decide +kernel
theorem dJ9_max_7cf53_0 : decode cJ9_max_7cf53 0 = .ok (.iload_n 0, 1) := by decide +kernel
theorem dJ9_max_7cf53_1 : decode cJ9_max_7cf53 1 = .ok (.iload_n 1, 1) := by decide +kernel
theorem dJ9_max_7cf53_2 : decode cJ9_max_7cf53 2 = .ok (.if_icmp .lt 7, 3) := by decide +kernel
theorem dJ9_max_7cf53_5 : decode cJ9_max_7cf53 5 = .ok (.iload_n 0, 1) := by decide +kernel
theorem dJ9_max_7cf53_6 : decode cJ9_max_7cf53 6 = .ok (.goto 4, 3) := by decide +kernel
theorem dJ9_max_7cf53_9 : decode cJ9_max_7cf53 9 = .ok (.iload_n 1, 1) := by decide +kernel
theorem dJ9_max_7cf53_10 : decode cJ9_max_7cf53 10 = .ok (.ireturn, 1) := by decide +kernel
