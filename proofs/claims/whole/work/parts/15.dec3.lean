theorem dX7_init_0 : decode cX7_init 0 = .ok (.aload_n 0, 1) := by decide +kernel
theorem dX7_init_1 : decode cX7_init 1 = .ok (.invokespecial 1, 3) := by decide +kernel
theorem dX7_init_4 : decode cX7_init 4 = .ok (.aload_n 0, 1) := by decide +kernel
theorem dX7_init_5 : decode cX7_init 5 = .ok (.bipush 40, 2) := by decide +kernel
theorem dX7_init_7 : decode cX7_init 7 = .ok (.newarray .boolean, 2) := by decide +kernel
theorem dX7_init_9 : decode cX7_init 9 = .ok (.putfield 7, 3) := by decide +kernel
theorem dX7_init_12 : decode cX7_init 12 = .ok (.aload_n 0, 1) := by decide +kernel
theorem dX7_init_13 : decode cX7_init 13 = .ok (.bipush 40, 2) := by decide +kernel
theorem dX7_init_15 : decode cX7_init 15 = .ok (.newarray .int, 2) := by decide +kernel
theorem dX7_init_17 : decode cX7_init 17 = .ok (.putfield 13, 3) := by decide +kernel
theorem dX7_init_20 : decode cX7_init 20 = .ok (.aload_n 0, 1) := by decide +kernel
theorem dX7_init_21 : decode cX7_init 21 = .ok (.bipush 40, 2) := by decide +kernel
theorem dX7_init_23 : decode cX7_init 23 = .ok (.newarray .int, 2) := by decide +kernel
theorem dX7_init_25 : decode cX7_init 25 = .ok (.putfield 17, 3) := by decide +kernel
theorem dX7_init_28 : decode cX7_init 28 = .ok (.aload_n 0, 1) := by decide +kernel
theorem dX7_init_29 : decode cX7_init 29 = .ok (.bipush 40, 2) := by decide +kernel
theorem dX7_init_31 : decode cX7_init 31 = .ok (.newarray .int, 2) := by decide +kernel
theorem dX7_init_33 : decode cX7_init 33 = .ok (.putfield 20, 3) := by decide +kernel
theorem dX7_init_36 : decode cX7_init 36 = .ok (.aload_n 0, 1) := by decide +kernel
theorem dX7_init_37 : decode cX7_init 37 = .ok (.bipush 40, 2) := by decide +kernel
theorem dX7_init_39 : decode cX7_init 39 = .ok (.newarray .int, 2) := by decide +kernel
theorem dX7_init_41 : decode cX7_init 41 = .ok (.putfield 23, 3) := by decide +kernel
theorem dX7_init_44 : decode cX7_init 44 = .ok (.aload_n 0, 1) := by decide +kernel
theorem dX7_init_45 : decode cX7_init 45 = .ok (.bipush 40, 2) := by decide +kernel
theorem dX7_init_47 : decode cX7_init 47 = .ok (.newarray .int, 2) := by decide +kernel
theorem dX7_init_49 : decode cX7_init 49 = .ok (.putfield 26, 3) := by decide +kernel
theorem dX7_init_52 : decode cX7_init 52 = .ok (.aload_n 0, 1) := by decide +kernel
theorem dX7_init_53 : decode cX7_init 53 = .ok (.bipush 25, 2) := by decide +kernel
theorem dX7_init_55 : decode cX7_init 55 = .ok (.newarray .int, 2) := by decide +kernel
theorem dX7_init_57 : decode cX7_init 57 = .ok (.putfield 29, 3) := by decide +kernel
theorem dX7_init_60 : decode cX7_init 60 = .ok (.aload_n 0, 1) := by decide +kernel
theorem dX7_init_61 : decode cX7_init 61 = .ok (.iconst 2, 1) := by decide +kernel
theorem dX7_init_62 : decode cX7_init 62 = .ok (.putfield 32, 3) := by decide +kernel
theorem dX7_init_65 : decode cX7_init 65 = .ok (.aload_n 0, 1) := by decide +kernel
theorem dX7_init_66 : decode cX7_init 66 = .ok (.bipush 40, 2) := by decide +kernel
theorem dX7_init_68 : decode cX7_init 68 = .ok (.newarray .int, 2) := by decide +kernel
theorem dX7_init_70 : decode cX7_init 70 = .ok (.putfield 36, 3) := by decide +kernel
theorem dX7_init_73 : decode cX7_init 73 = .ok (.aload_n 0, 1) := by decide +kernel
theorem dX7_init_74 : decode cX7_init 74 = .ok (.bipush 40, 2) := by decide +kernel
theorem dX7_init_76 : decode cX7_init 76 = .ok (.newarray .int, 2) := by decide +kernel
theorem dX7_init_78 : decode cX7_init 78 = .ok (.putfield 39, 3) := by decide +kernel
theorem dX7_init_81 : decode cX7_init 81 = .ok (.aload_n 0, 1) := by decide +kernel
theorem dX7_init_82 : decode cX7_init 82 = .ok (.bipush 40, 2) := by decide +kernel
theorem dX7_init_84 : decode cX7_init 84 = .ok (.newarray .int, 2) := by decide +kernel
theorem dX7_init_86 : decode cX7_init 86 = .ok (.putfield 42, 3) := by decide +kernel
theorem dX7_init_89 : decode cX7_init 89 = .ok (.aload_n 0, 1) := by decide +kernel
theorem dX7_init_90 : decode cX7_init 90 = .ok (.bipush 80, 2) := by decide +kernel
theorem dX7_init_92 : decode cX7_init 92 = .ok (.newarray .int, 2) := by decide +kernel
theorem dX7_init_94 : decode cX7_init 94 = .ok (.putfield 45, 3) := by decide +kernel
theorem dX7_init_97 : decode cX7_init 97 = .ok (.aload_n 0, 1) := by decide +kernel
theorem dX7_init_98 : decode cX7_init 98 = .ok (.bipush 80, 2) := by decide +kernel
theorem dX7_init_100 : decode cX7_init 100 = .ok (.newarray .int, 2) := by decide +kernel
theorem dX7_init_102 : decode cX7_init 102 = .ok (.putfield 48, 3) := by decide +kernel
theorem dX7_init_105 : decode cX7_init 105 = .ok (.aload_n 0, 1) := by decide +kernel
theorem dX7_init_106 : decode cX7_init 106 = .ok (.bipush 80, 2) := by decide +kernel
theorem dX7_init_108 : decode cX7_init 108 = .ok (.newarray .int, 2) := by decide +kernel
theorem dX7_init_110 : decode cX7_init 110 = .ok (.putfield 51, 3) := by decide +kernel
theorem dX7_init_113 : decode cX7_init 113 = .ok (.aload_n 0, 1) := by decide +kernel
theorem dX7_init_114 : decode cX7_init 114 = .ok (.bipush 40, 2) := by decide +kernel
theorem dX7_init_116 : decode cX7_init 116 = .ok (.newarray .int, 2) := by decide +kernel
theorem dX7_init_118 : decode cX7_init 118 = .ok (.putfield 54, 3) := by decide +kernel
theorem dX7_init_121 : decode cX7_init 121 = .ok (.aload_n 0, 1) := by decide +kernel
theorem dX7_init_122 : decode cX7_init 122 = .ok (.bipush 40, 2) := by decide +kernel
theorem dX7_init_124 : decode cX7_init 124 = .ok (.newarray .int, 2) := by decide +kernel
theorem dX7_init_126 : decode cX7_init 126 = .ok (.putfield 57, 3) := by decide +kernel
theorem dX7_init_129 : decode cX7_init 129 = .ok (.aload_n 0, 1) := by decide +kernel
theorem dX7_init_130 : decode cX7_init 130 = .ok (.getfield 29, 3) := by decide +kernel
theorem dX7_init_133 : decode cX7_init 133 = .ok (.iconst 0, 1) := by decide +kernel
theorem dX7_init_134 : decode cX7_init 134 = .ok (.iconst 1, 1) := by decide +kernel
theorem dX7_init_135 : decode cX7_init 135 = .ok (.iastore, 1) := by decide +kernel
theorem dX7_init_136 : decode cX7_init 136 = .ok (.return_, 1) := by decide +kernel
theorem dX7_in_0 : decode cX7_in 0 = .ok (.lload_n 0, 1) := by decide +kernel
theorem dX7_in_1 : decode cX7_in 1 = .ok (.lload_n 2, 1) := by decide +kernel
theorem dX7_in_2 : decode cX7_in 2 = .ok (.lcmp, 1) := by decide +kernel
theorem dX7_in_3 : decode cX7_in 3 = .ok (.ifCond .lt 14, 3) := by decide +kernel
theorem dX7_in_6 : decode cX7_in 6 = .ok (.lload_n 0, 1) := by decide +kernel
theorem dX7_in_7 : decode cX7_in 7 = .ok (.lload 4, 2) := by decide +kernel
theorem dX7_in_9 : decode cX7_in 9 = .ok (.lcmp, 1) := by decide +kernel
theorem dX7_in_10 : decode cX7_in 10 = .ok (.ifCond .gt 7, 3) := by decide +kernel
theorem dX7_in_13 : decode cX7_in 13 = .ok (.iconst 1, 1) := by decide +kernel
theorem dX7_in_14 : decode cX7_in 14 = .ok (.goto 4, 3) := by decide +kernel
theorem dX7_in_17 : decode cX7_in 17 = .ok (.iconst 0, 1) := by decide +kernel
theorem dX7_in_18 : decode cX7_in 18 = .ok (.ireturn, 1) := by decide +kernel
theorem dX7_isPlace_0 : decode cX7_isPlace 0 = .ok (.iload_n 0, 1) := by decide +kernel
theorem dX7_isPlace_1 : decode cX7_isPlace 1 = .ok (.i2l, 1) := by decide +kernel
theorem dX7_isPlace_2 : decode cX7_isPlace 2 = .ok (.lconst 0, 1) := by decide +kernel
theorem dX7_isPlace_3 : decode cX7_isPlace 3 = .ok (.ldc2_w 60, 3) := by decide +kernel
theorem dX7_isPlace_6 : decode cX7_isPlace 6 = .ok (.invokestatic 62, 3) := by decide +kernel
theorem dX7_isPlace_9 : decode cX7_isPlace 9 = .ok (.ifCond .eq 19, 3) := by decide +kernel
theorem dX7_isPlace_12 : decode cX7_isPlace 12 = .ok (.iload_n 1, 1) := by decide +kernel
theorem dX7_isPlace_13 : decode cX7_isPlace 13 = .ok (.i2l, 1) := by decide +kernel
theorem dX7_isPlace_14 : decode cX7_isPlace 14 = .ok (.lconst 0, 1) := by decide +kernel
theorem dX7_isPlace_15 : decode cX7_isPlace 15 = .ok (.ldc2_w 60, 3) := by decide +kernel
theorem dX7_isPlace_18 : decode cX7_isPlace 18 = .ok (.invokestatic 62, 3) := by decide +kernel
theorem dX7_isPlace_21 : decode cX7_isPlace 21 = .ok (.ifCond .eq 7, 3) := by decide +kernel
theorem dX7_isPlace_24 : decode cX7_isPlace 24 = .ok (.iconst 1, 1) := by decide +kernel
theorem dX7_isPlace_25 : decode cX7_isPlace 25 = .ok (.goto 4, 3) := by decide +kernel
theorem dX7_isPlace_28 : decode cX7_isPlace 28 = .ok (.iconst 0, 1) := by decide +kernel
theorem dX7_isPlace_29 : decode cX7_isPlace 29 = .ok (.ireturn, 1) := by decide +kernel
theorem dX7_isPoint_0 : decode cX7_isPoint 0 = .ok (.iload_n 1, 1) := by decide +kernel
theorem dX7_isPoint_1 : decode cX7_isPoint 1 = .ok (.i2l, 1) := by decide +kernel
theorem dX7_isPoint_2 : decode cX7_isPoint 2 = .ok (.lconst 0, 1) := by decide +kernel
theorem dX7_isPoint_3 : decode cX7_isPoint 3 = .ok (.ldc2_w 66, 3) := by decide +kernel
theorem dX7_isPoint_6 : decode cX7_isPoint 6 = .ok (.invokestatic 62, 3) := by decide +kernel
theorem dX7_isPoint_9 : decode cX7_isPoint 9 = .ok (.ifCond .eq 16, 3) := by decide +kernel
theorem dX7_isPoint_12 : decode cX7_isPoint 12 = .ok (.aload_n 0, 1) := by decide +kernel
theorem dX7_isPoint_13 : decode cX7_isPoint 13 = .ok (.getfield 7, 3) := by decide +kernel
theorem dX7_isPoint_16 : decode cX7_isPoint 16 = .ok (.iload_n 1, 1) := by decide +kernel
theorem dX7_isPoint_17 : decode cX7_isPoint 17 = .ok (.baload, 1) := by decide +kernel
theorem dX7_isPoint_18 : decode cX7_isPoint 18 = .ok (.ifCond .eq 7, 3) := by decide +kernel
theorem dX7_isPoint_21 : decode cX7_isPoint 21 = .ok (.iconst 1, 1) := by decide +kernel
theorem dX7_isPoint_22 : decode cX7_isPoint 22 = .ok (.goto 4, 3) := by decide +kernel
theorem dX7_isPoint_25 : decode cX7_isPoint 25 = .ok (.iconst 0, 1) := by decide +kernel
theorem dX7_isPoint_26 : decode cX7_isPoint 26 = .ok (.ireturn, 1) := by decide +kernel
theorem dX7_many_0 : decode cX7_many 0 = .ok (.iconst 0, 1) := by decide +kernel
theorem dX7_many_1 : decode cX7_many 1 = .ok (.istore_n 1, 1) := by decide +kernel
theorem dX7_many_2 : decode cX7_many 2 = .ok (.iconst 0, 1) := by decide +kernel
theorem dX7_many_3 : decode cX7_many 3 = .ok (.istore_n 2, 1) := by decide +kernel
theorem dX7_many_4 : decode cX7_many 4 = .ok (.iload_n 2, 1) := by decide +kernel
theorem dX7_many_5 : decode cX7_many 5 = .ok (.bipush 40, 2) := by decide +kernel
theorem dX7_many_7 : decode cX7_many 7 = .ok (.if_icmp .ge 26, 3) := by decide +kernel
theorem dX7_many_10 : decode cX7_many 10 = .ok (.iload_n 1, 1) := by decide +kernel
theorem dX7_many_11 : decode cX7_many 11 = .ok (.aload_n 0, 1) := by decide +kernel
theorem dX7_many_12 : decode cX7_many 12 = .ok (.getfield 7, 3) := by decide +kernel
theorem dX7_many_15 : decode cX7_many 15 = .ok (.iload_n 2, 1) := by decide +kernel
theorem dX7_many_16 : decode cX7_many 16 = .ok (.baload, 1) := by decide +kernel
theorem dX7_many_17 : decode cX7_many 17 = .ok (.ifCond .eq 7, 3) := by decide +kernel
theorem dX7_many_20 : decode cX7_many 20 = .ok (.iconst 1, 1) := by decide +kernel
theorem dX7_many_21 : decode cX7_many 21 = .ok (.goto 4, 3) := by decide +kernel
theorem dX7_many_24 : decode cX7_many 24 = .ok (.iconst 0, 1) := by decide +kernel
theorem dX7_many_25 : decode cX7_many 25 = .ok (.iadd, 1) := by decide +kernel
theorem dX7_many_26 : decode cX7_many 26 = .ok (.istore_n 1, 1) := by decide +kernel
theorem dX7_many_27 : decode cX7_many 27 = .ok (.iinc 2 1, 3) := by decide +kernel
theorem dX7_many_30 : decode cX7_many 30 = .ok (.goto (-26), 3) := by decide +kernel
theorem dX7_many_33 : decode cX7_many 33 = .ok (.iload_n 1, 1) := by decide +kernel
theorem dX7_many_34 : decode cX7_many 34 = .ok (.ireturn, 1) := by decide +kernel
theorem dX7_point_0 : decode cX7_point 0 = .ok (.iload_n 1, 1) := by decide +kernel
theorem dX7_point_1 : decode cX7_point 1 = .ok (.iload_n 2, 1) := by decide +kernel
theorem dX7_point_2 : decode cX7_point 2 = .ok (.invokestatic 68, 3) := by decide +kernel
theorem dX7_point_5 : decode cX7_point 5 = .ok (.ifCond .eq 17, 3) := by decide +kernel
theorem dX7_point_8 : decode cX7_point 8 = .ok (.iload_n 3, 1) := by decide +kernel
theorem dX7_point_9 : decode cX7_point 9 = .ok (.i2l, 1) := by decide +kernel
theorem dX7_point_10 : decode cX7_point 10 = .ok (.ldc2_w 72, 3) := by decide +kernel
theorem dX7_point_13 : decode cX7_point 13 = .ok (.ldc2_w 74, 3) := by decide +kernel
theorem dX7_point_16 : decode cX7_point 16 = .ok (.invokestatic 62, 3) := by decide +kernel
theorem dX7_point_19 : decode cX7_point 19 = .ok (.ifCond .ne 6, 3) := by decide +kernel
theorem dX7_point_22 : decode cX7_point 22 = .ok (.bipush (-2), 2) := by decide +kernel
theorem dX7_point_24 : decode cX7_point 24 = .ok (.ireturn, 1) := by decide +kernel
theorem dX7_point_25 : decode cX7_point 25 = .ok (.iconst 0, 1) := by decide +kernel
theorem dX7_point_26 : decode cX7_point 26 = .ok (.istore 4, 2) := by decide +kernel
theorem dX7_point_28 : decode cX7_point 28 = .ok (.iload 4, 2) := by decide +kernel
theorem dX7_point_30 : decode cX7_point 30 = .ok (.bipush 40, 2) := by decide +kernel
theorem dX7_point_32 : decode cX7_point 32 = .ok (.if_icmp .ge 19, 3) := by decide +kernel
theorem dX7_point_35 : decode cX7_point 35 = .ok (.aload_n 0, 1) := by decide +kernel
theorem dX7_point_36 : decode cX7_point 36 = .ok (.getfield 7, 3) := by decide +kernel
theorem dX7_point_39 : decode cX7_point 39 = .ok (.iload 4, 2) := by decide +kernel
theorem dX7_point_41 : decode cX7_point 41 = .ok (.baload, 1) := by decide +kernel
theorem dX7_point_42 : decode cX7_point 42 = .ok (.ifCond .eq 9, 3) := by decide +kernel
theorem dX7_point_45 : decode cX7_point 45 = .ok (.iinc 4 1, 3) := by decide +kernel
theorem dX7_point_48 : decode cX7_point 48 = .ok (.goto (-20), 3) := by decide +kernel
theorem dX7_point_51 : decode cX7_point 51 = .ok (.iload 4, 2) := by decide +kernel
theorem dX7_point_53 : decode cX7_point 53 = .ok (.bipush 40, 2) := by decide +kernel
theorem dX7_point_55 : decode cX7_point 55 = .ok (.if_icmp .ne 6, 3) := by decide +kernel
theorem dX7_point_58 : decode cX7_point 58 = .ok (.bipush (-4), 2) := by decide +kernel
theorem dX7_point_60 : decode cX7_point 60 = .ok (.ireturn, 1) := by decide +kernel
theorem dX7_point_61 : decode cX7_point 61 = .ok (.aload_n 0, 1) := by decide +kernel
theorem dX7_point_62 : decode cX7_point 62 = .ok (.getfield 7, 3) := by decide +kernel
theorem dX7_point_65 : decode cX7_point 65 = .ok (.iload 4, 2) := by decide +kernel
theorem dX7_point_67 : decode cX7_point 67 = .ok (.iconst 1, 1) := by decide +kernel
theorem dX7_point_68 : decode cX7_point 68 = .ok (.bastore, 1) := by decide +kernel
theorem dX7_point_69 : decode cX7_point 69 = .ok (.aload_n 0, 1) := by decide +kernel
theorem dX7_point_70 : decode cX7_point 70 = .ok (.getfield 13, 3) := by decide +kernel
theorem dX7_point_73 : decode cX7_point 73 = .ok (.iload 4, 2) := by decide +kernel
theorem dX7_point_75 : decode cX7_point 75 = .ok (.iload_n 1, 1) := by decide +kernel
theorem dX7_point_76 : decode cX7_point 76 = .ok (.iastore, 1) := by decide +kernel
theorem dX7_point_77 : decode cX7_point 77 = .ok (.aload_n 0, 1) := by decide +kernel
theorem dX7_point_78 : decode cX7_point 78 = .ok (.getfield 17, 3) := by decide +kernel
theorem dX7_point_81 : decode cX7_point 81 = .ok (.iload 4, 2) := by decide +kernel
theorem dX7_point_83 : decode cX7_point 83 = .ok (.iload_n 2, 1) := by decide +kernel
theorem dX7_point_84 : decode cX7_point 84 = .ok (.iastore, 1) := by decide +kernel
theorem dX7_point_85 : decode cX7_point 85 = .ok (.aload_n 0, 1) := by decide +kernel
theorem dX7_point_86 : decode cX7_point 86 = .ok (.getfield 20, 3) := by decide +kernel
theorem dX7_point_89 : decode cX7_point 89 = .ok (.iload 4, 2) := by decide +kernel
theorem dX7_point_91 : decode cX7_point 91 = .ok (.iload_n 3, 1) := by decide +kernel
theorem dX7_point_92 : decode cX7_point 92 = .ok (.iastore, 1) := by decide +kernel
theorem dX7_point_93 : decode cX7_point 93 = .ok (.aload_n 0, 1) := by decide +kernel
theorem dX7_point_94 : decode cX7_point 94 = .ok (.getfield 23, 3) := by decide +kernel
theorem dX7_point_97 : decode cX7_point 97 = .ok (.iload 4, 2) := by decide +kernel
theorem dX7_point_99 : decode cX7_point 99 = .ok (.iconst 0, 1) := by decide +kernel
theorem dX7_point_100 : decode cX7_point 100 = .ok (.iastore, 1) := by decide +kernel
theorem dX7_point_101 : decode cX7_point 101 = .ok (.aload_n 0, 1) := by decide +kernel
theorem dX7_point_102 : decode cX7_point 102 = .ok (.getfield 26, 3) := by decide +kernel
theorem dX7_point_105 : decode cX7_point 105 = .ok (.iload 4, 2) := by decide +kernel
theorem dX7_point_107 : decode cX7_point 107 = .ok (.iconst 0, 1) := by decide +kernel
theorem dX7_point_108 : decode cX7_point 108 = .ok (.iastore, 1) := by decide +kernel
theorem dX7_point_109 : decode cX7_point 109 = .ok (.iload 4, 2) := by decide +kernel
theorem dX7_point_111 : decode cX7_point 111 = .ok (.ireturn, 1) := by decide +kernel
theorem dX7_take_0 : decode cX7_take 0 = .ok (.aload_n 0, 1) := by decide +kernel
theorem dX7_take_1 : decode cX7_take 1 = .ok (.iload_n 1, 1) := by decide +kernel
theorem dX7_take_2 : decode cX7_take 2 = .ok (.invokevirtual 76, 3) := by decide +kernel
theorem dX7_take_5 : decode cX7_take 5 = .ok (.ifCond .ne 6, 3) := by decide +kernel
theorem dX7_take_8 : decode cX7_take 8 = .ok (.bipush (-2), 2) := by decide +kernel
theorem dX7_take_10 : decode cX7_take 10 = .ok (.ireturn, 1) := by decide +kernel
theorem dX7_take_11 : decode cX7_take 11 = .ok (.aload_n 0, 1) := by decide +kernel
theorem dX7_take_12 : decode cX7_take 12 = .ok (.getfield 7, 3) := by decide +kernel
theorem dX7_take_15 : decode cX7_take 15 = .ok (.iload_n 1, 1) := by decide +kernel
theorem dX7_take_16 : decode cX7_take 16 = .ok (.iconst 0, 1) := by decide +kernel
theorem dX7_take_17 : decode cX7_take 17 = .ok (.bastore, 1) := by decide +kernel
theorem dX7_take_18 : decode cX7_take 18 = .ok (.aload_n 0, 1) := by decide +kernel
theorem dX7_take_19 : decode cX7_take 19 = .ok (.invokevirtual 80, 3) := by decide +kernel
theorem dX7_take_22 : decode cX7_take 22 = .ok (.ireturn, 1) := by decide +kernel
theorem dX7_move_0 : decode cX7_move 0 = .ok (.aload_n 0, 1) := by decide +kernel
theorem dX7_move_1 : decode cX7_move 1 = .ok (.iload_n 1, 1) := by decide +kernel
theorem dX7_move_2 : decode cX7_move 2 = .ok (.invokevirtual 76, 3) := by decide +kernel
theorem dX7_move_5 : decode cX7_move 5 = .ok (.ifCond .eq 11, 3) := by decide +kernel
theorem dX7_move_8 : decode cX7_move 8 = .ok (.iload_n 2, 1) := by decide +kernel
theorem dX7_move_9 : decode cX7_move 9 = .ok (.iload_n 3, 1) := by decide +kernel
theorem dX7_move_10 : decode cX7_move 10 = .ok (.invokestatic 68, 3) := by decide +kernel
theorem dX7_move_13 : decode cX7_move 13 = .ok (.ifCond .ne 6, 3) := by decide +kernel
theorem dX7_move_16 : decode cX7_move 16 = .ok (.bipush (-2), 2) := by decide +kernel
theorem dX7_move_18 : decode cX7_move 18 = .ok (.ireturn, 1) := by decide +kernel
theorem dX7_move_19 : decode cX7_move 19 = .ok (.aload_n 0, 1) := by decide +kernel
theorem dX7_move_20 : decode cX7_move 20 = .ok (.getfield 13, 3) := by decide +kernel
theorem dX7_move_23 : decode cX7_move 23 = .ok (.iload_n 1, 1) := by decide +kernel
theorem dX7_move_24 : decode cX7_move 24 = .ok (.iload_n 2, 1) := by decide +kernel
theorem dX7_move_25 : decode cX7_move 25 = .ok (.iastore, 1) := by decide +kernel
theorem dX7_move_26 : decode cX7_move 26 = .ok (.aload_n 0, 1) := by decide +kernel
theorem dX7_move_27 : decode cX7_move 27 = .ok (.getfield 17, 3) := by decide +kernel
theorem dX7_move_30 : decode cX7_move 30 = .ok (.iload_n 1, 1) := by decide +kernel
theorem dX7_move_31 : decode cX7_move 31 = .ok (.iload_n 3, 1) := by decide +kernel
theorem dX7_move_32 : decode cX7_move 32 = .ok (.iastore, 1) := by decide +kernel
theorem dX7_move_33 : decode cX7_move 33 = .ok (.iconst 1, 1) := by decide +kernel
theorem dX7_move_34 : decode cX7_move 34 = .ok (.ireturn, 1) := by decide +kernel
theorem dX7_weigh_0 : decode cX7_weigh 0 = .ok (.aload_n 0, 1) := by decide +kernel
theorem dX7_weigh_1 : decode cX7_weigh 1 = .ok (.iload_n 1, 1) := by decide +kernel
theorem dX7_weigh_2 : decode cX7_weigh 2 = .ok (.invokevirtual 76, 3) := by decide +kernel
theorem dX7_weigh_5 : decode cX7_weigh 5 = .ok (.ifCond .eq 17, 3) := by decide +kernel
theorem dX7_weigh_8 : decode cX7_weigh 8 = .ok (.iload_n 2, 1) := by decide +kernel
theorem dX7_weigh_9 : decode cX7_weigh 9 = .ok (.i2l, 1) := by decide +kernel
theorem dX7_weigh_10 : decode cX7_weigh 10 = .ok (.ldc2_w 72, 3) := by decide +kernel
theorem dX7_weigh_13 : decode cX7_weigh 13 = .ok (.ldc2_w 74, 3) := by decide +kernel
theorem dX7_weigh_16 : decode cX7_weigh 16 = .ok (.invokestatic 62, 3) := by decide +kernel
theorem dX7_weigh_19 : decode cX7_weigh 19 = .ok (.ifCond .ne 7, 3) := by decide +kernel
theorem dX7_weigh_22 : decode cX7_weigh 22 = .ok (.sipush (-2000), 3) := by decide +kernel
theorem dX7_weigh_25 : decode cX7_weigh 25 = .ok (.ireturn, 1) := by decide +kernel
theorem dX7_weigh_26 : decode cX7_weigh 26 = .ok (.aload_n 0, 1) := by decide +kernel
theorem dX7_weigh_27 : decode cX7_weigh 27 = .ok (.getfield 20, 3) := by decide +kernel
theorem dX7_weigh_30 : decode cX7_weigh 30 = .ok (.iload_n 1, 1) := by decide +kernel
theorem dX7_weigh_31 : decode cX7_weigh 31 = .ok (.iaload, 1) := by decide +kernel
theorem dX7_weigh_32 : decode cX7_weigh 32 = .ok (.istore_n 3, 1) := by decide +kernel
theorem dX7_weigh_33 : decode cX7_weigh 33 = .ok (.aload_n 0, 1) := by decide +kernel
theorem dX7_weigh_34 : decode cX7_weigh 34 = .ok (.getfield 20, 3) := by decide +kernel
theorem dX7_weigh_37 : decode cX7_weigh 37 = .ok (.iload_n 1, 1) := by decide +kernel
theorem dX7_weigh_38 : decode cX7_weigh 38 = .ok (.iload_n 2, 1) := by decide +kernel
theorem dX7_weigh_39 : decode cX7_weigh 39 = .ok (.iastore, 1) := by decide +kernel
theorem dX7_weigh_40 : decode cX7_weigh 40 = .ok (.iload_n 3, 1) := by decide +kernel
theorem dX7_weigh_41 : decode cX7_weigh 41 = .ok (.ireturn, 1) := by decide +kernel
theorem dX7_pace_0 : decode cX7_pace 0 = .ok (.aload_n 0, 1) := by decide +kernel
theorem dX7_pace_1 : decode cX7_pace 1 = .ok (.iload_n 1, 1) := by decide +kernel
theorem dX7_pace_2 : decode cX7_pace 2 = .ok (.invokevirtual 76, 3) := by decide +kernel
theorem dX7_pace_5 : decode cX7_pace 5 = .ok (.ifCond .eq 31, 3) := by decide +kernel
theorem dX7_pace_8 : decode cX7_pace 8 = .ok (.iload_n 2, 1) := by decide +kernel
theorem dX7_pace_9 : decode cX7_pace 9 = .ok (.i2l, 1) := by decide +kernel
theorem dX7_pace_10 : decode cX7_pace 10 = .ok (.ldc2_w 84, 3) := by decide +kernel
theorem dX7_pace_13 : decode cX7_pace 13 = .ok (.ldc2_w 86, 3) := by decide +kernel
theorem dX7_pace_16 : decode cX7_pace 16 = .ok (.invokestatic 62, 3) := by decide +kernel
theorem dX7_pace_19 : decode cX7_pace 19 = .ok (.ifCond .eq 17, 3) := by decide +kernel
theorem dX7_pace_22 : decode cX7_pace 22 = .ok (.iload_n 3, 1) := by decide +kernel
theorem dX7_pace_23 : decode cX7_pace 23 = .ok (.i2l, 1) := by decide +kernel
theorem dX7_pace_24 : decode cX7_pace 24 = .ok (.ldc2_w 84, 3) := by decide +kernel
theorem dX7_pace_27 : decode cX7_pace 27 = .ok (.ldc2_w 86, 3) := by decide +kernel
theorem dX7_pace_30 : decode cX7_pace 30 = .ok (.invokestatic 62, 3) := by decide +kernel
theorem dX7_pace_33 : decode cX7_pace 33 = .ok (.ifCond .ne 6, 3) := by decide +kernel
theorem dX7_pace_36 : decode cX7_pace 36 = .ok (.bipush (-2), 2) := by decide +kernel
theorem dX7_pace_38 : decode cX7_pace 38 = .ok (.ireturn, 1) := by decide +kernel
theorem dX7_pace_39 : decode cX7_pace 39 = .ok (.aload_n 0, 1) := by decide +kernel
theorem dX7_pace_40 : decode cX7_pace 40 = .ok (.getfield 23, 3) := by decide +kernel
theorem dX7_pace_43 : decode cX7_pace 43 = .ok (.iload_n 1, 1) := by decide +kernel
theorem dX7_pace_44 : decode cX7_pace 44 = .ok (.iload_n 2, 1) := by decide +kernel
theorem dX7_pace_45 : decode cX7_pace 45 = .ok (.iastore, 1) := by decide +kernel
theorem dX7_pace_46 : decode cX7_pace 46 = .ok (.aload_n 0, 1) := by decide +kernel
theorem dX7_pace_47 : decode cX7_pace 47 = .ok (.getfield 26, 3) := by decide +kernel
theorem dX7_pace_50 : decode cX7_pace 50 = .ok (.iload_n 1, 1) := by decide +kernel
theorem dX7_pace_51 : decode cX7_pace 51 = .ok (.iload_n 3, 1) := by decide +kernel
theorem dX7_pace_52 : decode cX7_pace 52 = .ok (.iastore, 1) := by decide +kernel
theorem dX7_pace_53 : decode cX7_pace 53 = .ok (.iconst 1, 1) := by decide +kernel
theorem dX7_pace_54 : decode cX7_pace 54 = .ok (.ireturn, 1) := by decide +kernel
theorem dX7_at_0 : decode cX7_at 0 = .ok (.aload_n 0, 1) := by decide +kernel
theorem dX7_at_1 : decode cX7_at 1 = .ok (.iload_n 1, 1) := by decide +kernel
theorem dX7_at_2 : decode cX7_at 2 = .ok (.invokevirtual 76, 3) := by decide +kernel
theorem dX7_at_5 : decode cX7_at 5 = .ok (.ifCond .ne 7, 3) := by decide +kernel
theorem dX7_at_8 : decode cX7_at 8 = .ok (.sipush (-2000), 3) := by decide +kernel
theorem dX7_at_11 : decode cX7_at 11 = .ok (.ireturn, 1) := by decide +kernel
theorem dX7_at_12 : decode cX7_at 12 = .ok (.iload_n 2, 1) := by decide +kernel
theorem dX7_at_13 : decode cX7_at 13 = .ok (.tableswitch 70 0 4 #[35, 42, 49, 56, 63], 35) := by decide +kernel
theorem dX7_at_48 : decode cX7_at 48 = .ok (.aload_n 0, 1) := by decide +kernel
theorem dX7_at_49 : decode cX7_at 49 = .ok (.getfield 13, 3) := by decide +kernel
theorem dX7_at_52 : decode cX7_at 52 = .ok (.iload_n 1, 1) := by decide +kernel
theorem dX7_at_53 : decode cX7_at 53 = .ok (.iaload, 1) := by decide +kernel
theorem dX7_at_54 : decode cX7_at 54 = .ok (.ireturn, 1) := by decide +kernel
theorem dX7_at_55 : decode cX7_at 55 = .ok (.aload_n 0, 1) := by decide +kernel
theorem dX7_at_56 : decode cX7_at 56 = .ok (.getfield 17, 3) := by decide +kernel
theorem dX7_at_59 : decode cX7_at 59 = .ok (.iload_n 1, 1) := by decide +kernel
theorem dX7_at_60 : decode cX7_at 60 = .ok (.iaload, 1) := by decide +kernel
theorem dX7_at_61 : decode cX7_at 61 = .ok (.ireturn, 1) := by decide +kernel
theorem dX7_at_62 : decode cX7_at 62 = .ok (.aload_n 0, 1) := by decide +kernel
theorem dX7_at_63 : decode cX7_at 63 = .ok (.getfield 20, 3) := by decide +kernel
theorem dX7_at_66 : decode cX7_at 66 = .ok (.iload_n 1, 1) := by decide +kernel
theorem dX7_at_67 : decode cX7_at 67 = .ok (.iaload, 1) := by decide +kernel
theorem dX7_at_68 : decode cX7_at 68 = .ok (.ireturn, 1) := by decide +kernel
theorem dX7_at_69 : decode cX7_at 69 = .ok (.aload_n 0, 1) := by decide +kernel
theorem dX7_at_70 : decode cX7_at 70 = .ok (.getfield 23, 3) := by decide +kernel
theorem dX7_at_73 : decode cX7_at 73 = .ok (.iload_n 1, 1) := by decide +kernel
theorem dX7_at_74 : decode cX7_at 74 = .ok (.iaload, 1) := by decide +kernel
theorem dX7_at_75 : decode cX7_at 75 = .ok (.ireturn, 1) := by decide +kernel
theorem dX7_at_76 : decode cX7_at 76 = .ok (.aload_n 0, 1) := by decide +kernel
theorem dX7_at_77 : decode cX7_at 77 = .ok (.getfield 26, 3) := by decide +kernel
theorem dX7_at_80 : decode cX7_at 80 = .ok (.iload_n 1, 1) := by decide +kernel
theorem dX7_at_81 : decode cX7_at 81 = .ok (.iaload, 1) := by decide +kernel
theorem dX7_at_82 : decode cX7_at 82 = .ok (.ireturn, 1) := by decide +kernel
theorem dX7_at_83 : decode cX7_at 83 = .ok (.sipush (-2000), 3) := by decide +kernel
theorem dX7_at_86 : decode cX7_at 86 = .ok (.ireturn, 1) := by decide +kernel
theorem dX7_isPair_0 : decode cX7_isPair 0 = .ok (.iload_n 0, 1) := by decide +kernel
theorem dX7_isPair_1 : decode cX7_isPair 1 = .ok (.ifCond .lt 28, 3) := by decide +kernel
theorem dX7_isPair_4 : decode cX7_isPair 4 = .ok (.iload_n 1, 1) := by decide +kernel
theorem dX7_isPair_5 : decode cX7_isPair 5 = .ok (.ifCond .lt 24, 3) := by decide +kernel
theorem dX7_isPair_8 : decode cX7_isPair 8 = .ok (.iload_n 0, 1) := by decide +kernel
theorem dX7_isPair_9 : decode cX7_isPair 9 = .ok (.iconst 4, 1) := by decide +kernel
theorem dX7_isPair_10 : decode cX7_isPair 10 = .ok (.if_icmp .gt 19, 3) := by decide +kernel
theorem dX7_isPair_13 : decode cX7_isPair 13 = .ok (.iload_n 1, 1) := by decide +kernel
theorem dX7_isPair_14 : decode cX7_isPair 14 = .ok (.iconst 4, 1) := by decide +kernel
theorem dX7_isPair_15 : decode cX7_isPair 15 = .ok (.if_icmp .gt 14, 3) := by decide +kernel
theorem dX7_isPair_18 : decode cX7_isPair 18 = .ok (.iload_n 0, 1) := by decide +kernel
theorem dX7_isPair_19 : decode cX7_isPair 19 = .ok (.iload_n 1, 1) := by decide +kernel
theorem dX7_isPair_20 : decode cX7_isPair 20 = .ok (.iadd, 1) := by decide +kernel
theorem dX7_isPair_21 : decode cX7_isPair 21 = .ok (.iconst 4, 1) := by decide +kernel
theorem dX7_isPair_22 : decode cX7_isPair 22 = .ok (.if_icmp .gt 7, 3) := by decide +kernel
theorem dX7_isPair_25 : decode cX7_isPair 25 = .ok (.iconst 1, 1) := by decide +kernel
theorem dX7_isPair_26 : decode cX7_isPair 26 = .ok (.goto 4, 3) := by decide +kernel
theorem dX7_isPair_29 : decode cX7_isPair 29 = .ok (.iconst 0, 1) := by decide +kernel
theorem dX7_isPair_30 : decode cX7_isPair 30 = .ok (.ireturn, 1) := by decide +kernel
theorem dX7_kernel_0 : decode cX7_kernel 0 = .ok (.iload_n 1, 1) := by decide +kernel
theorem dX7_kernel_1 : decode cX7_kernel 1 = .ok (.iload_n 2, 1) := by decide +kernel
theorem dX7_kernel_2 : decode cX7_kernel 2 = .ok (.invokestatic 88, 3) := by decide +kernel
theorem dX7_kernel_5 : decode cX7_kernel 5 = .ok (.ifCond .eq 17, 3) := by decide +kernel
theorem dX7_kernel_8 : decode cX7_kernel 8 = .ok (.iload_n 3, 1) := by decide +kernel
theorem dX7_kernel_9 : decode cX7_kernel 9 = .ok (.i2l, 1) := by decide +kernel
theorem dX7_kernel_10 : decode cX7_kernel 10 = .ok (.ldc2_w 91, 3) := by decide +kernel
theorem dX7_kernel_13 : decode cX7_kernel 13 = .ok (.ldc2_w 93, 3) := by decide +kernel
theorem dX7_kernel_16 : decode cX7_kernel 16 = .ok (.invokestatic 62, 3) := by decide +kernel
theorem dX7_kernel_19 : decode cX7_kernel 19 = .ok (.ifCond .ne 7, 3) := by decide +kernel
theorem dX7_kernel_22 : decode cX7_kernel 22 = .ok (.sipush (-2000), 3) := by decide +kernel
theorem dX7_kernel_25 : decode cX7_kernel 25 = .ok (.ireturn, 1) := by decide +kernel
theorem dX7_kernel_26 : decode cX7_kernel 26 = .ok (.aload_n 0, 1) := by decide +kernel
theorem dX7_kernel_27 : decode cX7_kernel 27 = .ok (.getfield 29, 3) := by decide +kernel
theorem dX7_kernel_30 : decode cX7_kernel 30 = .ok (.iconst 5, 1) := by decide +kernel
theorem dX7_kernel_31 : decode cX7_kernel 31 = .ok (.iload_n 1, 1) := by decide +kernel
theorem dX7_kernel_32 : decode cX7_kernel 32 = .ok (.imul, 1) := by decide +kernel
theorem dX7_kernel_33 : decode cX7_kernel 33 = .ok (.iload_n 2, 1) := by decide +kernel
theorem dX7_kernel_34 : decode cX7_kernel 34 = .ok (.iadd, 1) := by decide +kernel
theorem dX7_kernel_35 : decode cX7_kernel 35 = .ok (.iaload, 1) := by decide +kernel
theorem dX7_kernel_36 : decode cX7_kernel 36 = .ok (.istore 4, 2) := by decide +kernel
theorem dX7_kernel_38 : decode cX7_kernel 38 = .ok (.aload_n 0, 1) := by decide +kernel
theorem dX7_kernel_39 : decode cX7_kernel 39 = .ok (.getfield 29, 3) := by decide +kernel
theorem dX7_kernel_42 : decode cX7_kernel 42 = .ok (.iconst 5, 1) := by decide +kernel
theorem dX7_kernel_43 : decode cX7_kernel 43 = .ok (.iload_n 1, 1) := by decide +kernel
theorem dX7_kernel_44 : decode cX7_kernel 44 = .ok (.imul, 1) := by decide +kernel
theorem dX7_kernel_45 : decode cX7_kernel 45 = .ok (.iload_n 2, 1) := by decide +kernel
theorem dX7_kernel_46 : decode cX7_kernel 46 = .ok (.iadd, 1) := by decide +kernel
theorem dX7_kernel_47 : decode cX7_kernel 47 = .ok (.iload_n 3, 1) := by decide +kernel
theorem dX7_kernel_48 : decode cX7_kernel 48 = .ok (.iastore, 1) := by decide +kernel
theorem dX7_kernel_49 : decode cX7_kernel 49 = .ok (.iload 4, 2) := by decide +kernel
theorem dX7_kernel_51 : decode cX7_kernel 51 = .ok (.ireturn, 1) := by decide +kernel
theorem dX7_capacity_0 : decode cX7_capacity 0 = .ok (.iload_n 1, 1) := by decide +kernel
theorem dX7_capacity_1 : decode cX7_capacity 1 = .ok (.i2l, 1) := by decide +kernel
theorem dX7_capacity_2 : decode cX7_capacity 2 = .ok (.lconst 1, 1) := by decide +kernel
theorem dX7_capacity_3 : decode cX7_capacity 3 = .ok (.ldc2_w 95, 3) := by decide +kernel
theorem dX7_capacity_6 : decode cX7_capacity 6 = .ok (.invokestatic 62, 3) := by decide +kernel
theorem dX7_capacity_9 : decode cX7_capacity 9 = .ok (.ifCond .ne 6, 3) := by decide +kernel
theorem dX7_capacity_12 : decode cX7_capacity 12 = .ok (.bipush (-2), 2) := by decide +kernel
theorem dX7_capacity_14 : decode cX7_capacity 14 = .ok (.ireturn, 1) := by decide +kernel
theorem dX7_capacity_15 : decode cX7_capacity 15 = .ok (.aload_n 0, 1) := by decide +kernel
theorem dX7_capacity_16 : decode cX7_capacity 16 = .ok (.getfield 32, 3) := by decide +kernel
theorem dX7_capacity_19 : decode cX7_capacity 19 = .ok (.istore_n 2, 1) := by decide +kernel
theorem dX7_capacity_20 : decode cX7_capacity 20 = .ok (.aload_n 0, 1) := by decide +kernel
theorem dX7_capacity_21 : decode cX7_capacity 21 = .ok (.iload_n 1, 1) := by decide +kernel
theorem dX7_capacity_22 : decode cX7_capacity 22 = .ok (.putfield 32, 3) := by decide +kernel
theorem dX7_capacity_25 : decode cX7_capacity 25 = .ok (.iload_n 2, 1) := by decide +kernel
theorem dX7_capacity_26 : decode cX7_capacity 26 = .ok (.ireturn, 1) := by decide +kernel
theorem dX7_power_0 : decode cX7_power 0 = .ok (.lconst 1, 1) := by decide +kernel
theorem dX7_power_1 : decode cX7_power 1 = .ok (.lstore_n 3, 1) := by decide +kernel
theorem dX7_power_2 : decode cX7_power 2 = .ok (.iconst 0, 1) := by decide +kernel
theorem dX7_power_3 : decode cX7_power 3 = .ok (.istore 5, 2) := by decide +kernel
theorem dX7_power_5 : decode cX7_power 5 = .ok (.iload 5, 2) := by decide +kernel
theorem dX7_power_7 : decode cX7_power 7 = .ok (.iload_n 2, 1) := by decide +kernel
theorem dX7_power_8 : decode cX7_power 8 = .ok (.if_icmp .ge 13, 3) := by decide +kernel
theorem dX7_power_11 : decode cX7_power 11 = .ok (.lload_n 3, 1) := by decide +kernel
theorem dX7_power_12 : decode cX7_power 12 = .ok (.lload_n 0, 1) := by decide +kernel
theorem dX7_power_13 : decode cX7_power 13 = .ok (.lmul, 1) := by decide +kernel
theorem dX7_power_14 : decode cX7_power 14 = .ok (.lstore_n 3, 1) := by decide +kernel
theorem dX7_power_15 : decode cX7_power 15 = .ok (.iinc 5 1, 3) := by decide +kernel
theorem dX7_power_18 : decode cX7_power 18 = .ok (.goto (-13), 3) := by decide +kernel
theorem dX7_power_21 : decode cX7_power 21 = .ok (.lload_n 3, 1) := by decide +kernel
theorem dX7_power_22 : decode cX7_power 22 = .ok (.lreturn, 1) := by decide +kernel
theorem dX7_pull_0 : decode cX7_pull 0 = .ok (.lconst 0, 1) := by decide +kernel
theorem dX7_pull_1 : decode cX7_pull 1 = .ok (.lstore 4, 2) := by decide +kernel
theorem dX7_pull_3 : decode cX7_pull 3 = .ok (.iconst 0, 1) := by decide +kernel
theorem dX7_pull_4 : decode cX7_pull 4 = .ok (.istore 6, 2) := by decide +kernel
theorem dX7_pull_6 : decode cX7_pull 6 = .ok (.iload 6, 2) := by decide +kernel
theorem dX7_pull_8 : decode cX7_pull 8 = .ok (.iconst 5, 1) := by decide +kernel
theorem dX7_pull_9 : decode cX7_pull 9 = .ok (.if_icmp .ge 75, 3) := by decide +kernel
theorem dX7_pull_12 : decode cX7_pull 12 = .ok (.iconst 0, 1) := by decide +kernel
theorem dX7_pull_13 : decode cX7_pull 13 = .ok (.istore 7, 2) := by decide +kernel
theorem dX7_pull_15 : decode cX7_pull 15 = .ok (.iload 6, 2) := by decide +kernel
theorem dX7_pull_17 : decode cX7_pull 17 = .ok (.iload 7, 2) := by decide +kernel
theorem dX7_pull_19 : decode cX7_pull 19 = .ok (.iadd, 1) := by decide +kernel
theorem dX7_pull_20 : decode cX7_pull 20 = .ok (.iconst 5, 1) := by decide +kernel
theorem dX7_pull_21 : decode cX7_pull 21 = .ok (.if_icmp .ge 57, 3) := by decide +kernel
theorem dX7_pull_24 : decode cX7_pull 24 = .ok (.lload 4, 2) := by decide +kernel
theorem dX7_pull_26 : decode cX7_pull 26 = .ok (.aload_n 0, 1) := by decide +kernel
theorem dX7_pull_27 : decode cX7_pull 27 = .ok (.getfield 29, 3) := by decide +kernel
theorem dX7_pull_30 : decode cX7_pull 30 = .ok (.iconst 5, 1) := by decide +kernel
theorem dX7_pull_31 : decode cX7_pull 31 = .ok (.iload 6, 2) := by decide +kernel
theorem dX7_pull_33 : decode cX7_pull 33 = .ok (.imul, 1) := by decide +kernel
theorem dX7_pull_34 : decode cX7_pull 34 = .ok (.iload 7, 2) := by decide +kernel
theorem dX7_pull_36 : decode cX7_pull 36 = .ok (.iadd, 1) := by decide +kernel
theorem dX7_pull_37 : decode cX7_pull 37 = .ok (.iaload, 1) := by decide +kernel
theorem dX7_pull_38 : decode cX7_pull 38 = .ok (.i2l, 1) := by decide +kernel
theorem dX7_pull_39 : decode cX7_pull 39 = .ok (.iload_n 2, 1) := by decide +kernel
theorem dX7_pull_40 : decode cX7_pull 40 = .ok (.aload_n 0, 1) := by decide +kernel
theorem dX7_pull_41 : decode cX7_pull 41 = .ok (.getfield 13, 3) := by decide +kernel
theorem dX7_pull_44 : decode cX7_pull 44 = .ok (.iload_n 1, 1) := by decide +kernel
theorem dX7_pull_45 : decode cX7_pull 45 = .ok (.iaload, 1) := by decide +kernel
theorem dX7_pull_46 : decode cX7_pull 46 = .ok (.isub, 1) := by decide +kernel
theorem dX7_pull_47 : decode cX7_pull 47 = .ok (.i2l, 1) := by decide +kernel
theorem dX7_pull_48 : decode cX7_pull 48 = .ok (.iload 6, 2) := by decide +kernel
theorem dX7_pull_50 : decode cX7_pull 50 = .ok (.invokestatic 97, 3) := by decide +kernel
theorem dX7_pull_53 : decode cX7_pull 53 = .ok (.lmul, 1) := by decide +kernel
theorem dX7_pull_54 : decode cX7_pull 54 = .ok (.iload_n 3, 1) := by decide +kernel
theorem dX7_pull_55 : decode cX7_pull 55 = .ok (.aload_n 0, 1) := by decide +kernel
theorem dX7_pull_56 : decode cX7_pull 56 = .ok (.getfield 17, 3) := by decide +kernel
theorem dX7_pull_59 : decode cX7_pull 59 = .ok (.iload_n 1, 1) := by decide +kernel
theorem dX7_pull_60 : decode cX7_pull 60 = .ok (.iaload, 1) := by decide +kernel
theorem dX7_pull_61 : decode cX7_pull 61 = .ok (.isub, 1) := by decide +kernel
theorem dX7_pull_62 : decode cX7_pull 62 = .ok (.i2l, 1) := by decide +kernel
theorem dX7_pull_63 : decode cX7_pull 63 = .ok (.iload 7, 2) := by decide +kernel
theorem dX7_pull_65 : decode cX7_pull 65 = .ok (.invokestatic 97, 3) := by decide +kernel
theorem dX7_pull_68 : decode cX7_pull 68 = .ok (.lmul, 1) := by decide +kernel
theorem dX7_pull_69 : decode cX7_pull 69 = .ok (.ladd, 1) := by decide +kernel
theorem dX7_pull_70 : decode cX7_pull 70 = .ok (.lstore 4, 2) := by decide +kernel
theorem dX7_pull_72 : decode cX7_pull 72 = .ok (.iinc 7 1, 3) := by decide +kernel
theorem dX7_pull_75 : decode cX7_pull 75 = .ok (.goto (-60), 3) := by decide +kernel
theorem dX7_pull_78 : decode cX7_pull 78 = .ok (.iinc 6 1, 3) := by decide +kernel
theorem dX7_pull_81 : decode cX7_pull 81 = .ok (.goto (-75), 3) := by decide +kernel
theorem dX7_pull_84 : decode cX7_pull 84 = .ok (.ldc2_w 101, 3) := by decide +kernel
theorem dX7_pull_87 : decode cX7_pull 87 = .ok (.aload_n 0, 1) := by decide +kernel
theorem dX7_pull_88 : decode cX7_pull 88 = .ok (.getfield 20, 3) := by decide +kernel
theorem dX7_pull_91 : decode cX7_pull 91 = .ok (.iload_n 1, 1) := by decide +kernel
theorem dX7_pull_92 : decode cX7_pull 92 = .ok (.iaload, 1) := by decide +kernel
theorem dX7_pull_93 : decode cX7_pull 93 = .ok (.i2l, 1) := by decide +kernel
theorem dX7_pull_94 : decode cX7_pull 94 = .ok (.lmul, 1) := by decide +kernel
theorem dX7_pull_95 : decode cX7_pull 95 = .ok (.lload 4, 2) := by decide +kernel
theorem dX7_pull_97 : decode cX7_pull 97 = .ok (.lmul, 1) := by decide +kernel
theorem dX7_pull_98 : decode cX7_pull 98 = .ok (.lreturn, 1) := by decide +kernel
theorem dX7_sumAt_0 : decode cX7_sumAt 0 = .ok (.lconst 0, 1) := by decide +kernel
theorem dX7_sumAt_1 : decode cX7_sumAt 1 = .ok (.lstore_n 3, 1) := by decide +kernel
theorem dX7_sumAt_2 : decode cX7_sumAt 2 = .ok (.iconst 0, 1) := by decide +kernel
theorem dX7_sumAt_3 : decode cX7_sumAt 3 = .ok (.istore 5, 2) := by decide +kernel
theorem dX7_sumAt_5 : decode cX7_sumAt 5 = .ok (.iload 5, 2) := by decide +kernel
theorem dX7_sumAt_7 : decode cX7_sumAt 7 = .ok (.bipush 40, 2) := by decide +kernel
theorem dX7_sumAt_9 : decode cX7_sumAt 9 = .ok (.if_icmp .ge 34, 3) := by decide +kernel
theorem dX7_sumAt_12 : decode cX7_sumAt 12 = .ok (.lload_n 3, 1) := by decide +kernel
theorem dX7_sumAt_13 : decode cX7_sumAt 13 = .ok (.aload_n 0, 1) := by decide +kernel
theorem dX7_sumAt_14 : decode cX7_sumAt 14 = .ok (.getfield 7, 3) := by decide +kernel
theorem dX7_sumAt_17 : decode cX7_sumAt 17 = .ok (.iload 5, 2) := by decide +kernel
theorem dX7_sumAt_19 : decode cX7_sumAt 19 = .ok (.baload, 1) := by decide +kernel
theorem dX7_sumAt_20 : decode cX7_sumAt 20 = .ok (.ifCond .eq 14, 3) := by decide +kernel
theorem dX7_sumAt_23 : decode cX7_sumAt 23 = .ok (.aload_n 0, 1) := by decide +kernel
theorem dX7_sumAt_24 : decode cX7_sumAt 24 = .ok (.iload 5, 2) := by decide +kernel
theorem dX7_sumAt_26 : decode cX7_sumAt 26 = .ok (.iload_n 1, 1) := by decide +kernel
theorem dX7_sumAt_27 : decode cX7_sumAt 27 = .ok (.iload_n 2, 1) := by decide +kernel
theorem dX7_sumAt_28 : decode cX7_sumAt 28 = .ok (.invokevirtual 103, 3) := by decide +kernel
theorem dX7_sumAt_31 : decode cX7_sumAt 31 = .ok (.goto 4, 3) := by decide +kernel
theorem dX7_sumAt_34 : decode cX7_sumAt 34 = .ok (.lconst 0, 1) := by decide +kernel
theorem dX7_sumAt_35 : decode cX7_sumAt 35 = .ok (.ladd, 1) := by decide +kernel
theorem dX7_sumAt_36 : decode cX7_sumAt 36 = .ok (.lstore_n 3, 1) := by decide +kernel
theorem dX7_sumAt_37 : decode cX7_sumAt 37 = .ok (.iinc 5 1, 3) := by decide +kernel
theorem dX7_sumAt_40 : decode cX7_sumAt 40 = .ok (.goto (-35), 3) := by decide +kernel
theorem dX7_sumAt_43 : decode cX7_sumAt 43 = .ok (.lload_n 3, 1) := by decide +kernel
theorem dX7_sumAt_44 : decode cX7_sumAt 44 = .ok (.lreturn, 1) := by decide +kernel
theorem dX7_sum_0 : decode cX7_sum 0 = .ok (.iload_n 1, 1) := by decide +kernel
theorem dX7_sum_1 : decode cX7_sum 1 = .ok (.iload_n 2, 1) := by decide +kernel
theorem dX7_sum_2 : decode cX7_sum 2 = .ok (.invokestatic 68, 3) := by decide +kernel
theorem dX7_sum_5 : decode cX7_sum 5 = .ok (.ifCond .eq 12, 3) := by decide +kernel
theorem dX7_sum_8 : decode cX7_sum 8 = .ok (.aload_n 0, 1) := by decide +kernel
theorem dX7_sum_9 : decode cX7_sum 9 = .ok (.iload_n 1, 1) := by decide +kernel
theorem dX7_sum_10 : decode cX7_sum 10 = .ok (.iload_n 2, 1) := by decide +kernel
theorem dX7_sum_11 : decode cX7_sum 11 = .ok (.invokevirtual 107, 3) := by decide +kernel
theorem dX7_sum_14 : decode cX7_sum 14 = .ok (.goto 6, 3) := by decide +kernel
theorem dX7_sum_17 : decode cX7_sum 17 = .ok (.ldc2_w 111, 3) := by decide +kernel
theorem dX7_sum_20 : decode cX7_sum 20 = .ok (.lreturn, 1) := by decide +kernel
theorem dX7_isIn_0 : decode cX7_isIn 0 = .ok (.bipush 6, 2) := by decide +kernel
theorem dX7_isIn_2 : decode cX7_isIn 2 = .ok (.iload_n 2, 1) := by decide +kernel
theorem dX7_isIn_3 : decode cX7_isIn 3 = .ok (.isub, 1) := by decide +kernel
theorem dX7_isIn_4 : decode cX7_isIn 4 = .ok (.istore 5, 2) := by decide +kernel
theorem dX7_isIn_6 : decode cX7_isIn 6 = .ok (.aload_n 0, 1) := by decide +kernel
theorem dX7_isIn_7 : decode cX7_isIn 7 = .ok (.getfield 7, 3) := by decide +kernel
theorem dX7_isIn_10 : decode cX7_isIn 10 = .ok (.iload_n 1, 1) := by decide +kernel
theorem dX7_isIn_11 : decode cX7_isIn 11 = .ok (.baload, 1) := by decide +kernel
theorem dX7_isIn_12 : decode cX7_isIn 12 = .ok (.ifCond .eq 34, 3) := by decide +kernel
theorem dX7_isIn_15 : decode cX7_isIn 15 = .ok (.aload_n 0, 1) := by decide +kernel
theorem dX7_isIn_16 : decode cX7_isIn 16 = .ok (.getfield 13, 3) := by decide +kernel
theorem dX7_isIn_19 : decode cX7_isIn 19 = .ok (.iload_n 1, 1) := by decide +kernel
theorem dX7_isIn_20 : decode cX7_isIn 20 = .ok (.iaload, 1) := by decide +kernel
theorem dX7_isIn_21 : decode cX7_isIn 21 = .ok (.iload 5, 2) := by decide +kernel
theorem dX7_isIn_23 : decode cX7_isIn 23 = .ok (.ishr, 1) := by decide +kernel
theorem dX7_isIn_24 : decode cX7_isIn 24 = .ok (.iload_n 3, 1) := by decide +kernel
theorem dX7_isIn_25 : decode cX7_isIn 25 = .ok (.if_icmp .ne 21, 3) := by decide +kernel
theorem dX7_isIn_28 : decode cX7_isIn 28 = .ok (.aload_n 0, 1) := by decide +kernel
theorem dX7_isIn_29 : decode cX7_isIn 29 = .ok (.getfield 17, 3) := by decide +kernel
theorem dX7_isIn_32 : decode cX7_isIn 32 = .ok (.iload_n 1, 1) := by decide +kernel
theorem dX7_isIn_33 : decode cX7_isIn 33 = .ok (.iaload, 1) := by decide +kernel
theorem dX7_isIn_34 : decode cX7_isIn 34 = .ok (.iload 5, 2) := by decide +kernel
theorem dX7_isIn_36 : decode cX7_isIn 36 = .ok (.ishr, 1) := by decide +kernel
theorem dX7_isIn_37 : decode cX7_isIn 37 = .ok (.iload 4, 2) := by decide +kernel
theorem dX7_isIn_39 : decode cX7_isIn 39 = .ok (.if_icmp .ne 7, 3) := by decide +kernel
theorem dX7_isIn_42 : decode cX7_isIn 42 = .ok (.iconst 1, 1) := by decide +kernel
theorem dX7_isIn_43 : decode cX7_isIn 43 = .ok (.goto 4, 3) := by decide +kernel
theorem dX7_isIn_46 : decode cX7_isIn 46 = .ok (.iconst 0, 1) := by decide +kernel
theorem dX7_isIn_47 : decode cX7_isIn 47 = .ok (.ireturn, 1) := by decide +kernel
theorem dX7_pointsIn_0 : decode cX7_pointsIn 0 = .ok (.iconst 0, 1) := by decide +kernel
theorem dX7_pointsIn_1 : decode cX7_pointsIn 1 = .ok (.istore 4, 2) := by decide +kernel
theorem dX7_pointsIn_3 : decode cX7_pointsIn 3 = .ok (.iconst 0, 1) := by decide +kernel
theorem dX7_pointsIn_4 : decode cX7_pointsIn 4 = .ok (.istore 5, 2) := by decide +kernel
theorem dX7_pointsIn_6 : decode cX7_pointsIn 6 = .ok (.iload 5, 2) := by decide +kernel
theorem dX7_pointsIn_8 : decode cX7_pointsIn 8 = .ok (.bipush 40, 2) := by decide +kernel
theorem dX7_pointsIn_10 : decode cX7_pointsIn 10 = .ok (.if_icmp .ge 31, 3) := by decide +kernel
theorem dX7_pointsIn_13 : decode cX7_pointsIn 13 = .ok (.iload 4, 2) := by decide +kernel
theorem dX7_pointsIn_15 : decode cX7_pointsIn 15 = .ok (.aload_n 0, 1) := by decide +kernel
theorem dX7_pointsIn_16 : decode cX7_pointsIn 16 = .ok (.iload 5, 2) := by decide +kernel
theorem dX7_pointsIn_18 : decode cX7_pointsIn 18 = .ok (.iload_n 1, 1) := by decide +kernel
theorem dX7_pointsIn_19 : decode cX7_pointsIn 19 = .ok (.iload_n 2, 1) := by decide +kernel
theorem dX7_pointsIn_20 : decode cX7_pointsIn 20 = .ok (.iload_n 3, 1) := by decide +kernel
theorem dX7_pointsIn_21 : decode cX7_pointsIn 21 = .ok (.invokevirtual 113, 3) := by decide +kernel
theorem dX7_pointsIn_24 : decode cX7_pointsIn 24 = .ok (.ifCond .eq 7, 3) := by decide +kernel
theorem dX7_pointsIn_27 : decode cX7_pointsIn 27 = .ok (.iconst 1, 1) := by decide +kernel
theorem dX7_pointsIn_28 : decode cX7_pointsIn 28 = .ok (.goto 4, 3) := by decide +kernel
theorem dX7_pointsIn_31 : decode cX7_pointsIn 31 = .ok (.iconst 0, 1) := by decide +kernel
theorem dX7_pointsIn_32 : decode cX7_pointsIn 32 = .ok (.iadd, 1) := by decide +kernel
theorem dX7_pointsIn_33 : decode cX7_pointsIn 33 = .ok (.istore 4, 2) := by decide +kernel
theorem dX7_pointsIn_35 : decode cX7_pointsIn 35 = .ok (.iinc 5 1, 3) := by decide +kernel
theorem dX7_pointsIn_38 : decode cX7_pointsIn 38 = .ok (.goto (-32), 3) := by decide +kernel
theorem dX7_pointsIn_41 : decode cX7_pointsIn 41 = .ok (.iload 4, 2) := by decide +kernel
theorem dX7_pointsIn_43 : decode cX7_pointsIn 43 = .ok (.ireturn, 1) := by decide +kernel
theorem dX7_bulk_0 : decode cX7_bulk 0 = .ok (.lconst 0, 1) := by decide +kernel
theorem dX7_bulk_1 : decode cX7_bulk 1 = .ok (.lstore 4, 2) := by decide +kernel
theorem dX7_bulk_3 : decode cX7_bulk 3 = .ok (.iconst 0, 1) := by decide +kernel
theorem dX7_bulk_4 : decode cX7_bulk 4 = .ok (.istore 6, 2) := by decide +kernel
theorem dX7_bulk_6 : decode cX7_bulk 6 = .ok (.iload 6, 2) := by decide +kernel
theorem dX7_bulk_8 : decode cX7_bulk 8 = .ok (.bipush 40, 2) := by decide +kernel
theorem dX7_bulk_10 : decode cX7_bulk 10 = .ok (.if_icmp .ge 56, 3) := by decide +kernel
theorem dX7_bulk_13 : decode cX7_bulk 13 = .ok (.aload_n 0, 1) := by decide +kernel
theorem dX7_bulk_14 : decode cX7_bulk 14 = .ok (.iload 6, 2) := by decide +kernel
theorem dX7_bulk_16 : decode cX7_bulk 16 = .ok (.iload_n 1, 1) := by decide +kernel
theorem dX7_bulk_17 : decode cX7_bulk 17 = .ok (.iload_n 2, 1) := by decide +kernel
theorem dX7_bulk_18 : decode cX7_bulk 18 = .ok (.iload_n 3, 1) := by decide +kernel
theorem dX7_bulk_19 : decode cX7_bulk 19 = .ok (.invokevirtual 113, 3) := by decide +kernel
theorem dX7_bulk_22 : decode cX7_bulk 22 = .ok (.ifCond .eq 38, 3) := by decide +kernel
theorem dX7_bulk_25 : decode cX7_bulk 25 = .ok (.lload 4, 2) := by decide +kernel
theorem dX7_bulk_27 : decode cX7_bulk 27 = .ok (.aload_n 0, 1) := by decide +kernel
theorem dX7_bulk_28 : decode cX7_bulk 28 = .ok (.getfield 20, 3) := by decide +kernel
theorem dX7_bulk_31 : decode cX7_bulk 31 = .ok (.iload 6, 2) := by decide +kernel
theorem dX7_bulk_33 : decode cX7_bulk 33 = .ok (.iaload, 1) := by decide +kernel
theorem dX7_bulk_34 : decode cX7_bulk 34 = .ok (.ifCond .ge 15, 3) := by decide +kernel
theorem dX7_bulk_37 : decode cX7_bulk 37 = .ok (.aload_n 0, 1) := by decide +kernel
theorem dX7_bulk_38 : decode cX7_bulk 38 = .ok (.getfield 20, 3) := by decide +kernel
theorem dX7_bulk_41 : decode cX7_bulk 41 = .ok (.iload 6, 2) := by decide +kernel
theorem dX7_bulk_43 : decode cX7_bulk 43 = .ok (.iaload, 1) := by decide +kernel
theorem dX7_bulk_44 : decode cX7_bulk 44 = .ok (.ineg, 1) := by decide +kernel
theorem dX7_bulk_45 : decode cX7_bulk 45 = .ok (.i2l, 1) := by decide +kernel
theorem dX7_bulk_46 : decode cX7_bulk 46 = .ok (.goto 11, 3) := by decide +kernel
theorem dX7_bulk_49 : decode cX7_bulk 49 = .ok (.aload_n 0, 1) := by decide +kernel
theorem dX7_bulk_50 : decode cX7_bulk 50 = .ok (.getfield 20, 3) := by decide +kernel
theorem dX7_bulk_53 : decode cX7_bulk 53 = .ok (.iload 6, 2) := by decide +kernel
theorem dX7_bulk_55 : decode cX7_bulk 55 = .ok (.iaload, 1) := by decide +kernel
theorem dX7_bulk_56 : decode cX7_bulk 56 = .ok (.i2l, 1) := by decide +kernel
theorem dX7_bulk_57 : decode cX7_bulk 57 = .ok (.ladd, 1) := by decide +kernel
theorem dX7_bulk_58 : decode cX7_bulk 58 = .ok (.lstore 4, 2) := by decide +kernel
theorem dX7_bulk_60 : decode cX7_bulk 60 = .ok (.iinc 6 1, 3) := by decide +kernel
theorem dX7_bulk_63 : decode cX7_bulk 63 = .ok (.goto (-57), 3) := by decide +kernel
theorem dX7_bulk_66 : decode cX7_bulk 66 = .ok (.lload 4, 2) := by decide +kernel
theorem dX7_bulk_68 : decode cX7_bulk 68 = .ok (.lreturn, 1) := by decide +kernel
theorem dX7_isSplit_0 : decode cX7_isSplit 0 = .ok (.iload_n 1, 1) := by decide +kernel
theorem dX7_isSplit_1 : decode cX7_isSplit 1 = .ok (.iconst 5, 1) := by decide +kernel
theorem dX7_isSplit_2 : decode cX7_isSplit 2 = .ok (.if_icmp .ge 21, 3) := by decide +kernel
theorem dX7_isSplit_5 : decode cX7_isSplit 5 = .ok (.aload_n 0, 1) := by decide +kernel
theorem dX7_isSplit_6 : decode cX7_isSplit 6 = .ok (.iload_n 1, 1) := by decide +kernel
theorem dX7_isSplit_7 : decode cX7_isSplit 7 = .ok (.iload_n 2, 1) := by decide +kernel
theorem dX7_isSplit_8 : decode cX7_isSplit 8 = .ok (.iload_n 3, 1) := by decide +kernel
theorem dX7_isSplit_9 : decode cX7_isSplit 9 = .ok (.invokevirtual 117, 3) := by decide +kernel
theorem dX7_isSplit_12 : decode cX7_isSplit 12 = .ok (.aload_n 0, 1) := by decide +kernel
theorem dX7_isSplit_13 : decode cX7_isSplit 13 = .ok (.getfield 32, 3) := by decide +kernel
theorem dX7_isSplit_16 : decode cX7_isSplit 16 = .ok (.if_icmp .le 7, 3) := by decide +kernel
theorem dX7_isSplit_19 : decode cX7_isSplit 19 = .ok (.iconst 1, 1) := by decide +kernel
theorem dX7_isSplit_20 : decode cX7_isSplit 20 = .ok (.goto 4, 3) := by decide +kernel
theorem dX7_isSplit_23 : decode cX7_isSplit 23 = .ok (.iconst 0, 1) := by decide +kernel
theorem dX7_isSplit_24 : decode cX7_isSplit 24 = .ok (.ireturn, 1) := by decide +kernel
theorem dX7_isBox_0 : decode cX7_isBox 0 = .ok (.iload_n 1, 1) := by decide +kernel
theorem dX7_isBox_1 : decode cX7_isBox 1 = .ok (.i2l, 1) := by decide +kernel
theorem dX7_isBox_2 : decode cX7_isBox 2 = .ok (.lconst 0, 1) := by decide +kernel
theorem dX7_isBox_3 : decode cX7_isBox 3 = .ok (.ldc2_w 121, 3) := by decide +kernel
theorem dX7_isBox_6 : decode cX7_isBox 6 = .ok (.invokestatic 62, 3) := by decide +kernel
theorem dX7_isBox_9 : decode cX7_isBox 9 = .ok (.ifCond .eq 33, 3) := by decide +kernel
theorem dX7_isBox_12 : decode cX7_isBox 12 = .ok (.iload_n 2, 1) := by decide +kernel
theorem dX7_isBox_13 : decode cX7_isBox 13 = .ok (.i2l, 1) := by decide +kernel
theorem dX7_isBox_14 : decode cX7_isBox 14 = .ok (.lconst 0, 1) := by decide +kernel
theorem dX7_isBox_15 : decode cX7_isBox 15 = .ok (.iconst 1, 1) := by decide +kernel
theorem dX7_isBox_16 : decode cX7_isBox 16 = .ok (.iload_n 1, 1) := by decide +kernel
theorem dX7_isBox_17 : decode cX7_isBox 17 = .ok (.ishl, 1) := by decide +kernel
theorem dX7_isBox_18 : decode cX7_isBox 18 = .ok (.iconst 1, 1) := by decide +kernel
theorem dX7_isBox_19 : decode cX7_isBox 19 = .ok (.isub, 1) := by decide +kernel
theorem dX7_isBox_20 : decode cX7_isBox 20 = .ok (.i2l, 1) := by decide +kernel
theorem dX7_isBox_21 : decode cX7_isBox 21 = .ok (.invokestatic 62, 3) := by decide +kernel
theorem dX7_isBox_24 : decode cX7_isBox 24 = .ok (.ifCond .eq 18, 3) := by decide +kernel
theorem dX7_isBox_27 : decode cX7_isBox 27 = .ok (.iload_n 3, 1) := by decide +kernel
theorem dX7_isBox_28 : decode cX7_isBox 28 = .ok (.i2l, 1) := by decide +kernel
theorem dX7_isBox_29 : decode cX7_isBox 29 = .ok (.lconst 0, 1) := by decide +kernel
theorem dX7_isBox_30 : decode cX7_isBox 30 = .ok (.iconst 1, 1) := by decide +kernel
theorem dX7_isBox_31 : decode cX7_isBox 31 = .ok (.iload_n 1, 1) := by decide +kernel
theorem dX7_isBox_32 : decode cX7_isBox 32 = .ok (.ishl, 1) := by decide +kernel
theorem dX7_isBox_33 : decode cX7_isBox 33 = .ok (.iconst 1, 1) := by decide +kernel
theorem dX7_isBox_34 : decode cX7_isBox 34 = .ok (.isub, 1) := by decide +kernel
theorem dX7_isBox_35 : decode cX7_isBox 35 = .ok (.i2l, 1) := by decide +kernel
theorem dX7_isBox_36 : decode cX7_isBox 36 = .ok (.invokestatic 62, 3) := by decide +kernel
theorem dX7_isBox_39 : decode cX7_isBox 39 = .ok (.ifCond .ne 5, 3) := by decide +kernel
theorem dX7_isBox_42 : decode cX7_isBox 42 = .ok (.iconst 0, 1) := by decide +kernel
theorem dX7_isBox_43 : decode cX7_isBox 43 = .ok (.ireturn, 1) := by decide +kernel
theorem dX7_isBox_44 : decode cX7_isBox 44 = .ok (.iconst 1, 1) := by decide +kernel
theorem dX7_isBox_45 : decode cX7_isBox 45 = .ok (.istore 4, 2) := by decide +kernel
theorem dX7_isBox_47 : decode cX7_isBox 47 = .ok (.iconst 0, 1) := by decide +kernel
theorem dX7_isBox_48 : decode cX7_isBox 48 = .ok (.istore 5, 2) := by decide +kernel
theorem dX7_isBox_50 : decode cX7_isBox 50 = .ok (.iload 5, 2) := by decide +kernel
theorem dX7_isBox_52 : decode cX7_isBox 52 = .ok (.iload_n 1, 1) := by decide +kernel
theorem dX7_isBox_53 : decode cX7_isBox 53 = .ok (.if_icmp .ge 42, 3) := by decide +kernel
theorem dX7_isBox_56 : decode cX7_isBox 56 = .ok (.iload 4, 2) := by decide +kernel
theorem dX7_isBox_58 : decode cX7_isBox 58 = .ok (.ifCond .eq 28, 3) := by decide +kernel
theorem dX7_isBox_61 : decode cX7_isBox 61 = .ok (.aload_n 0, 1) := by decide +kernel
theorem dX7_isBox_62 : decode cX7_isBox 62 = .ok (.iload 5, 2) := by decide +kernel
theorem dX7_isBox_64 : decode cX7_isBox 64 = .ok (.iload_n 2, 1) := by decide +kernel
theorem dX7_isBox_65 : decode cX7_isBox 65 = .ok (.iload_n 1, 1) := by decide +kernel
theorem dX7_isBox_66 : decode cX7_isBox 66 = .ok (.iload 5, 2) := by decide +kernel
theorem dX7_isBox_68 : decode cX7_isBox 68 = .ok (.isub, 1) := by decide +kernel
theorem dX7_isBox_69 : decode cX7_isBox 69 = .ok (.ishr, 1) := by decide +kernel
theorem dX7_isBox_70 : decode cX7_isBox 70 = .ok (.iload_n 3, 1) := by decide +kernel
theorem dX7_isBox_71 : decode cX7_isBox 71 = .ok (.iload_n 1, 1) := by decide +kernel
theorem dX7_isBox_72 : decode cX7_isBox 72 = .ok (.iload 5, 2) := by decide +kernel
theorem dX7_isBox_74 : decode cX7_isBox 74 = .ok (.isub, 1) := by decide +kernel
theorem dX7_isBox_75 : decode cX7_isBox 75 = .ok (.ishr, 1) := by decide +kernel
theorem dX7_isBox_76 : decode cX7_isBox 76 = .ok (.invokevirtual 123, 3) := by decide +kernel
theorem dX7_isBox_79 : decode cX7_isBox 79 = .ok (.ifCond .eq 7, 3) := by decide +kernel
theorem dX7_isBox_82 : decode cX7_isBox 82 = .ok (.iconst 1, 1) := by decide +kernel
theorem dX7_isBox_83 : decode cX7_isBox 83 = .ok (.goto 4, 3) := by decide +kernel
theorem dX7_isBox_86 : decode cX7_isBox 86 = .ok (.iconst 0, 1) := by decide +kernel
theorem dX7_isBox_87 : decode cX7_isBox 87 = .ok (.istore 4, 2) := by decide +kernel
theorem dX7_isBox_89 : decode cX7_isBox 89 = .ok (.iinc 5 1, 3) := by decide +kernel
theorem dX7_isBox_92 : decode cX7_isBox 92 = .ok (.goto (-42), 3) := by decide +kernel
theorem dX7_isBox_95 : decode cX7_isBox 95 = .ok (.iload 4, 2) := by decide +kernel
theorem dX7_isBox_97 : decode cX7_isBox 97 = .ok (.ireturn, 1) := by decide +kernel
theorem dX7_middle_0 : decode cX7_middle 0 = .ok (.bipush 64, 2) := by decide +kernel
theorem dX7_middle_2 : decode cX7_middle 2 = .ok (.iload_n 0, 1) := by decide +kernel
theorem dX7_middle_3 : decode cX7_middle 3 = .ok (.ishr, 1) := by decide +kernel
theorem dX7_middle_4 : decode cX7_middle 4 = .ok (.istore_n 2, 1) := by decide +kernel
theorem dX7_middle_5 : decode cX7_middle 5 = .ok (.iconst 2, 1) := by decide +kernel
theorem dX7_middle_6 : decode cX7_middle 6 = .ok (.iload_n 1, 1) := by decide +kernel
theorem dX7_middle_7 : decode cX7_middle 7 = .ok (.imul, 1) := by decide +kernel
theorem dX7_middle_8 : decode cX7_middle 8 = .ok (.iload_n 2, 1) := by decide +kernel
theorem dX7_middle_9 : decode cX7_middle 9 = .ok (.imul, 1) := by decide +kernel
theorem dX7_middle_10 : decode cX7_middle 10 = .ok (.iload_n 2, 1) := by decide +kernel
theorem dX7_middle_11 : decode cX7_middle 11 = .ok (.iadd, 1) := by decide +kernel
theorem dX7_middle_12 : decode cX7_middle 12 = .ok (.iconst 1, 1) := by decide +kernel
theorem dX7_middle_13 : decode cX7_middle 13 = .ok (.isub, 1) := by decide +kernel
theorem dX7_middle_14 : decode cX7_middle 14 = .ok (.ireturn, 1) := by decide +kernel
theorem dX7_momentOf_0 : decode cX7_momentOf 0 = .ok (.lconst 0, 1) := by decide +kernel
theorem dX7_momentOf_1 : decode cX7_momentOf 1 = .ok (.lstore 6, 2) := by decide +kernel
theorem dX7_momentOf_3 : decode cX7_momentOf 3 = .ok (.iconst 0, 1) := by decide +kernel
theorem dX7_momentOf_4 : decode cX7_momentOf 4 = .ok (.istore 8, 2) := by decide +kernel
theorem dX7_momentOf_6 : decode cX7_momentOf 6 = .ok (.iload 8, 2) := by decide +kernel
theorem dX7_momentOf_8 : decode cX7_momentOf 8 = .ok (.bipush 40, 2) := by decide +kernel
theorem dX7_momentOf_10 : decode cX7_momentOf 10 = .ok (.if_icmp .ge 78, 3) := by decide +kernel
theorem dX7_momentOf_13 : decode cX7_momentOf 13 = .ok (.aload_n 0, 1) := by decide +kernel
theorem dX7_momentOf_14 : decode cX7_momentOf 14 = .ok (.iload 8, 2) := by decide +kernel
theorem dX7_momentOf_16 : decode cX7_momentOf 16 = .ok (.iload_n 1, 1) := by decide +kernel
theorem dX7_momentOf_17 : decode cX7_momentOf 17 = .ok (.iload_n 2, 1) := by decide +kernel
theorem dX7_momentOf_18 : decode cX7_momentOf 18 = .ok (.iload_n 3, 1) := by decide +kernel
theorem dX7_momentOf_19 : decode cX7_momentOf 19 = .ok (.invokevirtual 113, 3) := by decide +kernel
theorem dX7_momentOf_22 : decode cX7_momentOf 22 = .ok (.ifCond .eq 60, 3) := by decide +kernel
theorem dX7_momentOf_25 : decode cX7_momentOf 25 = .ok (.lload 6, 2) := by decide +kernel
theorem dX7_momentOf_27 : decode cX7_momentOf 27 = .ok (.aload_n 0, 1) := by decide +kernel
theorem dX7_momentOf_28 : decode cX7_momentOf 28 = .ok (.getfield 20, 3) := by decide +kernel
theorem dX7_momentOf_31 : decode cX7_momentOf 31 = .ok (.iload 8, 2) := by decide +kernel
theorem dX7_momentOf_33 : decode cX7_momentOf 33 = .ok (.iaload, 1) := by decide +kernel
theorem dX7_momentOf_34 : decode cX7_momentOf 34 = .ok (.i2l, 1) := by decide +kernel
theorem dX7_momentOf_35 : decode cX7_momentOf 35 = .ok (.iconst 2, 1) := by decide +kernel
theorem dX7_momentOf_36 : decode cX7_momentOf 36 = .ok (.aload_n 0, 1) := by decide +kernel
theorem dX7_momentOf_37 : decode cX7_momentOf 37 = .ok (.getfield 13, 3) := by decide +kernel
theorem dX7_momentOf_40 : decode cX7_momentOf 40 = .ok (.iload 8, 2) := by decide +kernel
theorem dX7_momentOf_42 : decode cX7_momentOf 42 = .ok (.iaload, 1) := by decide +kernel
theorem dX7_momentOf_43 : decode cX7_momentOf 43 = .ok (.imul, 1) := by decide +kernel
theorem dX7_momentOf_44 : decode cX7_momentOf 44 = .ok (.iload_n 1, 1) := by decide +kernel
theorem dX7_momentOf_45 : decode cX7_momentOf 45 = .ok (.iload_n 2, 1) := by decide +kernel
theorem dX7_momentOf_46 : decode cX7_momentOf 46 = .ok (.invokestatic 127, 3) := by decide +kernel
theorem dX7_momentOf_49 : decode cX7_momentOf 49 = .ok (.isub, 1) := by decide +kernel
theorem dX7_momentOf_50 : decode cX7_momentOf 50 = .ok (.i2l, 1) := by decide +kernel
theorem dX7_momentOf_51 : decode cX7_momentOf 51 = .ok (.iload 4, 2) := by decide +kernel
theorem dX7_momentOf_53 : decode cX7_momentOf 53 = .ok (.invokestatic 97, 3) := by decide +kernel
theorem dX7_momentOf_56 : decode cX7_momentOf 56 = .ok (.lmul, 1) := by decide +kernel
theorem dX7_momentOf_57 : decode cX7_momentOf 57 = .ok (.iconst 2, 1) := by decide +kernel
theorem dX7_momentOf_58 : decode cX7_momentOf 58 = .ok (.aload_n 0, 1) := by decide +kernel
theorem dX7_momentOf_59 : decode cX7_momentOf 59 = .ok (.getfield 17, 3) := by decide +kernel
theorem dX7_momentOf_62 : decode cX7_momentOf 62 = .ok (.iload 8, 2) := by decide +kernel
theorem dX7_momentOf_64 : decode cX7_momentOf 64 = .ok (.iaload, 1) := by decide +kernel
theorem dX7_momentOf_65 : decode cX7_momentOf 65 = .ok (.imul, 1) := by decide +kernel
theorem dX7_momentOf_66 : decode cX7_momentOf 66 = .ok (.iload_n 1, 1) := by decide +kernel
theorem dX7_momentOf_67 : decode cX7_momentOf 67 = .ok (.iload_n 3, 1) := by decide +kernel
theorem dX7_momentOf_68 : decode cX7_momentOf 68 = .ok (.invokestatic 127, 3) := by decide +kernel
theorem dX7_momentOf_71 : decode cX7_momentOf 71 = .ok (.isub, 1) := by decide +kernel
theorem dX7_momentOf_72 : decode cX7_momentOf 72 = .ok (.i2l, 1) := by decide +kernel
theorem dX7_momentOf_73 : decode cX7_momentOf 73 = .ok (.iload 5, 2) := by decide +kernel
theorem dX7_momentOf_75 : decode cX7_momentOf 75 = .ok (.invokestatic 97, 3) := by decide +kernel
theorem dX7_momentOf_78 : decode cX7_momentOf 78 = .ok (.lmul, 1) := by decide +kernel
theorem dX7_momentOf_79 : decode cX7_momentOf 79 = .ok (.ladd, 1) := by decide +kernel
theorem dX7_momentOf_80 : decode cX7_momentOf 80 = .ok (.lstore 6, 2) := by decide +kernel
theorem dX7_momentOf_82 : decode cX7_momentOf 82 = .ok (.iinc 8 1, 3) := by decide +kernel
theorem dX7_momentOf_85 : decode cX7_momentOf 85 = .ok (.goto (-79), 3) := by decide +kernel
theorem dX7_momentOf_88 : decode cX7_momentOf 88 = .ok (.lload 6, 2) := by decide +kernel
theorem dX7_momentOf_90 : decode cX7_momentOf 90 = .ok (.lreturn, 1) := by decide +kernel
theorem dX7_box_0 : decode cX7_box 0 = .ok (.aload_n 0, 1) := by decide +kernel
theorem dX7_box_1 : decode cX7_box 1 = .ok (.iload_n 1, 1) := by decide +kernel
theorem dX7_box_2 : decode cX7_box 2 = .ok (.iload_n 2, 1) := by decide +kernel
theorem dX7_box_3 : decode cX7_box 3 = .ok (.iload_n 3, 1) := by decide +kernel
theorem dX7_box_4 : decode cX7_box 4 = .ok (.invokevirtual 131, 3) := by decide +kernel
theorem dX7_box_7 : decode cX7_box 7 = .ok (.ifCond .eq 16, 3) := by decide +kernel
theorem dX7_box_10 : decode cX7_box 10 = .ok (.iload 4, 2) := by decide +kernel
theorem dX7_box_12 : decode cX7_box 12 = .ok (.i2l, 1) := by decide +kernel
theorem dX7_box_13 : decode cX7_box 13 = .ok (.lconst 0, 1) := by decide +kernel
theorem dX7_box_14 : decode cX7_box 14 = .ok (.ldc2_w 134, 3) := by decide +kernel
theorem dX7_box_17 : decode cX7_box 17 = .ok (.invokestatic 62, 3) := by decide +kernel
theorem dX7_box_20 : decode cX7_box 20 = .ok (.ifCond .ne 6, 3) := by decide +kernel
theorem dX7_box_23 : decode cX7_box 23 = .ok (.bipush (-2), 2) := by decide +kernel
theorem dX7_box_25 : decode cX7_box 25 = .ok (.ireturn, 1) := by decide +kernel
theorem dX7_box_26 : decode cX7_box 26 = .ok (.iload 4, 2) := by decide +kernel
theorem dX7_box_28 : decode cX7_box 28 = .ok (.ifCond .ne 13, 3) := by decide +kernel
theorem dX7_box_31 : decode cX7_box 31 = .ok (.aload_n 0, 1) := by decide +kernel
theorem dX7_box_32 : decode cX7_box 32 = .ok (.iload_n 1, 1) := by decide +kernel
theorem dX7_box_33 : decode cX7_box 33 = .ok (.iload_n 2, 1) := by decide +kernel
theorem dX7_box_34 : decode cX7_box 34 = .ok (.iload_n 3, 1) := by decide +kernel
theorem dX7_box_35 : decode cX7_box 35 = .ok (.invokevirtual 117, 3) := by decide +kernel
theorem dX7_box_38 : decode cX7_box 38 = .ok (.goto 35, 3) := by decide +kernel
theorem dX7_box_41 : decode cX7_box 41 = .ok (.iload 4, 2) := by decide +kernel
theorem dX7_box_43 : decode cX7_box 43 = .ok (.iconst 1, 1) := by decide +kernel
theorem dX7_box_44 : decode cX7_box 44 = .ok (.if_icmp .ne 14, 3) := by decide +kernel
theorem dX7_box_47 : decode cX7_box 47 = .ok (.aload_n 0, 1) := by decide +kernel
theorem dX7_box_48 : decode cX7_box 48 = .ok (.iload_n 1, 1) := by decide +kernel
theorem dX7_box_49 : decode cX7_box 49 = .ok (.iload_n 2, 1) := by decide +kernel
theorem dX7_box_50 : decode cX7_box 50 = .ok (.iload_n 3, 1) := by decide +kernel
theorem dX7_box_51 : decode cX7_box 51 = .ok (.invokevirtual 136, 3) := by decide +kernel
theorem dX7_box_54 : decode cX7_box 54 = .ok (.l2i, 1) := by decide +kernel
theorem dX7_box_55 : decode cX7_box 55 = .ok (.goto 18, 3) := by decide +kernel
theorem dX7_box_58 : decode cX7_box 58 = .ok (.aload_n 0, 1) := by decide +kernel
theorem dX7_box_59 : decode cX7_box 59 = .ok (.iload_n 1, 1) := by decide +kernel
theorem dX7_box_60 : decode cX7_box 60 = .ok (.iload_n 2, 1) := by decide +kernel
theorem dX7_box_61 : decode cX7_box 61 = .ok (.iload_n 3, 1) := by decide +kernel
theorem dX7_box_62 : decode cX7_box 62 = .ok (.invokevirtual 123, 3) := by decide +kernel
theorem dX7_box_65 : decode cX7_box 65 = .ok (.ifCond .eq 7, 3) := by decide +kernel
theorem dX7_box_68 : decode cX7_box 68 = .ok (.iconst 1, 1) := by decide +kernel
theorem dX7_box_69 : decode cX7_box 69 = .ok (.goto 4, 3) := by decide +kernel
theorem dX7_box_72 : decode cX7_box 72 = .ok (.iconst 0, 1) := by decide +kernel
theorem dX7_box_73 : decode cX7_box 73 = .ok (.ireturn, 1) := by decide +kernel
theorem dX7_moment_0 : decode cX7_moment 0 = .ok (.aload_n 0, 1) := by decide +kernel
theorem dX7_moment_1 : decode cX7_moment 1 = .ok (.iload_n 1, 1) := by decide +kernel
theorem dX7_moment_2 : decode cX7_moment 2 = .ok (.iload_n 2, 1) := by decide +kernel
theorem dX7_moment_3 : decode cX7_moment 3 = .ok (.iload_n 3, 1) := by decide +kernel
theorem dX7_moment_4 : decode cX7_moment 4 = .ok (.invokevirtual 131, 3) := by decide +kernel
theorem dX7_moment_7 : decode cX7_moment 7 = .ok (.ifCond .eq 27, 3) := by decide +kernel
theorem dX7_moment_10 : decode cX7_moment 10 = .ok (.iload 4, 2) := by decide +kernel
theorem dX7_moment_12 : decode cX7_moment 12 = .ok (.iload 5, 2) := by decide +kernel
theorem dX7_moment_14 : decode cX7_moment 14 = .ok (.invokestatic 88, 3) := by decide +kernel
theorem dX7_moment_17 : decode cX7_moment 17 = .ok (.ifCond .eq 17, 3) := by decide +kernel
theorem dX7_moment_20 : decode cX7_moment 20 = .ok (.aload_n 0, 1) := by decide +kernel
theorem dX7_moment_21 : decode cX7_moment 21 = .ok (.iload_n 1, 1) := by decide +kernel
theorem dX7_moment_22 : decode cX7_moment 22 = .ok (.iload_n 2, 1) := by decide +kernel
theorem dX7_moment_23 : decode cX7_moment 23 = .ok (.iload_n 3, 1) := by decide +kernel
theorem dX7_moment_24 : decode cX7_moment 24 = .ok (.iload 4, 2) := by decide +kernel
theorem dX7_moment_26 : decode cX7_moment 26 = .ok (.iload 5, 2) := by decide +kernel
theorem dX7_moment_28 : decode cX7_moment 28 = .ok (.invokevirtual 139, 3) := by decide +kernel
theorem dX7_moment_31 : decode cX7_moment 31 = .ok (.goto 6, 3) := by decide +kernel
theorem dX7_moment_34 : decode cX7_moment 34 = .ok (.ldc2_w 111, 3) := by decide +kernel
theorem dX7_moment_37 : decode cX7_moment 37 = .ok (.lreturn, 1) := by decide +kernel
theorem dX7_leaf_0 : decode cX7_leaf 0 = .ok (.iload_n 1, 1) := by decide +kernel
theorem dX7_leaf_1 : decode cX7_leaf 1 = .ok (.iload_n 2, 1) := by decide +kernel
theorem dX7_leaf_2 : decode cX7_leaf 2 = .ok (.invokestatic 68, 3) := by decide +kernel
theorem dX7_leaf_5 : decode cX7_leaf 5 = .ok (.ifCond .ne 6, 3) := by decide +kernel
theorem dX7_leaf_8 : decode cX7_leaf 8 = .ok (.bipush (-2), 2) := by decide +kernel
theorem dX7_leaf_10 : decode cX7_leaf 10 = .ok (.ireturn, 1) := by decide +kernel
theorem dX7_leaf_11 : decode cX7_leaf 11 = .ok (.iconst 0, 1) := by decide +kernel
theorem dX7_leaf_12 : decode cX7_leaf 12 = .ok (.istore_n 3, 1) := by decide +kernel
theorem dX7_leaf_13 : decode cX7_leaf 13 = .ok (.aload_n 0, 1) := by decide +kernel
theorem dX7_leaf_14 : decode cX7_leaf 14 = .ok (.iload_n 3, 1) := by decide +kernel
theorem dX7_leaf_15 : decode cX7_leaf 15 = .ok (.iload_n 1, 1) := by decide +kernel
theorem dX7_leaf_16 : decode cX7_leaf 16 = .ok (.bipush 6, 2) := by decide +kernel
theorem dX7_leaf_18 : decode cX7_leaf 18 = .ok (.iload_n 3, 1) := by decide +kernel
theorem dX7_leaf_19 : decode cX7_leaf 19 = .ok (.isub, 1) := by decide +kernel
theorem dX7_leaf_20 : decode cX7_leaf 20 = .ok (.ishr, 1) := by decide +kernel
theorem dX7_leaf_21 : decode cX7_leaf 21 = .ok (.iload_n 2, 1) := by decide +kernel
theorem dX7_leaf_22 : decode cX7_leaf 22 = .ok (.bipush 6, 2) := by decide +kernel
theorem dX7_leaf_24 : decode cX7_leaf 24 = .ok (.iload_n 3, 1) := by decide +kernel
theorem dX7_leaf_25 : decode cX7_leaf 25 = .ok (.isub, 1) := by decide +kernel
theorem dX7_leaf_26 : decode cX7_leaf 26 = .ok (.ishr, 1) := by decide +kernel
theorem dX7_leaf_27 : decode cX7_leaf 27 = .ok (.invokevirtual 123, 3) := by decide +kernel
theorem dX7_leaf_30 : decode cX7_leaf 30 = .ok (.ifCond .eq 9, 3) := by decide +kernel
theorem dX7_leaf_33 : decode cX7_leaf 33 = .ok (.iinc 3 1, 3) := by decide +kernel
theorem dX7_leaf_36 : decode cX7_leaf 36 = .ok (.goto (-23), 3) := by decide +kernel
theorem dX7_leaf_39 : decode cX7_leaf 39 = .ok (.iload_n 3, 1) := by decide +kernel
theorem dX7_leaf_40 : decode cX7_leaf 40 = .ok (.ireturn, 1) := by decide +kernel
theorem dX7_choose_0 : decode cX7_choose 0 = .ok (.lconst 1, 1) := by decide +kernel
theorem dX7_choose_1 : decode cX7_choose 1 = .ok (.lstore_n 2, 1) := by decide +kernel
theorem dX7_choose_2 : decode cX7_choose 2 = .ok (.iconst 0, 1) := by decide +kernel
theorem dX7_choose_3 : decode cX7_choose 3 = .ok (.istore 4, 2) := by decide +kernel
theorem dX7_choose_5 : decode cX7_choose 5 = .ok (.iload 4, 2) := by decide +kernel
theorem dX7_choose_7 : decode cX7_choose 7 = .ok (.iload_n 1, 1) := by decide +kernel
theorem dX7_choose_8 : decode cX7_choose 8 = .ok (.if_icmp .ge 23, 3) := by decide +kernel
theorem dX7_choose_11 : decode cX7_choose 11 = .ok (.lload_n 2, 1) := by decide +kernel
theorem dX7_choose_12 : decode cX7_choose 12 = .ok (.iload_n 0, 1) := by decide +kernel
theorem dX7_choose_13 : decode cX7_choose 13 = .ok (.iload 4, 2) := by decide +kernel
theorem dX7_choose_15 : decode cX7_choose 15 = .ok (.isub, 1) := by decide +kernel
theorem dX7_choose_16 : decode cX7_choose 16 = .ok (.i2l, 1) := by decide +kernel
theorem dX7_choose_17 : decode cX7_choose 17 = .ok (.lmul, 1) := by decide +kernel
theorem dX7_choose_18 : decode cX7_choose 18 = .ok (.iload 4, 2) := by decide +kernel
theorem dX7_choose_20 : decode cX7_choose 20 = .ok (.iconst 1, 1) := by decide +kernel
theorem dX7_choose_21 : decode cX7_choose 21 = .ok (.iadd, 1) := by decide +kernel
theorem dX7_choose_22 : decode cX7_choose 22 = .ok (.i2l, 1) := by decide +kernel
theorem dX7_choose_23 : decode cX7_choose 23 = .ok (.ldiv, 1) := by decide +kernel
theorem dX7_choose_24 : decode cX7_choose 24 = .ok (.lstore_n 2, 1) := by decide +kernel
theorem dX7_choose_25 : decode cX7_choose 25 = .ok (.iinc 4 1, 3) := by decide +kernel
theorem dX7_choose_28 : decode cX7_choose 28 = .ok (.goto (-23), 3) := by decide +kernel
theorem dX7_choose_31 : decode cX7_choose 31 = .ok (.lload_n 2, 1) := by decide +kernel
theorem dX7_choose_32 : decode cX7_choose 32 = .ok (.lreturn, 1) := by decide +kernel
theorem dX7_term_0 : decode cX7_term 0 = .ok (.ldc2_w 134, 3) := by decide +kernel
theorem dX7_term_3 : decode cX7_term 3 = .ok (.iload 4, 2) := by decide +kernel
theorem dX7_term_5 : decode cX7_term 5 = .ok (.i2l, 1) := by decide +kernel
theorem dX7_term_6 : decode cX7_term 6 = .ok (.lmul, 1) := by decide +kernel
theorem dX7_term_7 : decode cX7_term 7 = .ok (.iload_n 1, 1) := by decide +kernel
theorem dX7_term_8 : decode cX7_term 8 = .ok (.iload_n 2, 1) := by decide +kernel
theorem dX7_term_9 : decode cX7_term 9 = .ok (.invokestatic 127, 3) := by decide +kernel
theorem dX7_term_12 : decode cX7_term 12 = .ok (.i2l, 1) := by decide +kernel
theorem dX7_term_13 : decode cX7_term 13 = .ok (.lsub, 1) := by decide +kernel
theorem dX7_term_14 : decode cX7_term 14 = .ok (.lstore 7, 2) := by decide +kernel
theorem dX7_term_16 : decode cX7_term 16 = .ok (.ldc2_w 134, 3) := by decide +kernel
theorem dX7_term_19 : decode cX7_term 19 = .ok (.iload 5, 2) := by decide +kernel
theorem dX7_term_21 : decode cX7_term 21 = .ok (.i2l, 1) := by decide +kernel
theorem dX7_term_22 : decode cX7_term 22 = .ok (.lmul, 1) := by decide +kernel
theorem dX7_term_23 : decode cX7_term 23 = .ok (.iload_n 1, 1) := by decide +kernel
theorem dX7_term_24 : decode cX7_term 24 = .ok (.iload_n 3, 1) := by decide +kernel
theorem dX7_term_25 : decode cX7_term 25 = .ok (.invokestatic 127, 3) := by decide +kernel
theorem dX7_term_28 : decode cX7_term 28 = .ok (.i2l, 1) := by decide +kernel
theorem dX7_term_29 : decode cX7_term 29 = .ok (.lsub, 1) := by decide +kernel
theorem dX7_term_30 : decode cX7_term 30 = .ok (.lstore 9, 2) := by decide +kernel
theorem dX7_term_32 : decode cX7_term 32 = .ok (.lconst 0, 1) := by decide +kernel
theorem dX7_term_33 : decode cX7_term 33 = .ok (.lstore 11, 2) := by decide +kernel
theorem dX7_term_35 : decode cX7_term 35 = .ok (.iconst 0, 1) := by decide +kernel
theorem dX7_term_36 : decode cX7_term 36 = .ok (.istore 13, 2) := by decide +kernel
theorem dX7_term_38 : decode cX7_term 38 = .ok (.iload 13, 2) := by decide +kernel
theorem dX7_term_40 : decode cX7_term 40 = .ok (.iload 6, 2) := by decide +kernel
theorem dX7_term_42 : decode cX7_term 42 = .ok (.if_icmp .gt 167, 3) := by decide +kernel
theorem dX7_term_45 : decode cX7_term 45 = .ok (.iconst 0, 1) := by decide +kernel
theorem dX7_term_46 : decode cX7_term 46 = .ok (.istore 14, 2) := by decide +kernel
theorem dX7_term_48 : decode cX7_term 48 = .ok (.iload 13, 2) := by decide +kernel
theorem dX7_term_50 : decode cX7_term 50 = .ok (.iload 14, 2) := by decide +kernel
theorem dX7_term_52 : decode cX7_term 52 = .ok (.iadd, 1) := by decide +kernel
theorem dX7_term_53 : decode cX7_term 53 = .ok (.iload 6, 2) := by decide +kernel
theorem dX7_term_55 : decode cX7_term 55 = .ok (.if_icmp .gt 148, 3) := by decide +kernel
theorem dX7_term_58 : decode cX7_term 58 = .ok (.lconst 0, 1) := by decide +kernel
theorem dX7_term_59 : decode cX7_term 59 = .ok (.lstore 15, 2) := by decide +kernel
theorem dX7_term_61 : decode cX7_term 61 = .ok (.iload 13, 2) := by decide +kernel
theorem dX7_term_63 : decode cX7_term 63 = .ok (.istore 17, 2) := by decide +kernel
theorem dX7_term_65 : decode cX7_term 65 = .ok (.iload 17, 2) := by decide +kernel
theorem dX7_term_67 : decode cX7_term 67 = .ok (.iconst 5, 1) := by decide +kernel
theorem dX7_term_68 : decode cX7_term 68 = .ok (.if_icmp .ge 94, 3) := by decide +kernel
theorem dX7_term_71 : decode cX7_term 71 = .ok (.iload 14, 2) := by decide +kernel
theorem dX7_term_73 : decode cX7_term 73 = .ok (.istore 18, 2) := by decide +kernel
theorem dX7_term_75 : decode cX7_term 75 = .ok (.iload 17, 2) := by decide +kernel
theorem dX7_term_77 : decode cX7_term 77 = .ok (.iload 18, 2) := by decide +kernel
theorem dX7_term_79 : decode cX7_term 79 = .ok (.iadd, 1) := by decide +kernel
theorem dX7_term_80 : decode cX7_term 80 = .ok (.iconst 5, 1) := by decide +kernel
theorem dX7_term_81 : decode cX7_term 81 = .ok (.if_icmp .ge 75, 3) := by decide +kernel
theorem dX7_term_84 : decode cX7_term 84 = .ok (.lload 15, 2) := by decide +kernel
theorem dX7_term_86 : decode cX7_term 86 = .ok (.aload_n 0, 1) := by decide +kernel
theorem dX7_term_87 : decode cX7_term 87 = .ok (.getfield 29, 3) := by decide +kernel
theorem dX7_term_90 : decode cX7_term 90 = .ok (.iconst 5, 1) := by decide +kernel
theorem dX7_term_91 : decode cX7_term 91 = .ok (.iload 17, 2) := by decide +kernel
theorem dX7_term_93 : decode cX7_term 93 = .ok (.imul, 1) := by decide +kernel
theorem dX7_term_94 : decode cX7_term 94 = .ok (.iload 18, 2) := by decide +kernel
theorem dX7_term_96 : decode cX7_term 96 = .ok (.iadd, 1) := by decide +kernel
theorem dX7_term_97 : decode cX7_term 97 = .ok (.iaload, 1) := by decide +kernel
theorem dX7_term_98 : decode cX7_term 98 = .ok (.i2l, 1) := by decide +kernel
theorem dX7_term_99 : decode cX7_term 99 = .ok (.ldc2_w 101, 3) := by decide +kernel
theorem dX7_term_102 : decode cX7_term 102 = .ok (.iload 17, 2) := by decide +kernel
theorem dX7_term_104 : decode cX7_term 104 = .ok (.iload 18, 2) := by decide +kernel
theorem dX7_term_106 : decode cX7_term 106 = .ok (.iadd, 1) := by decide +kernel
theorem dX7_term_107 : decode cX7_term 107 = .ok (.lshr, 1) := by decide +kernel
theorem dX7_term_108 : decode cX7_term 108 = .ok (.lmul, 1) := by decide +kernel
theorem dX7_term_109 : decode cX7_term 109 = .ok (.iload 17, 2) := by decide +kernel
theorem dX7_term_111 : decode cX7_term 111 = .ok (.iload 13, 2) := by decide +kernel
theorem dX7_term_113 : decode cX7_term 113 = .ok (.invokestatic 143, 3) := by decide +kernel
theorem dX7_term_116 : decode cX7_term 116 = .ok (.lmul, 1) := by decide +kernel
theorem dX7_term_117 : decode cX7_term 117 = .ok (.iload 18, 2) := by decide +kernel
theorem dX7_term_119 : decode cX7_term 119 = .ok (.iload 14, 2) := by decide +kernel
theorem dX7_term_121 : decode cX7_term 121 = .ok (.invokestatic 143, 3) := by decide +kernel
theorem dX7_term_124 : decode cX7_term 124 = .ok (.lmul, 1) := by decide +kernel
theorem dX7_term_125 : decode cX7_term 125 = .ok (.lload 7, 2) := by decide +kernel
theorem dX7_term_127 : decode cX7_term 127 = .ok (.iload 17, 2) := by decide +kernel
theorem dX7_term_129 : decode cX7_term 129 = .ok (.iload 13, 2) := by decide +kernel
theorem dX7_term_131 : decode cX7_term 131 = .ok (.isub, 1) := by decide +kernel
theorem dX7_term_132 : decode cX7_term 132 = .ok (.invokestatic 97, 3) := by decide +kernel
theorem dX7_term_135 : decode cX7_term 135 = .ok (.lmul, 1) := by decide +kernel
theorem dX7_term_136 : decode cX7_term 136 = .ok (.lload 9, 2) := by decide +kernel
theorem dX7_term_138 : decode cX7_term 138 = .ok (.iload 18, 2) := by decide +kernel
theorem dX7_term_140 : decode cX7_term 140 = .ok (.iload 14, 2) := by decide +kernel
theorem dX7_term_142 : decode cX7_term 142 = .ok (.isub, 1) := by decide +kernel
theorem dX7_term_143 : decode cX7_term 143 = .ok (.invokestatic 97, 3) := by decide +kernel
theorem dX7_term_146 : decode cX7_term 146 = .ok (.lmul, 1) := by decide +kernel
theorem dX7_term_147 : decode cX7_term 147 = .ok (.ladd, 1) := by decide +kernel
theorem dX7_term_148 : decode cX7_term 148 = .ok (.lstore 15, 2) := by decide +kernel
theorem dX7_term_150 : decode cX7_term 150 = .ok (.iinc 18 1, 3) := by decide +kernel
theorem dX7_term_153 : decode cX7_term 153 = .ok (.goto (-78), 3) := by decide +kernel
theorem dX7_term_156 : decode cX7_term 156 = .ok (.iinc 17 1, 3) := by decide +kernel
theorem dX7_term_159 : decode cX7_term 159 = .ok (.goto (-94), 3) := by decide +kernel
theorem dX7_term_162 : decode cX7_term 162 = .ok (.lload 11, 2) := by decide +kernel
theorem dX7_term_164 : decode cX7_term 164 = .ok (.iload 13, 2) := by decide +kernel
theorem dX7_term_166 : decode cX7_term 166 = .ok (.iload 14, 2) := by decide +kernel
theorem dX7_term_168 : decode cX7_term 168 = .ok (.iadd, 1) := by decide +kernel
theorem dX7_term_169 : decode cX7_term 169 = .ok (.iconst 2, 1) := by decide +kernel
theorem dX7_term_170 : decode cX7_term 170 = .ok (.irem, 1) := by decide +kernel
theorem dX7_term_171 : decode cX7_term 171 = .ok (.ifCond .ne 8, 3) := by decide +kernel
theorem dX7_term_174 : decode cX7_term 174 = .ok (.lload 15, 2) := by decide +kernel
theorem dX7_term_176 : decode cX7_term 176 = .ok (.goto 6, 3) := by decide +kernel
theorem dX7_term_179 : decode cX7_term 179 = .ok (.lload 15, 2) := by decide +kernel
theorem dX7_term_181 : decode cX7_term 181 = .ok (.lneg, 1) := by decide +kernel
theorem dX7_term_182 : decode cX7_term 182 = .ok (.aload_n 0, 1) := by decide +kernel
theorem dX7_term_183 : decode cX7_term 183 = .ok (.iload_n 1, 1) := by decide +kernel
theorem dX7_term_184 : decode cX7_term 184 = .ok (.iload_n 2, 1) := by decide +kernel
theorem dX7_term_185 : decode cX7_term 185 = .ok (.iload_n 3, 1) := by decide +kernel
theorem dX7_term_186 : decode cX7_term 186 = .ok (.iload 13, 2) := by decide +kernel
theorem dX7_term_188 : decode cX7_term 188 = .ok (.iload 14, 2) := by decide +kernel
theorem dX7_term_190 : decode cX7_term 190 = .ok (.invokevirtual 139, 3) := by decide +kernel
theorem dX7_term_193 : decode cX7_term 193 = .ok (.lmul, 1) := by decide +kernel
theorem dX7_term_194 : decode cX7_term 194 = .ok (.ladd, 1) := by decide +kernel
theorem dX7_term_195 : decode cX7_term 195 = .ok (.lstore 11, 2) := by decide +kernel
theorem dX7_term_197 : decode cX7_term 197 = .ok (.iinc 14 1, 3) := by decide +kernel
theorem dX7_term_200 : decode cX7_term 200 = .ok (.goto (-152), 3) := by decide +kernel
theorem dX7_term_203 : decode cX7_term 203 = .ok (.iinc 13 1, 3) := by decide +kernel
theorem dX7_term_206 : decode cX7_term 206 = .ok (.goto (-168), 3) := by decide +kernel
theorem dX7_term_209 : decode cX7_term 209 = .ok (.lload 11, 2) := by decide +kernel
theorem dX7_term_211 : decode cX7_term 211 = .ok (.lreturn, 1) := by decide +kernel
theorem dX7_size_0 : decode cX7_size 0 = .ok (.lload_n 0, 1) := by decide +kernel
theorem dX7_size_1 : decode cX7_size 1 = .ok (.lconst 0, 1) := by decide +kernel
theorem dX7_size_2 : decode cX7_size 2 = .ok (.lcmp, 1) := by decide +kernel
theorem dX7_size_3 : decode cX7_size 3 = .ok (.ifCond .ge 8, 3) := by decide +kernel
theorem dX7_size_6 : decode cX7_size 6 = .ok (.lload_n 0, 1) := by decide +kernel
theorem dX7_size_7 : decode cX7_size 7 = .ok (.lneg, 1) := by decide +kernel
theorem dX7_size_8 : decode cX7_size 8 = .ok (.goto 4, 3) := by decide +kernel
theorem dX7_size_11 : decode cX7_size 11 = .ok (.lload_n 0, 1) := by decide +kernel
theorem dX7_size_12 : decode cX7_size 12 = .ok (.lreturn, 1) := by decide +kernel
theorem dX7_endOf_0 : decode cX7_endOf 0 = .ok (.ldc2_w 134, 3) := by decide +kernel
theorem dX7_endOf_3 : decode cX7_endOf 3 = .ok (.iload 4, 2) := by decide +kernel
theorem dX7_endOf_5 : decode cX7_endOf 5 = .ok (.i2l, 1) := by decide +kernel
theorem dX7_endOf_6 : decode cX7_endOf 6 = .ok (.lmul, 1) := by decide +kernel
theorem dX7_endOf_7 : decode cX7_endOf 7 = .ok (.iload_n 1, 1) := by decide +kernel
theorem dX7_endOf_8 : decode cX7_endOf 8 = .ok (.iload_n 2, 1) := by decide +kernel
theorem dX7_endOf_9 : decode cX7_endOf 9 = .ok (.invokestatic 127, 3) := by decide +kernel
theorem dX7_endOf_12 : decode cX7_endOf 12 = .ok (.i2l, 1) := by decide +kernel
theorem dX7_endOf_13 : decode cX7_endOf 13 = .ok (.lsub, 1) := by decide +kernel
theorem dX7_endOf_14 : decode cX7_endOf 14 = .ok (.invokestatic 146, 3) := by decide +kernel
theorem dX7_endOf_17 : decode cX7_endOf 17 = .ok (.lstore 7, 2) := by decide +kernel
theorem dX7_endOf_19 : decode cX7_endOf 19 = .ok (.ldc2_w 134, 3) := by decide +kernel
theorem dX7_endOf_22 : decode cX7_endOf 22 = .ok (.iload 5, 2) := by decide +kernel
theorem dX7_endOf_24 : decode cX7_endOf 24 = .ok (.i2l, 1) := by decide +kernel
theorem dX7_endOf_25 : decode cX7_endOf 25 = .ok (.lmul, 1) := by decide +kernel
theorem dX7_endOf_26 : decode cX7_endOf 26 = .ok (.iload_n 1, 1) := by decide +kernel
theorem dX7_endOf_27 : decode cX7_endOf 27 = .ok (.iload_n 3, 1) := by decide +kernel
theorem dX7_endOf_28 : decode cX7_endOf 28 = .ok (.invokestatic 127, 3) := by decide +kernel
theorem dX7_endOf_31 : decode cX7_endOf 31 = .ok (.i2l, 1) := by decide +kernel
theorem dX7_endOf_32 : decode cX7_endOf 32 = .ok (.lsub, 1) := by decide +kernel
theorem dX7_endOf_33 : decode cX7_endOf 33 = .ok (.invokestatic 146, 3) := by decide +kernel
theorem dX7_endOf_36 : decode cX7_endOf 36 = .ok (.lstore 9, 2) := by decide +kernel
theorem dX7_endOf_38 : decode cX7_endOf 38 = .ok (.bipush 64, 2) := by decide +kernel
theorem dX7_endOf_40 : decode cX7_endOf 40 = .ok (.iload_n 1, 1) := by decide +kernel
theorem dX7_endOf_41 : decode cX7_endOf 41 = .ok (.ishr, 1) := by decide +kernel
theorem dX7_endOf_42 : decode cX7_endOf 42 = .ok (.iconst 1, 1) := by decide +kernel
theorem dX7_endOf_43 : decode cX7_endOf 43 = .ok (.isub, 1) := by decide +kernel
