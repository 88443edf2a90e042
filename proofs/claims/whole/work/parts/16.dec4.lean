theorem dX7_endOf_44 : decode cX7_endOf 44 = .ok (.i2l, 1) := by decide +kernel
theorem dX7_endOf_45 : decode cX7_endOf 45 = .ok (.lstore 11, 2) := by decide +kernel
theorem dX7_endOf_47 : decode cX7_endOf 47 = .ok (.lconst 0, 1) := by decide +kernel
theorem dX7_endOf_48 : decode cX7_endOf 48 = .ok (.lstore 13, 2) := by decide +kernel
theorem dX7_endOf_50 : decode cX7_endOf 50 = .ok (.iconst 0, 1) := by decide +kernel
theorem dX7_endOf_51 : decode cX7_endOf 51 = .ok (.istore 15, 2) := by decide +kernel
theorem dX7_endOf_53 : decode cX7_endOf 53 = .ok (.iload 15, 2) := by decide +kernel
theorem dX7_endOf_55 : decode cX7_endOf 55 = .ok (.iconst 5, 1) := by decide +kernel
theorem dX7_endOf_56 : decode cX7_endOf 56 = .ok (.if_icmp .ge 149, 3) := by decide +kernel
theorem dX7_endOf_59 : decode cX7_endOf 59 = .ok (.iconst 0, 1) := by decide +kernel
theorem dX7_endOf_60 : decode cX7_endOf 60 = .ok (.istore 16, 2) := by decide +kernel
theorem dX7_endOf_62 : decode cX7_endOf 62 = .ok (.iload 15, 2) := by decide +kernel
theorem dX7_endOf_64 : decode cX7_endOf 64 = .ok (.iload 16, 2) := by decide +kernel
theorem dX7_endOf_66 : decode cX7_endOf 66 = .ok (.iadd, 1) := by decide +kernel
theorem dX7_endOf_67 : decode cX7_endOf 67 = .ok (.iconst 5, 1) := by decide +kernel
theorem dX7_endOf_68 : decode cX7_endOf 68 = .ok (.if_icmp .ge 131, 3) := by decide +kernel
theorem dX7_endOf_71 : decode cX7_endOf 71 = .ok (.iconst 0, 1) := by decide +kernel
theorem dX7_endOf_72 : decode cX7_endOf 72 = .ok (.istore 17, 2) := by decide +kernel
theorem dX7_endOf_74 : decode cX7_endOf 74 = .ok (.iload 17, 2) := by decide +kernel
theorem dX7_endOf_76 : decode cX7_endOf 76 = .ok (.iload 15, 2) := by decide +kernel
theorem dX7_endOf_78 : decode cX7_endOf 78 = .ok (.if_icmp .gt 115, 3) := by decide +kernel
theorem dX7_endOf_81 : decode cX7_endOf 81 = .ok (.iconst 0, 1) := by decide +kernel
theorem dX7_endOf_82 : decode cX7_endOf 82 = .ok (.istore 18, 2) := by decide +kernel
theorem dX7_endOf_84 : decode cX7_endOf 84 = .ok (.iload 18, 2) := by decide +kernel
theorem dX7_endOf_86 : decode cX7_endOf 86 = .ok (.iload 16, 2) := by decide +kernel
theorem dX7_endOf_88 : decode cX7_endOf 88 = .ok (.if_icmp .gt 99, 3) := by decide +kernel
theorem dX7_endOf_91 : decode cX7_endOf 91 = .ok (.iload 17, 2) := by decide +kernel
theorem dX7_endOf_93 : decode cX7_endOf 93 = .ok (.iload 18, 2) := by decide +kernel
theorem dX7_endOf_95 : decode cX7_endOf 95 = .ok (.iadd, 1) := by decide +kernel
theorem dX7_endOf_96 : decode cX7_endOf 96 = .ok (.iload 6, 2) := by decide +kernel
theorem dX7_endOf_98 : decode cX7_endOf 98 = .ok (.if_icmp .le 83, 3) := by decide +kernel
theorem dX7_endOf_101 : decode cX7_endOf 101 = .ok (.lload 13, 2) := by decide +kernel
theorem dX7_endOf_103 : decode cX7_endOf 103 = .ok (.aload_n 0, 1) := by decide +kernel
theorem dX7_endOf_104 : decode cX7_endOf 104 = .ok (.getfield 29, 3) := by decide +kernel
theorem dX7_endOf_107 : decode cX7_endOf 107 = .ok (.iconst 5, 1) := by decide +kernel
theorem dX7_endOf_108 : decode cX7_endOf 108 = .ok (.iload 15, 2) := by decide +kernel
theorem dX7_endOf_110 : decode cX7_endOf 110 = .ok (.imul, 1) := by decide +kernel
theorem dX7_endOf_111 : decode cX7_endOf 111 = .ok (.iload 16, 2) := by decide +kernel
theorem dX7_endOf_113 : decode cX7_endOf 113 = .ok (.iadd, 1) := by decide +kernel
theorem dX7_endOf_114 : decode cX7_endOf 114 = .ok (.iaload, 1) := by decide +kernel
theorem dX7_endOf_115 : decode cX7_endOf 115 = .ok (.i2l, 1) := by decide +kernel
theorem dX7_endOf_116 : decode cX7_endOf 116 = .ok (.invokestatic 146, 3) := by decide +kernel
theorem dX7_endOf_119 : decode cX7_endOf 119 = .ok (.ldc2_w 101, 3) := by decide +kernel
theorem dX7_endOf_122 : decode cX7_endOf 122 = .ok (.iload 15, 2) := by decide +kernel
theorem dX7_endOf_124 : decode cX7_endOf 124 = .ok (.iload 16, 2) := by decide +kernel
theorem dX7_endOf_126 : decode cX7_endOf 126 = .ok (.iadd, 1) := by decide +kernel
theorem dX7_endOf_127 : decode cX7_endOf 127 = .ok (.lshr, 1) := by decide +kernel
theorem dX7_endOf_128 : decode cX7_endOf 128 = .ok (.lmul, 1) := by decide +kernel
theorem dX7_endOf_129 : decode cX7_endOf 129 = .ok (.iload 15, 2) := by decide +kernel
theorem dX7_endOf_131 : decode cX7_endOf 131 = .ok (.iload 17, 2) := by decide +kernel
theorem dX7_endOf_133 : decode cX7_endOf 133 = .ok (.invokestatic 143, 3) := by decide +kernel
theorem dX7_endOf_136 : decode cX7_endOf 136 = .ok (.lmul, 1) := by decide +kernel
theorem dX7_endOf_137 : decode cX7_endOf 137 = .ok (.iload 16, 2) := by decide +kernel
theorem dX7_endOf_139 : decode cX7_endOf 139 = .ok (.iload 18, 2) := by decide +kernel
theorem dX7_endOf_141 : decode cX7_endOf 141 = .ok (.invokestatic 143, 3) := by decide +kernel
theorem dX7_endOf_144 : decode cX7_endOf 144 = .ok (.lmul, 1) := by decide +kernel
theorem dX7_endOf_145 : decode cX7_endOf 145 = .ok (.lload 7, 2) := by decide +kernel
theorem dX7_endOf_147 : decode cX7_endOf 147 = .ok (.iload 15, 2) := by decide +kernel
theorem dX7_endOf_149 : decode cX7_endOf 149 = .ok (.iload 17, 2) := by decide +kernel
theorem dX7_endOf_151 : decode cX7_endOf 151 = .ok (.isub, 1) := by decide +kernel
theorem dX7_endOf_152 : decode cX7_endOf 152 = .ok (.invokestatic 97, 3) := by decide +kernel
theorem dX7_endOf_155 : decode cX7_endOf 155 = .ok (.lmul, 1) := by decide +kernel
theorem dX7_endOf_156 : decode cX7_endOf 156 = .ok (.lload 9, 2) := by decide +kernel
theorem dX7_endOf_158 : decode cX7_endOf 158 = .ok (.iload 16, 2) := by decide +kernel
theorem dX7_endOf_160 : decode cX7_endOf 160 = .ok (.iload 18, 2) := by decide +kernel
theorem dX7_endOf_162 : decode cX7_endOf 162 = .ok (.isub, 1) := by decide +kernel
theorem dX7_endOf_163 : decode cX7_endOf 163 = .ok (.invokestatic 97, 3) := by decide +kernel
theorem dX7_endOf_166 : decode cX7_endOf 166 = .ok (.lmul, 1) := by decide +kernel
theorem dX7_endOf_167 : decode cX7_endOf 167 = .ok (.lload 11, 2) := by decide +kernel
theorem dX7_endOf_169 : decode cX7_endOf 169 = .ok (.iload 17, 2) := by decide +kernel
theorem dX7_endOf_171 : decode cX7_endOf 171 = .ok (.iload 18, 2) := by decide +kernel
theorem dX7_endOf_173 : decode cX7_endOf 173 = .ok (.iadd, 1) := by decide +kernel
theorem dX7_endOf_174 : decode cX7_endOf 174 = .ok (.invokestatic 97, 3) := by decide +kernel
theorem dX7_endOf_177 : decode cX7_endOf 177 = .ok (.lmul, 1) := by decide +kernel
theorem dX7_endOf_178 : decode cX7_endOf 178 = .ok (.ladd, 1) := by decide +kernel
theorem dX7_endOf_179 : decode cX7_endOf 179 = .ok (.lstore 13, 2) := by decide +kernel
theorem dX7_endOf_181 : decode cX7_endOf 181 = .ok (.iinc 18 1, 3) := by decide +kernel
theorem dX7_endOf_184 : decode cX7_endOf 184 = .ok (.goto (-100), 3) := by decide +kernel
theorem dX7_endOf_187 : decode cX7_endOf 187 = .ok (.iinc 17 1, 3) := by decide +kernel
theorem dX7_endOf_190 : decode cX7_endOf 190 = .ok (.goto (-116), 3) := by decide +kernel
theorem dX7_endOf_193 : decode cX7_endOf 193 = .ok (.iinc 16 1, 3) := by decide +kernel
theorem dX7_endOf_196 : decode cX7_endOf 196 = .ok (.goto (-134), 3) := by decide +kernel
theorem dX7_endOf_199 : decode cX7_endOf 199 = .ok (.iinc 15 1, 3) := by decide +kernel
theorem dX7_endOf_202 : decode cX7_endOf 202 = .ok (.goto (-149), 3) := by decide +kernel
theorem dX7_endOf_205 : decode cX7_endOf 205 = .ok (.lload 13, 2) := by decide +kernel
theorem dX7_endOf_207 : decode cX7_endOf 207 = .ok (.aload_n 0, 1) := by decide +kernel
theorem dX7_endOf_208 : decode cX7_endOf 208 = .ok (.iload_n 1, 1) := by decide +kernel
theorem dX7_endOf_209 : decode cX7_endOf 209 = .ok (.iload_n 2, 1) := by decide +kernel
theorem dX7_endOf_210 : decode cX7_endOf 210 = .ok (.iload_n 3, 1) := by decide +kernel
theorem dX7_endOf_211 : decode cX7_endOf 211 = .ok (.invokevirtual 136, 3) := by decide +kernel
theorem dX7_endOf_214 : decode cX7_endOf 214 = .ok (.lmul, 1) := by decide +kernel
theorem dX7_endOf_215 : decode cX7_endOf 215 = .ok (.lreturn, 1) := by decide +kernel
theorem dX7_goes_0 : decode cX7_goes 0 = .ok (.aload_n 0, 1) := by decide +kernel
theorem dX7_goes_1 : decode cX7_goes 1 = .ok (.getfield 45, 3) := by decide +kernel
theorem dX7_goes_4 : decode cX7_goes 4 = .ok (.aload_n 0, 1) := by decide +kernel
theorem dX7_goes_5 : decode cX7_goes 5 = .ok (.getfield 150, 3) := by decide +kernel
theorem dX7_goes_8 : decode cX7_goes 8 = .ok (.iload_n 1, 1) := by decide +kernel
theorem dX7_goes_9 : decode cX7_goes 9 = .ok (.iastore, 1) := by decide +kernel
theorem dX7_goes_10 : decode cX7_goes 10 = .ok (.aload_n 0, 1) := by decide +kernel
theorem dX7_goes_11 : decode cX7_goes 11 = .ok (.getfield 48, 3) := by decide +kernel
theorem dX7_goes_14 : decode cX7_goes 14 = .ok (.aload_n 0, 1) := by decide +kernel
theorem dX7_goes_15 : decode cX7_goes 15 = .ok (.getfield 150, 3) := by decide +kernel
theorem dX7_goes_18 : decode cX7_goes 18 = .ok (.iload_n 2, 1) := by decide +kernel
theorem dX7_goes_19 : decode cX7_goes 19 = .ok (.iastore, 1) := by decide +kernel
theorem dX7_goes_20 : decode cX7_goes 20 = .ok (.aload_n 0, 1) := by decide +kernel
theorem dX7_goes_21 : decode cX7_goes 21 = .ok (.getfield 51, 3) := by decide +kernel
theorem dX7_goes_24 : decode cX7_goes 24 = .ok (.aload_n 0, 1) := by decide +kernel
theorem dX7_goes_25 : decode cX7_goes 25 = .ok (.getfield 150, 3) := by decide +kernel
theorem dX7_goes_28 : decode cX7_goes 28 = .ok (.iload_n 3, 1) := by decide +kernel
theorem dX7_goes_29 : decode cX7_goes 29 = .ok (.iastore, 1) := by decide +kernel
theorem dX7_goes_30 : decode cX7_goes 30 = .ok (.aload_n 0, 1) := by decide +kernel
theorem dX7_goes_31 : decode cX7_goes 31 = .ok (.dup, 1) := by decide +kernel
theorem dX7_goes_32 : decode cX7_goes 32 = .ok (.getfield 150, 3) := by decide +kernel
theorem dX7_goes_35 : decode cX7_goes 35 = .ok (.iconst 1, 1) := by decide +kernel
theorem dX7_goes_36 : decode cX7_goes 36 = .ok (.iadd, 1) := by decide +kernel
theorem dX7_goes_37 : decode cX7_goes 37 = .ok (.putfield 150, 3) := by decide +kernel
theorem dX7_goes_40 : decode cX7_goes 40 = .ok (.return_, 1) := by decide +kernel
theorem dX7_goAcross_0 : decode cX7_goAcross 0 = .ok (.aload_n 0, 1) := by decide +kernel
theorem dX7_goAcross_1 : decode cX7_goAcross 1 = .ok (.lconst 0, 1) := by decide +kernel
theorem dX7_goAcross_2 : decode cX7_goAcross 2 = .ok (.putfield 153, 3) := by decide +kernel
theorem dX7_goAcross_5 : decode cX7_goAcross 5 = .ok (.aload_n 0, 1) := by decide +kernel
theorem dX7_goAcross_6 : decode cX7_goAcross 6 = .ok (.lconst 0, 1) := by decide +kernel
theorem dX7_goAcross_7 : decode cX7_goAcross 7 = .ok (.putfield 157, 3) := by decide +kernel
theorem dX7_goAcross_10 : decode cX7_goAcross 10 = .ok (.aload_n 0, 1) := by decide +kernel
theorem dX7_goAcross_11 : decode cX7_goAcross 11 = .ok (.iconst 0, 1) := by decide +kernel
theorem dX7_goAcross_12 : decode cX7_goAcross 12 = .ok (.putfield 150, 3) := by decide +kernel
theorem dX7_goAcross_15 : decode cX7_goAcross 15 = .ok (.iconst 1, 1) := by decide +kernel
theorem dX7_goAcross_16 : decode cX7_goAcross 16 = .ok (.istore 5, 2) := by decide +kernel
theorem dX7_goAcross_18 : decode cX7_goAcross 18 = .ok (.aload_n 0, 1) := by decide +kernel
theorem dX7_goAcross_19 : decode cX7_goAcross 19 = .ok (.getfield 36, 3) := by decide +kernel
theorem dX7_goAcross_22 : decode cX7_goAcross 22 = .ok (.iconst 0, 1) := by decide +kernel
theorem dX7_goAcross_23 : decode cX7_goAcross 23 = .ok (.iconst 0, 1) := by decide +kernel
theorem dX7_goAcross_24 : decode cX7_goAcross 24 = .ok (.iastore, 1) := by decide +kernel
theorem dX7_goAcross_25 : decode cX7_goAcross 25 = .ok (.aload_n 0, 1) := by decide +kernel
theorem dX7_goAcross_26 : decode cX7_goAcross 26 = .ok (.getfield 39, 3) := by decide +kernel
theorem dX7_goAcross_29 : decode cX7_goAcross 29 = .ok (.iconst 0, 1) := by decide +kernel
theorem dX7_goAcross_30 : decode cX7_goAcross 30 = .ok (.iconst 0, 1) := by decide +kernel
theorem dX7_goAcross_31 : decode cX7_goAcross 31 = .ok (.iastore, 1) := by decide +kernel
theorem dX7_goAcross_32 : decode cX7_goAcross 32 = .ok (.aload_n 0, 1) := by decide +kernel
theorem dX7_goAcross_33 : decode cX7_goAcross 33 = .ok (.getfield 42, 3) := by decide +kernel
theorem dX7_goAcross_36 : decode cX7_goAcross 36 = .ok (.iconst 0, 1) := by decide +kernel
theorem dX7_goAcross_37 : decode cX7_goAcross 37 = .ok (.iconst 0, 1) := by decide +kernel
theorem dX7_goAcross_38 : decode cX7_goAcross 38 = .ok (.iastore, 1) := by decide +kernel
theorem dX7_goAcross_39 : decode cX7_goAcross 39 = .ok (.iload 5, 2) := by decide +kernel
theorem dX7_goAcross_41 : decode cX7_goAcross 41 = .ok (.ifCond .le 302, 3) := by decide +kernel
theorem dX7_goAcross_44 : decode cX7_goAcross 44 = .ok (.iinc 5 (-1), 3) := by decide +kernel
theorem dX7_goAcross_47 : decode cX7_goAcross 47 = .ok (.aload_n 0, 1) := by decide +kernel
theorem dX7_goAcross_48 : decode cX7_goAcross 48 = .ok (.getfield 36, 3) := by decide +kernel
theorem dX7_goAcross_51 : decode cX7_goAcross 51 = .ok (.iload 5, 2) := by decide +kernel
theorem dX7_goAcross_53 : decode cX7_goAcross 53 = .ok (.iaload, 1) := by decide +kernel
theorem dX7_goAcross_54 : decode cX7_goAcross 54 = .ok (.istore 6, 2) := by decide +kernel
theorem dX7_goAcross_56 : decode cX7_goAcross 56 = .ok (.aload_n 0, 1) := by decide +kernel
theorem dX7_goAcross_57 : decode cX7_goAcross 57 = .ok (.getfield 39, 3) := by decide +kernel
theorem dX7_goAcross_60 : decode cX7_goAcross 60 = .ok (.iload 5, 2) := by decide +kernel
theorem dX7_goAcross_62 : decode cX7_goAcross 62 = .ok (.iaload, 1) := by decide +kernel
theorem dX7_goAcross_63 : decode cX7_goAcross 63 = .ok (.istore 7, 2) := by decide +kernel
theorem dX7_goAcross_65 : decode cX7_goAcross 65 = .ok (.aload_n 0, 1) := by decide +kernel
theorem dX7_goAcross_66 : decode cX7_goAcross 66 = .ok (.getfield 42, 3) := by decide +kernel
theorem dX7_goAcross_69 : decode cX7_goAcross 69 = .ok (.iload 5, 2) := by decide +kernel
theorem dX7_goAcross_71 : decode cX7_goAcross 71 = .ok (.iaload, 1) := by decide +kernel
theorem dX7_goAcross_72 : decode cX7_goAcross 72 = .ok (.istore 8, 2) := by decide +kernel
theorem dX7_goAcross_74 : decode cX7_goAcross 74 = .ok (.ldc2_w 134, 3) := by decide +kernel
theorem dX7_goAcross_77 : decode cX7_goAcross 77 = .ok (.bipush 64, 2) := by decide +kernel
theorem dX7_goAcross_79 : decode cX7_goAcross 79 = .ok (.iload 6, 2) := by decide +kernel
theorem dX7_goAcross_81 : decode cX7_goAcross 81 = .ok (.ishr, 1) := by decide +kernel
theorem dX7_goAcross_82 : decode cX7_goAcross 82 = .ok (.i2l, 1) := by decide +kernel
theorem dX7_goAcross_83 : decode cX7_goAcross 83 = .ok (.lmul, 1) := by decide +kernel
theorem dX7_goAcross_84 : decode cX7_goAcross 84 = .ok (.iload 4, 2) := by decide +kernel
theorem dX7_goAcross_86 : decode cX7_goAcross 86 = .ok (.i2l, 1) := by decide +kernel
theorem dX7_goAcross_87 : decode cX7_goAcross 87 = .ok (.lmul, 1) := by decide +kernel
theorem dX7_goAcross_88 : decode cX7_goAcross 88 = .ok (.lstore 9, 2) := by decide +kernel
theorem dX7_goAcross_90 : decode cX7_goAcross 90 = .ok (.aload_n 0, 1) := by decide +kernel
theorem dX7_goAcross_91 : decode cX7_goAcross 91 = .ok (.iload 6, 2) := by decide +kernel
theorem dX7_goAcross_93 : decode cX7_goAcross 93 = .ok (.iload 7, 2) := by decide +kernel
theorem dX7_goAcross_95 : decode cX7_goAcross 95 = .ok (.iload 8, 2) := by decide +kernel
theorem dX7_goAcross_97 : decode cX7_goAcross 97 = .ok (.invokevirtual 117, 3) := by decide +kernel
theorem dX7_goAcross_100 : decode cX7_goAcross 100 = .ok (.ifCond .le 240, 3) := by decide +kernel
theorem dX7_goAcross_103 : decode cX7_goAcross 103 = .ok (.ldc2_w 134, 3) := by decide +kernel
theorem dX7_goAcross_106 : decode cX7_goAcross 106 = .ok (.iload_n 1, 1) := by decide +kernel
theorem dX7_goAcross_107 : decode cX7_goAcross 107 = .ok (.i2l, 1) := by decide +kernel
theorem dX7_goAcross_108 : decode cX7_goAcross 108 = .ok (.lmul, 1) := by decide +kernel
theorem dX7_goAcross_109 : decode cX7_goAcross 109 = .ok (.iload 6, 2) := by decide +kernel
theorem dX7_goAcross_111 : decode cX7_goAcross 111 = .ok (.iload 7, 2) := by decide +kernel
theorem dX7_goAcross_113 : decode cX7_goAcross 113 = .ok (.invokestatic 127, 3) := by decide +kernel
theorem dX7_goAcross_116 : decode cX7_goAcross 116 = .ok (.i2l, 1) := by decide +kernel
theorem dX7_goAcross_117 : decode cX7_goAcross 117 = .ok (.lsub, 1) := by decide +kernel
theorem dX7_goAcross_118 : decode cX7_goAcross 118 = .ok (.invokestatic 146, 3) := by decide +kernel
theorem dX7_goAcross_121 : decode cX7_goAcross 121 = .ok (.lload 9, 2) := by decide +kernel
theorem dX7_goAcross_123 : decode cX7_goAcross 123 = .ok (.lcmp, 1) := by decide +kernel
theorem dX7_goAcross_124 : decode cX7_goAcross 124 = .ok (.ifCond .ge 27, 3) := by decide +kernel
theorem dX7_goAcross_127 : decode cX7_goAcross 127 = .ok (.ldc2_w 134, 3) := by decide +kernel
theorem dX7_goAcross_130 : decode cX7_goAcross 130 = .ok (.iload_n 2, 1) := by decide +kernel
theorem dX7_goAcross_131 : decode cX7_goAcross 131 = .ok (.i2l, 1) := by decide +kernel
theorem dX7_goAcross_132 : decode cX7_goAcross 132 = .ok (.lmul, 1) := by decide +kernel
theorem dX7_goAcross_133 : decode cX7_goAcross 133 = .ok (.iload 6, 2) := by decide +kernel
theorem dX7_goAcross_135 : decode cX7_goAcross 135 = .ok (.iload 8, 2) := by decide +kernel
theorem dX7_goAcross_137 : decode cX7_goAcross 137 = .ok (.invokestatic 127, 3) := by decide +kernel
theorem dX7_goAcross_140 : decode cX7_goAcross 140 = .ok (.i2l, 1) := by decide +kernel
theorem dX7_goAcross_141 : decode cX7_goAcross 141 = .ok (.lsub, 1) := by decide +kernel
theorem dX7_goAcross_142 : decode cX7_goAcross 142 = .ok (.invokestatic 146, 3) := by decide +kernel
theorem dX7_goAcross_145 : decode cX7_goAcross 145 = .ok (.lload 9, 2) := by decide +kernel
theorem dX7_goAcross_147 : decode cX7_goAcross 147 = .ok (.lcmp, 1) := by decide +kernel
theorem dX7_goAcross_148 : decode cX7_goAcross 148 = .ok (.ifCond .lt 60, 3) := by decide +kernel
theorem dX7_goAcross_151 : decode cX7_goAcross 151 = .ok (.aload_n 0, 1) := by decide +kernel
theorem dX7_goAcross_152 : decode cX7_goAcross 152 = .ok (.dup, 1) := by decide +kernel
theorem dX7_goAcross_153 : decode cX7_goAcross 153 = .ok (.getfield 153, 3) := by decide +kernel
theorem dX7_goAcross_156 : decode cX7_goAcross 156 = .ok (.aload_n 0, 1) := by decide +kernel
theorem dX7_goAcross_157 : decode cX7_goAcross 157 = .ok (.iload 6, 2) := by decide +kernel
theorem dX7_goAcross_159 : decode cX7_goAcross 159 = .ok (.iload 7, 2) := by decide +kernel
theorem dX7_goAcross_161 : decode cX7_goAcross 161 = .ok (.iload 8, 2) := by decide +kernel
theorem dX7_goAcross_163 : decode cX7_goAcross 163 = .ok (.iload_n 1, 1) := by decide +kernel
theorem dX7_goAcross_164 : decode cX7_goAcross 164 = .ok (.iload_n 2, 1) := by decide +kernel
theorem dX7_goAcross_165 : decode cX7_goAcross 165 = .ok (.iload_n 3, 1) := by decide +kernel
theorem dX7_goAcross_166 : decode cX7_goAcross 166 = .ok (.invokevirtual 160, 3) := by decide +kernel
theorem dX7_goAcross_169 : decode cX7_goAcross 169 = .ok (.ladd, 1) := by decide +kernel
theorem dX7_goAcross_170 : decode cX7_goAcross 170 = .ok (.putfield 153, 3) := by decide +kernel
theorem dX7_goAcross_173 : decode cX7_goAcross 173 = .ok (.aload_n 0, 1) := by decide +kernel
theorem dX7_goAcross_174 : decode cX7_goAcross 174 = .ok (.dup, 1) := by decide +kernel
theorem dX7_goAcross_175 : decode cX7_goAcross 175 = .ok (.getfield 157, 3) := by decide +kernel
theorem dX7_goAcross_178 : decode cX7_goAcross 178 = .ok (.aload_n 0, 1) := by decide +kernel
theorem dX7_goAcross_179 : decode cX7_goAcross 179 = .ok (.iload 6, 2) := by decide +kernel
theorem dX7_goAcross_181 : decode cX7_goAcross 181 = .ok (.iload 7, 2) := by decide +kernel
theorem dX7_goAcross_183 : decode cX7_goAcross 183 = .ok (.iload 8, 2) := by decide +kernel
theorem dX7_goAcross_185 : decode cX7_goAcross 185 = .ok (.iload_n 1, 1) := by decide +kernel
theorem dX7_goAcross_186 : decode cX7_goAcross 186 = .ok (.iload_n 2, 1) := by decide +kernel
theorem dX7_goAcross_187 : decode cX7_goAcross 187 = .ok (.iload_n 3, 1) := by decide +kernel
theorem dX7_goAcross_188 : decode cX7_goAcross 188 = .ok (.invokevirtual 164, 3) := by decide +kernel
theorem dX7_goAcross_191 : decode cX7_goAcross 191 = .ok (.ladd, 1) := by decide +kernel
theorem dX7_goAcross_192 : decode cX7_goAcross 192 = .ok (.putfield 157, 3) := by decide +kernel
theorem dX7_goAcross_195 : decode cX7_goAcross 195 = .ok (.aload_n 0, 1) := by decide +kernel
theorem dX7_goAcross_196 : decode cX7_goAcross 196 = .ok (.iload 6, 2) := by decide +kernel
theorem dX7_goAcross_198 : decode cX7_goAcross 198 = .ok (.iload 7, 2) := by decide +kernel
theorem dX7_goAcross_200 : decode cX7_goAcross 200 = .ok (.iload 8, 2) := by decide +kernel
theorem dX7_goAcross_202 : decode cX7_goAcross 202 = .ok (.invokevirtual 167, 3) := by decide +kernel
theorem dX7_goAcross_205 : decode cX7_goAcross 205 = .ok (.goto 135, 3) := by decide +kernel
theorem dX7_goAcross_208 : decode cX7_goAcross 208 = .ok (.aload_n 0, 1) := by decide +kernel
theorem dX7_goAcross_209 : decode cX7_goAcross 209 = .ok (.iload 6, 2) := by decide +kernel
theorem dX7_goAcross_211 : decode cX7_goAcross 211 = .ok (.iload 7, 2) := by decide +kernel
theorem dX7_goAcross_213 : decode cX7_goAcross 213 = .ok (.iload 8, 2) := by decide +kernel
theorem dX7_goAcross_215 : decode cX7_goAcross 215 = .ok (.invokevirtual 123, 3) := by decide +kernel
theorem dX7_goAcross_218 : decode cX7_goAcross 218 = .ok (.ifCond .eq 66, 3) := by decide +kernel
theorem dX7_goAcross_221 : decode cX7_goAcross 221 = .ok (.iconst 3, 1) := by decide +kernel
theorem dX7_goAcross_222 : decode cX7_goAcross 222 = .ok (.istore 11, 2) := by decide +kernel
theorem dX7_goAcross_224 : decode cX7_goAcross 224 = .ok (.iload 11, 2) := by decide +kernel
theorem dX7_goAcross_226 : decode cX7_goAcross 226 = .ok (.ifCond .lt 55, 3) := by decide +kernel
theorem dX7_goAcross_229 : decode cX7_goAcross 229 = .ok (.aload_n 0, 1) := by decide +kernel
theorem dX7_goAcross_230 : decode cX7_goAcross 230 = .ok (.getfield 36, 3) := by decide +kernel
theorem dX7_goAcross_233 : decode cX7_goAcross 233 = .ok (.iload 5, 2) := by decide +kernel
theorem dX7_goAcross_235 : decode cX7_goAcross 235 = .ok (.iload 6, 2) := by decide +kernel
theorem dX7_goAcross_237 : decode cX7_goAcross 237 = .ok (.iconst 1, 1) := by decide +kernel
theorem dX7_goAcross_238 : decode cX7_goAcross 238 = .ok (.iadd, 1) := by decide +kernel
theorem dX7_goAcross_239 : decode cX7_goAcross 239 = .ok (.iastore, 1) := by decide +kernel
theorem dX7_goAcross_240 : decode cX7_goAcross 240 = .ok (.aload_n 0, 1) := by decide +kernel
theorem dX7_goAcross_241 : decode cX7_goAcross 241 = .ok (.getfield 39, 3) := by decide +kernel
theorem dX7_goAcross_244 : decode cX7_goAcross 244 = .ok (.iload 5, 2) := by decide +kernel
theorem dX7_goAcross_246 : decode cX7_goAcross 246 = .ok (.iconst 2, 1) := by decide +kernel
theorem dX7_goAcross_247 : decode cX7_goAcross 247 = .ok (.iload 7, 2) := by decide +kernel
theorem dX7_goAcross_249 : decode cX7_goAcross 249 = .ok (.imul, 1) := by decide +kernel
theorem dX7_goAcross_250 : decode cX7_goAcross 250 = .ok (.iload 11, 2) := by decide +kernel
theorem dX7_goAcross_252 : decode cX7_goAcross 252 = .ok (.iconst 2, 1) := by decide +kernel
theorem dX7_goAcross_253 : decode cX7_goAcross 253 = .ok (.irem, 1) := by decide +kernel
theorem dX7_goAcross_254 : decode cX7_goAcross 254 = .ok (.iadd, 1) := by decide +kernel
theorem dX7_goAcross_255 : decode cX7_goAcross 255 = .ok (.iastore, 1) := by decide +kernel
theorem dX7_goAcross_256 : decode cX7_goAcross 256 = .ok (.aload_n 0, 1) := by decide +kernel
theorem dX7_goAcross_257 : decode cX7_goAcross 257 = .ok (.getfield 42, 3) := by decide +kernel
theorem dX7_goAcross_260 : decode cX7_goAcross 260 = .ok (.iload 5, 2) := by decide +kernel
theorem dX7_goAcross_262 : decode cX7_goAcross 262 = .ok (.iconst 2, 1) := by decide +kernel
theorem dX7_goAcross_263 : decode cX7_goAcross 263 = .ok (.iload 8, 2) := by decide +kernel
theorem dX7_goAcross_265 : decode cX7_goAcross 265 = .ok (.imul, 1) := by decide +kernel
theorem dX7_goAcross_266 : decode cX7_goAcross 266 = .ok (.iload 11, 2) := by decide +kernel
theorem dX7_goAcross_268 : decode cX7_goAcross 268 = .ok (.iconst 2, 1) := by decide +kernel
theorem dX7_goAcross_269 : decode cX7_goAcross 269 = .ok (.idiv, 1) := by decide +kernel
theorem dX7_goAcross_270 : decode cX7_goAcross 270 = .ok (.iadd, 1) := by decide +kernel
theorem dX7_goAcross_271 : decode cX7_goAcross 271 = .ok (.iastore, 1) := by decide +kernel
theorem dX7_goAcross_272 : decode cX7_goAcross 272 = .ok (.iinc 5 1, 3) := by decide +kernel
theorem dX7_goAcross_275 : decode cX7_goAcross 275 = .ok (.iinc 11 (-1), 3) := by decide +kernel
theorem dX7_goAcross_278 : decode cX7_goAcross 278 = .ok (.goto (-54), 3) := by decide +kernel
theorem dX7_goAcross_281 : decode cX7_goAcross 281 = .ok (.goto 59, 3) := by decide +kernel
theorem dX7_goAcross_284 : decode cX7_goAcross 284 = .ok (.iconst 0, 1) := by decide +kernel
theorem dX7_goAcross_285 : decode cX7_goAcross 285 = .ok (.istore 11, 2) := by decide +kernel
theorem dX7_goAcross_287 : decode cX7_goAcross 287 = .ok (.iload 11, 2) := by decide +kernel
theorem dX7_goAcross_289 : decode cX7_goAcross 289 = .ok (.bipush 40, 2) := by decide +kernel
theorem dX7_goAcross_291 : decode cX7_goAcross 291 = .ok (.if_icmp .ge 49, 3) := by decide +kernel
theorem dX7_goAcross_294 : decode cX7_goAcross 294 = .ok (.aload_n 0, 1) := by decide +kernel
theorem dX7_goAcross_295 : decode cX7_goAcross 295 = .ok (.iload 11, 2) := by decide +kernel
theorem dX7_goAcross_297 : decode cX7_goAcross 297 = .ok (.iload 6, 2) := by decide +kernel
theorem dX7_goAcross_299 : decode cX7_goAcross 299 = .ok (.iload 7, 2) := by decide +kernel
theorem dX7_goAcross_301 : decode cX7_goAcross 301 = .ok (.iload 8, 2) := by decide +kernel
theorem dX7_goAcross_303 : decode cX7_goAcross 303 = .ok (.invokevirtual 113, 3) := by decide +kernel
theorem dX7_goAcross_306 : decode cX7_goAcross 306 = .ok (.ifCond .eq 28, 3) := by decide +kernel
theorem dX7_goAcross_309 : decode cX7_goAcross 309 = .ok (.aload_n 0, 1) := by decide +kernel
theorem dX7_goAcross_310 : decode cX7_goAcross 310 = .ok (.dup, 1) := by decide +kernel
theorem dX7_goAcross_311 : decode cX7_goAcross 311 = .ok (.getfield 153, 3) := by decide +kernel
theorem dX7_goAcross_314 : decode cX7_goAcross 314 = .ok (.aload_n 0, 1) := by decide +kernel
theorem dX7_goAcross_315 : decode cX7_goAcross 315 = .ok (.iload 11, 2) := by decide +kernel
theorem dX7_goAcross_317 : decode cX7_goAcross 317 = .ok (.iload_n 1, 1) := by decide +kernel
theorem dX7_goAcross_318 : decode cX7_goAcross 318 = .ok (.iload_n 2, 1) := by decide +kernel
theorem dX7_goAcross_319 : decode cX7_goAcross 319 = .ok (.invokevirtual 103, 3) := by decide +kernel
theorem dX7_goAcross_322 : decode cX7_goAcross 322 = .ok (.ladd, 1) := by decide +kernel
theorem dX7_goAcross_323 : decode cX7_goAcross 323 = .ok (.putfield 153, 3) := by decide +kernel
theorem dX7_goAcross_326 : decode cX7_goAcross 326 = .ok (.aload_n 0, 1) := by decide +kernel
theorem dX7_goAcross_327 : decode cX7_goAcross 327 = .ok (.iconst (-1), 1) := by decide +kernel
theorem dX7_goAcross_328 : decode cX7_goAcross 328 = .ok (.iload 11, 2) := by decide +kernel
theorem dX7_goAcross_330 : decode cX7_goAcross 330 = .ok (.iconst (-1), 1) := by decide +kernel
theorem dX7_goAcross_331 : decode cX7_goAcross 331 = .ok (.invokevirtual 167, 3) := by decide +kernel
theorem dX7_goAcross_334 : decode cX7_goAcross 334 = .ok (.iinc 11 1, 3) := by decide +kernel
theorem dX7_goAcross_337 : decode cX7_goAcross 337 = .ok (.goto (-50), 3) := by decide +kernel
theorem dX7_goAcross_340 : decode cX7_goAcross 340 = .ok (.goto (-301), 3) := by decide +kernel
theorem dX7_goAcross_343 : decode cX7_goAcross 343 = .ok (.return_, 1) := by decide +kernel
theorem dX7_across_0 : decode cX7_across 0 = .ok (.iload_n 1, 1) := by decide +kernel
theorem dX7_across_1 : decode cX7_across 1 = .ok (.iload_n 2, 1) := by decide +kernel
theorem dX7_across_2 : decode cX7_across 2 = .ok (.invokestatic 68, 3) := by decide +kernel
theorem dX7_across_5 : decode cX7_across 5 = .ok (.ifCond .eq 41, 3) := by decide +kernel
theorem dX7_across_8 : decode cX7_across 8 = .ok (.iload_n 3, 1) := by decide +kernel
theorem dX7_across_9 : decode cX7_across 9 = .ok (.i2l, 1) := by decide +kernel
theorem dX7_across_10 : decode cX7_across 10 = .ok (.lconst 0, 1) := by decide +kernel
theorem dX7_across_11 : decode cX7_across 11 = .ok (.ldc2_w 171, 3) := by decide +kernel
theorem dX7_across_14 : decode cX7_across 14 = .ok (.invokestatic 62, 3) := by decide +kernel
theorem dX7_across_17 : decode cX7_across 17 = .ok (.ifCond .eq 29, 3) := by decide +kernel
theorem dX7_across_20 : decode cX7_across 20 = .ok (.iload 4, 2) := by decide +kernel
theorem dX7_across_22 : decode cX7_across 22 = .ok (.i2l, 1) := by decide +kernel
theorem dX7_across_23 : decode cX7_across 23 = .ok (.lconst 1, 1) := by decide +kernel
theorem dX7_across_24 : decode cX7_across 24 = .ok (.ldc2_w 171, 3) := by decide +kernel
theorem dX7_across_27 : decode cX7_across 27 = .ok (.invokestatic 62, 3) := by decide +kernel
theorem dX7_across_30 : decode cX7_across 30 = .ok (.ifCond .eq 16, 3) := by decide +kernel
theorem dX7_across_33 : decode cX7_across 33 = .ok (.iload 5, 2) := by decide +kernel
theorem dX7_across_35 : decode cX7_across 35 = .ok (.i2l, 1) := by decide +kernel
theorem dX7_across_36 : decode cX7_across 36 = .ok (.lconst 0, 1) := by decide +kernel
theorem dX7_across_37 : decode cX7_across 37 = .ok (.ldc2_w 134, 3) := by decide +kernel
theorem dX7_across_40 : decode cX7_across 40 = .ok (.invokestatic 62, 3) := by decide +kernel
theorem dX7_across_43 : decode cX7_across 43 = .ok (.ifCond .ne 7, 3) := by decide +kernel
theorem dX7_across_46 : decode cX7_across 46 = .ok (.ldc2_w 111, 3) := by decide +kernel
theorem dX7_across_49 : decode cX7_across 49 = .ok (.lreturn, 1) := by decide +kernel
theorem dX7_across_50 : decode cX7_across 50 = .ok (.aload_n 0, 1) := by decide +kernel
theorem dX7_across_51 : decode cX7_across 51 = .ok (.iload_n 1, 1) := by decide +kernel
theorem dX7_across_52 : decode cX7_across 52 = .ok (.iload_n 2, 1) := by decide +kernel
theorem dX7_across_53 : decode cX7_across 53 = .ok (.iload_n 3, 1) := by decide +kernel
theorem dX7_across_54 : decode cX7_across 54 = .ok (.iload 4, 2) := by decide +kernel
theorem dX7_across_56 : decode cX7_across 56 = .ok (.invokevirtual 173, 3) := by decide +kernel
theorem dX7_across_59 : decode cX7_across 59 = .ok (.iload 5, 2) := by decide +kernel
theorem dX7_across_61 : decode cX7_across 61 = .ok (.ifCond .ne 10, 3) := by decide +kernel
theorem dX7_across_64 : decode cX7_across 64 = .ok (.aload_n 0, 1) := by decide +kernel
theorem dX7_across_65 : decode cX7_across 65 = .ok (.getfield 153, 3) := by decide +kernel
theorem dX7_across_68 : decode cX7_across 68 = .ok (.goto 21, 3) := by decide +kernel
theorem dX7_across_71 : decode cX7_across 71 = .ok (.iload 5, 2) := by decide +kernel
theorem dX7_across_73 : decode cX7_across 73 = .ok (.iconst 1, 1) := by decide +kernel
theorem dX7_across_74 : decode cX7_across 74 = .ok (.if_icmp .ne 10, 3) := by decide +kernel
theorem dX7_across_77 : decode cX7_across 77 = .ok (.aload_n 0, 1) := by decide +kernel
theorem dX7_across_78 : decode cX7_across 78 = .ok (.getfield 157, 3) := by decide +kernel
theorem dX7_across_81 : decode cX7_across 81 = .ok (.goto 8, 3) := by decide +kernel
theorem dX7_across_84 : decode cX7_across 84 = .ok (.aload_n 0, 1) := by decide +kernel
theorem dX7_across_85 : decode cX7_across 85 = .ok (.getfield 150, 3) := by decide +kernel
theorem dX7_across_88 : decode cX7_across 88 = .ok (.i2l, 1) := by decide +kernel
theorem dX7_across_89 : decode cX7_across 89 = .ok (.lreturn, 1) := by decide +kernel
theorem dX7_order_0 : decode cX7_order 0 = .ok (.iload_n 1, 1) := by decide +kernel
theorem dX7_order_1 : decode cX7_order 1 = .ok (.iload_n 2, 1) := by decide +kernel
theorem dX7_order_2 : decode cX7_order 2 = .ok (.invokestatic 68, 3) := by decide +kernel
theorem dX7_order_5 : decode cX7_order 5 = .ok (.ifCond .eq 22, 3) := by decide +kernel
theorem dX7_order_8 : decode cX7_order 8 = .ok (.iload_n 3, 1) := by decide +kernel
theorem dX7_order_9 : decode cX7_order 9 = .ok (.i2l, 1) := by decide +kernel
theorem dX7_order_10 : decode cX7_order 10 = .ok (.lconst 1, 1) := by decide +kernel
theorem dX7_order_11 : decode cX7_order 11 = .ok (.ldc2_w 171, 3) := by decide +kernel
theorem dX7_order_14 : decode cX7_order 14 = .ok (.invokestatic 62, 3) := by decide +kernel
theorem dX7_order_17 : decode cX7_order 17 = .ok (.ifCond .eq 10, 3) := by decide +kernel
theorem dX7_order_20 : decode cX7_order 20 = .ok (.lload 4, 2) := by decide +kernel
theorem dX7_order_22 : decode cX7_order 22 = .ok (.lconst 0, 1) := by decide +kernel
theorem dX7_order_23 : decode cX7_order 23 = .ok (.lcmp, 1) := by decide +kernel
theorem dX7_order_24 : decode cX7_order 24 = .ok (.ifCond .ge 6, 3) := by decide +kernel
theorem dX7_order_27 : decode cX7_order 27 = .ok (.bipush (-2), 2) := by decide +kernel
theorem dX7_order_29 : decode cX7_order 29 = .ok (.ireturn, 1) := by decide +kernel
theorem dX7_order_30 : decode cX7_order 30 = .ok (.iconst 0, 1) := by decide +kernel
theorem dX7_order_31 : decode cX7_order 31 = .ok (.istore 6, 2) := by decide +kernel
theorem dX7_order_33 : decode cX7_order 33 = .ok (.aload_n 0, 1) := by decide +kernel
theorem dX7_order_34 : decode cX7_order 34 = .ok (.iload_n 1, 1) := by decide +kernel
theorem dX7_order_35 : decode cX7_order 35 = .ok (.iload_n 2, 1) := by decide +kernel
theorem dX7_order_36 : decode cX7_order 36 = .ok (.iload 6, 2) := by decide +kernel
theorem dX7_order_38 : decode cX7_order 38 = .ok (.iload_n 3, 1) := by decide +kernel
theorem dX7_order_39 : decode cX7_order 39 = .ok (.invokevirtual 173, 3) := by decide +kernel
theorem dX7_order_42 : decode cX7_order 42 = .ok (.aload_n 0, 1) := by decide +kernel
theorem dX7_order_43 : decode cX7_order 43 = .ok (.getfield 157, 3) := by decide +kernel
theorem dX7_order_46 : decode cX7_order 46 = .ok (.lload 4, 2) := by decide +kernel
theorem dX7_order_48 : decode cX7_order 48 = .ok (.lcmp, 1) := by decide +kernel
theorem dX7_order_49 : decode cX7_order 49 = .ok (.ifCond .le 18, 3) := by decide +kernel
theorem dX7_order_52 : decode cX7_order 52 = .ok (.iinc 6 1, 3) := by decide +kernel
theorem dX7_order_55 : decode cX7_order 55 = .ok (.aload_n 0, 1) := by decide +kernel
theorem dX7_order_56 : decode cX7_order 56 = .ok (.iload_n 1, 1) := by decide +kernel
theorem dX7_order_57 : decode cX7_order 57 = .ok (.iload_n 2, 1) := by decide +kernel
theorem dX7_order_58 : decode cX7_order 58 = .ok (.iload 6, 2) := by decide +kernel
theorem dX7_order_60 : decode cX7_order 60 = .ok (.iload_n 3, 1) := by decide +kernel
theorem dX7_order_61 : decode cX7_order 61 = .ok (.invokevirtual 173, 3) := by decide +kernel
theorem dX7_order_64 : decode cX7_order 64 = .ok (.goto (-22), 3) := by decide +kernel
theorem dX7_order_67 : decode cX7_order 67 = .ok (.iload 6, 2) := by decide +kernel
theorem dX7_order_69 : decode cX7_order 69 = .ok (.ireturn, 1) := by decide +kernel
theorem dX7_way_0 : decode cX7_way 0 = .ok (.iload_n 1, 1) := by decide +kernel
theorem dX7_way_1 : decode cX7_way 1 = .ok (.iload_n 2, 1) := by decide +kernel
theorem dX7_way_2 : decode cX7_way 2 = .ok (.invokestatic 68, 3) := by decide +kernel
theorem dX7_way_5 : decode cX7_way 5 = .ok (.ifCond .eq 33, 3) := by decide +kernel
theorem dX7_way_8 : decode cX7_way 8 = .ok (.iload_n 3, 1) := by decide +kernel
theorem dX7_way_9 : decode cX7_way 9 = .ok (.i2l, 1) := by decide +kernel
theorem dX7_way_10 : decode cX7_way 10 = .ok (.lconst 1, 1) := by decide +kernel
theorem dX7_way_11 : decode cX7_way 11 = .ok (.ldc2_w 171, 3) := by decide +kernel
theorem dX7_way_14 : decode cX7_way 14 = .ok (.invokestatic 62, 3) := by decide +kernel
theorem dX7_way_17 : decode cX7_way 17 = .ok (.ifCond .eq 21, 3) := by decide +kernel
theorem dX7_way_20 : decode cX7_way 20 = .ok (.iload 4, 2) := by decide +kernel
theorem dX7_way_22 : decode cX7_way 22 = .ok (.ifCond .lt 16, 3) := by decide +kernel
theorem dX7_way_25 : decode cX7_way 25 = .ok (.iload 5, 2) := by decide +kernel
theorem dX7_way_27 : decode cX7_way 27 = .ok (.i2l, 1) := by decide +kernel
theorem dX7_way_28 : decode cX7_way 28 = .ok (.lconst 0, 1) := by decide +kernel
theorem dX7_way_29 : decode cX7_way 29 = .ok (.ldc2_w 134, 3) := by decide +kernel
theorem dX7_way_32 : decode cX7_way 32 = .ok (.invokestatic 62, 3) := by decide +kernel
theorem dX7_way_35 : decode cX7_way 35 = .ok (.ifCond .ne 6, 3) := by decide +kernel
theorem dX7_way_38 : decode cX7_way 38 = .ok (.bipush (-2), 2) := by decide +kernel
theorem dX7_way_40 : decode cX7_way 40 = .ok (.ireturn, 1) := by decide +kernel
theorem dX7_way_41 : decode cX7_way 41 = .ok (.aload_n 0, 1) := by decide +kernel
theorem dX7_way_42 : decode cX7_way 42 = .ok (.iload_n 1, 1) := by decide +kernel
theorem dX7_way_43 : decode cX7_way 43 = .ok (.iload_n 2, 1) := by decide +kernel
theorem dX7_way_44 : decode cX7_way 44 = .ok (.iconst 0, 1) := by decide +kernel
theorem dX7_way_45 : decode cX7_way 45 = .ok (.iload_n 3, 1) := by decide +kernel
theorem dX7_way_46 : decode cX7_way 46 = .ok (.invokevirtual 173, 3) := by decide +kernel
theorem dX7_way_49 : decode cX7_way 49 = .ok (.iload 4, 2) := by decide +kernel
theorem dX7_way_51 : decode cX7_way 51 = .ok (.aload_n 0, 1) := by decide +kernel
theorem dX7_way_52 : decode cX7_way 52 = .ok (.getfield 150, 3) := by decide +kernel
theorem dX7_way_55 : decode cX7_way 55 = .ok (.if_icmp .lt 5, 3) := by decide +kernel
theorem dX7_way_58 : decode cX7_way 58 = .ok (.iconst (-1), 1) := by decide +kernel
theorem dX7_way_59 : decode cX7_way 59 = .ok (.ireturn, 1) := by decide +kernel
theorem dX7_way_60 : decode cX7_way 60 = .ok (.iload 5, 2) := by decide +kernel
theorem dX7_way_62 : decode cX7_way 62 = .ok (.ifCond .ne 13, 3) := by decide +kernel
theorem dX7_way_65 : decode cX7_way 65 = .ok (.aload_n 0, 1) := by decide +kernel
theorem dX7_way_66 : decode cX7_way 66 = .ok (.getfield 45, 3) := by decide +kernel
theorem dX7_way_69 : decode cX7_way 69 = .ok (.iload 4, 2) := by decide +kernel
theorem dX7_way_71 : decode cX7_way 71 = .ok (.iaload, 1) := by decide +kernel
theorem dX7_way_72 : decode cX7_way 72 = .ok (.goto 26, 3) := by decide +kernel
theorem dX7_way_75 : decode cX7_way 75 = .ok (.iload 5, 2) := by decide +kernel
theorem dX7_way_77 : decode cX7_way 77 = .ok (.iconst 1, 1) := by decide +kernel
theorem dX7_way_78 : decode cX7_way 78 = .ok (.if_icmp .ne 13, 3) := by decide +kernel
theorem dX7_way_81 : decode cX7_way 81 = .ok (.aload_n 0, 1) := by decide +kernel
theorem dX7_way_82 : decode cX7_way 82 = .ok (.getfield 48, 3) := by decide +kernel
theorem dX7_way_85 : decode cX7_way 85 = .ok (.iload 4, 2) := by decide +kernel
theorem dX7_way_87 : decode cX7_way 87 = .ok (.iaload, 1) := by decide +kernel
theorem dX7_way_88 : decode cX7_way 88 = .ok (.goto 10, 3) := by decide +kernel
theorem dX7_way_91 : decode cX7_way 91 = .ok (.aload_n 0, 1) := by decide +kernel
theorem dX7_way_92 : decode cX7_way 92 = .ok (.getfield 51, 3) := by decide +kernel
theorem dX7_way_95 : decode cX7_way 95 = .ok (.iload 4, 2) := by decide +kernel
theorem dX7_way_97 : decode cX7_way 97 = .ok (.iaload, 1) := by decide +kernel
theorem dX7_way_98 : decode cX7_way 98 = .ok (.ireturn, 1) := by decide +kernel
theorem dX7_farOf_0 : decode cX7_farOf 0 = .ok (.aload_n 0, 1) := by decide +kernel
theorem dX7_farOf_1 : decode cX7_farOf 1 = .ok (.getfield 13, 3) := by decide +kernel
theorem dX7_farOf_4 : decode cX7_farOf 4 = .ok (.iload_n 1, 1) := by decide +kernel
theorem dX7_farOf_5 : decode cX7_farOf 5 = .ok (.iaload, 1) := by decide +kernel
theorem dX7_farOf_6 : decode cX7_farOf 6 = .ok (.iload_n 2, 1) := by decide +kernel
theorem dX7_farOf_7 : decode cX7_farOf 7 = .ok (.isub, 1) := by decide +kernel
theorem dX7_farOf_8 : decode cX7_farOf 8 = .ok (.aload_n 0, 1) := by decide +kernel
theorem dX7_farOf_9 : decode cX7_farOf 9 = .ok (.getfield 13, 3) := by decide +kernel
theorem dX7_farOf_12 : decode cX7_farOf 12 = .ok (.iload_n 1, 1) := by decide +kernel
theorem dX7_farOf_13 : decode cX7_farOf 13 = .ok (.iaload, 1) := by decide +kernel
theorem dX7_farOf_14 : decode cX7_farOf 14 = .ok (.iload_n 2, 1) := by decide +kernel
theorem dX7_farOf_15 : decode cX7_farOf 15 = .ok (.isub, 1) := by decide +kernel
theorem dX7_farOf_16 : decode cX7_farOf 16 = .ok (.imul, 1) := by decide +kernel
theorem dX7_farOf_17 : decode cX7_farOf 17 = .ok (.aload_n 0, 1) := by decide +kernel
theorem dX7_farOf_18 : decode cX7_farOf 18 = .ok (.getfield 17, 3) := by decide +kernel
theorem dX7_farOf_21 : decode cX7_farOf 21 = .ok (.iload_n 1, 1) := by decide +kernel
theorem dX7_farOf_22 : decode cX7_farOf 22 = .ok (.iaload, 1) := by decide +kernel
theorem dX7_farOf_23 : decode cX7_farOf 23 = .ok (.iload_n 3, 1) := by decide +kernel
theorem dX7_farOf_24 : decode cX7_farOf 24 = .ok (.isub, 1) := by decide +kernel
theorem dX7_farOf_25 : decode cX7_farOf 25 = .ok (.aload_n 0, 1) := by decide +kernel
theorem dX7_farOf_26 : decode cX7_farOf 26 = .ok (.getfield 17, 3) := by decide +kernel
theorem dX7_farOf_29 : decode cX7_farOf 29 = .ok (.iload_n 1, 1) := by decide +kernel
theorem dX7_farOf_30 : decode cX7_farOf 30 = .ok (.iaload, 1) := by decide +kernel
theorem dX7_farOf_31 : decode cX7_farOf 31 = .ok (.iload_n 3, 1) := by decide +kernel
theorem dX7_farOf_32 : decode cX7_farOf 32 = .ok (.isub, 1) := by decide +kernel
theorem dX7_farOf_33 : decode cX7_farOf 33 = .ok (.imul, 1) := by decide +kernel
theorem dX7_farOf_34 : decode cX7_farOf 34 = .ok (.iadd, 1) := by decide +kernel
theorem dX7_farOf_35 : decode cX7_farOf 35 = .ok (.ireturn, 1) := by decide +kernel
theorem dX7_nearest_0 : decode cX7_nearest 0 = .ok (.iload_n 1, 1) := by decide +kernel
theorem dX7_nearest_1 : decode cX7_nearest 1 = .ok (.iload_n 2, 1) := by decide +kernel
theorem dX7_nearest_2 : decode cX7_nearest 2 = .ok (.invokestatic 68, 3) := by decide +kernel
theorem dX7_nearest_5 : decode cX7_nearest 5 = .ok (.ifCond .eq 7, 3) := by decide +kernel
theorem dX7_nearest_8 : decode cX7_nearest 8 = .ok (.iload_n 3, 1) := by decide +kernel
theorem dX7_nearest_9 : decode cX7_nearest 9 = .ok (.ifCond .ge 6, 3) := by decide +kernel
theorem dX7_nearest_12 : decode cX7_nearest 12 = .ok (.bipush (-2), 2) := by decide +kernel
theorem dX7_nearest_14 : decode cX7_nearest 14 = .ok (.ireturn, 1) := by decide +kernel
theorem dX7_nearest_15 : decode cX7_nearest 15 = .ok (.iconst 0, 1) := by decide +kernel
theorem dX7_nearest_16 : decode cX7_nearest 16 = .ok (.istore 4, 2) := by decide +kernel
theorem dX7_nearest_18 : decode cX7_nearest 18 = .ok (.iload 4, 2) := by decide +kernel
theorem dX7_nearest_20 : decode cX7_nearest 20 = .ok (.bipush 40, 2) := by decide +kernel
theorem dX7_nearest_22 : decode cX7_nearest 22 = .ok (.if_icmp .ge 112, 3) := by decide +kernel
theorem dX7_nearest_25 : decode cX7_nearest 25 = .ok (.aload_n 0, 1) := by decide +kernel
theorem dX7_nearest_26 : decode cX7_nearest 26 = .ok (.getfield 7, 3) := by decide +kernel
theorem dX7_nearest_29 : decode cX7_nearest 29 = .ok (.iload 4, 2) := by decide +kernel
theorem dX7_nearest_31 : decode cX7_nearest 31 = .ok (.baload, 1) := by decide +kernel
theorem dX7_nearest_32 : decode cX7_nearest 32 = .ok (.ifCond .eq 96, 3) := by decide +kernel
theorem dX7_nearest_35 : decode cX7_nearest 35 = .ok (.iconst 0, 1) := by decide +kernel
theorem dX7_nearest_36 : decode cX7_nearest 36 = .ok (.istore 5, 2) := by decide +kernel
theorem dX7_nearest_38 : decode cX7_nearest 38 = .ok (.iconst 0, 1) := by decide +kernel
theorem dX7_nearest_39 : decode cX7_nearest 39 = .ok (.istore 6, 2) := by decide +kernel
theorem dX7_nearest_41 : decode cX7_nearest 41 = .ok (.iload 6, 2) := by decide +kernel
theorem dX7_nearest_43 : decode cX7_nearest 43 = .ok (.bipush 40, 2) := by decide +kernel
theorem dX7_nearest_45 : decode cX7_nearest 45 = .ok (.if_icmp .ge 74, 3) := by decide +kernel
theorem dX7_nearest_48 : decode cX7_nearest 48 = .ok (.iload 5, 2) := by decide +kernel
theorem dX7_nearest_50 : decode cX7_nearest 50 = .ok (.aload_n 0, 1) := by decide +kernel
theorem dX7_nearest_51 : decode cX7_nearest 51 = .ok (.getfield 7, 3) := by decide +kernel
theorem dX7_nearest_54 : decode cX7_nearest 54 = .ok (.iload 6, 2) := by decide +kernel
theorem dX7_nearest_56 : decode cX7_nearest 56 = .ok (.baload, 1) := by decide +kernel
theorem dX7_nearest_57 : decode cX7_nearest 57 = .ok (.ifCond .eq 52, 3) := by decide +kernel
theorem dX7_nearest_60 : decode cX7_nearest 60 = .ok (.aload_n 0, 1) := by decide +kernel
theorem dX7_nearest_61 : decode cX7_nearest 61 = .ok (.iload 6, 2) := by decide +kernel
theorem dX7_nearest_63 : decode cX7_nearest 63 = .ok (.iload_n 1, 1) := by decide +kernel
theorem dX7_nearest_64 : decode cX7_nearest 64 = .ok (.iload_n 2, 1) := by decide +kernel
theorem dX7_nearest_65 : decode cX7_nearest 65 = .ok (.invokevirtual 177, 3) := by decide +kernel
theorem dX7_nearest_68 : decode cX7_nearest 68 = .ok (.aload_n 0, 1) := by decide +kernel
theorem dX7_nearest_69 : decode cX7_nearest 69 = .ok (.iload 4, 2) := by decide +kernel
theorem dX7_nearest_71 : decode cX7_nearest 71 = .ok (.iload_n 1, 1) := by decide +kernel
theorem dX7_nearest_72 : decode cX7_nearest 72 = .ok (.iload_n 2, 1) := by decide +kernel
theorem dX7_nearest_73 : decode cX7_nearest 73 = .ok (.invokevirtual 177, 3) := by decide +kernel
theorem dX7_nearest_76 : decode cX7_nearest 76 = .ok (.if_icmp .lt 29, 3) := by decide +kernel
theorem dX7_nearest_79 : decode cX7_nearest 79 = .ok (.aload_n 0, 1) := by decide +kernel
theorem dX7_nearest_80 : decode cX7_nearest 80 = .ok (.iload 6, 2) := by decide +kernel
theorem dX7_nearest_82 : decode cX7_nearest 82 = .ok (.iload_n 1, 1) := by decide +kernel
theorem dX7_nearest_83 : decode cX7_nearest 83 = .ok (.iload_n 2, 1) := by decide +kernel
theorem dX7_nearest_84 : decode cX7_nearest 84 = .ok (.invokevirtual 177, 3) := by decide +kernel
theorem dX7_nearest_87 : decode cX7_nearest 87 = .ok (.aload_n 0, 1) := by decide +kernel
theorem dX7_nearest_88 : decode cX7_nearest 88 = .ok (.iload 4, 2) := by decide +kernel
theorem dX7_nearest_90 : decode cX7_nearest 90 = .ok (.iload_n 1, 1) := by decide +kernel
theorem dX7_nearest_91 : decode cX7_nearest 91 = .ok (.iload_n 2, 1) := by decide +kernel
theorem dX7_nearest_92 : decode cX7_nearest 92 = .ok (.invokevirtual 177, 3) := by decide +kernel
theorem dX7_nearest_95 : decode cX7_nearest 95 = .ok (.if_icmp .ne 14, 3) := by decide +kernel
theorem dX7_nearest_98 : decode cX7_nearest 98 = .ok (.iload 6, 2) := by decide +kernel
theorem dX7_nearest_100 : decode cX7_nearest 100 = .ok (.iload 4, 2) := by decide +kernel
theorem dX7_nearest_102 : decode cX7_nearest 102 = .ok (.if_icmp .ge 7, 3) := by decide +kernel
theorem dX7_nearest_105 : decode cX7_nearest 105 = .ok (.iconst 1, 1) := by decide +kernel
theorem dX7_nearest_106 : decode cX7_nearest 106 = .ok (.goto 4, 3) := by decide +kernel
theorem dX7_nearest_109 : decode cX7_nearest 109 = .ok (.iconst 0, 1) := by decide +kernel
theorem dX7_nearest_110 : decode cX7_nearest 110 = .ok (.iadd, 1) := by decide +kernel
theorem dX7_nearest_111 : decode cX7_nearest 111 = .ok (.istore 5, 2) := by decide +kernel
theorem dX7_nearest_113 : decode cX7_nearest 113 = .ok (.iinc 6 1, 3) := by decide +kernel
theorem dX7_nearest_116 : decode cX7_nearest 116 = .ok (.goto (-75), 3) := by decide +kernel
theorem dX7_nearest_119 : decode cX7_nearest 119 = .ok (.iload 5, 2) := by decide +kernel
theorem dX7_nearest_121 : decode cX7_nearest 121 = .ok (.iload_n 3, 1) := by decide +kernel
theorem dX7_nearest_122 : decode cX7_nearest 122 = .ok (.if_icmp .ne 6, 3) := by decide +kernel
theorem dX7_nearest_125 : decode cX7_nearest 125 = .ok (.iload 4, 2) := by decide +kernel
theorem dX7_nearest_127 : decode cX7_nearest 127 = .ok (.ireturn, 1) := by decide +kernel
theorem dX7_nearest_128 : decode cX7_nearest 128 = .ok (.iinc 4 1, 3) := by decide +kernel
theorem dX7_nearest_131 : decode cX7_nearest 131 = .ok (.goto (-113), 3) := by decide +kernel
theorem dX7_nearest_134 : decode cX7_nearest 134 = .ok (.iconst (-1), 1) := by decide +kernel
theorem dX7_nearest_135 : decode cX7_nearest 135 = .ok (.ireturn, 1) := by decide +kernel
theorem dX7_push_0 : decode cX7_push 0 = .ok (.lload_n 0, 1) := by decide +kernel
theorem dX7_push_1 : decode cX7_push 1 = .ok (.lload_n 2, 1) := by decide +kernel
theorem dX7_push_2 : decode cX7_push 2 = .ok (.lsub, 1) := by decide +kernel
theorem dX7_push_3 : decode cX7_push 3 = .ok (.bipush 12, 2) := by decide +kernel
theorem dX7_push_5 : decode cX7_push 5 = .ok (.lshr, 1) := by decide +kernel
theorem dX7_push_6 : decode cX7_push 6 = .ok (.ldc2_w 180, 3) := by decide +kernel
theorem dX7_push_9 : decode cX7_push 9 = .ok (.ladd, 1) := by decide +kernel
theorem dX7_push_10 : decode cX7_push 10 = .ok (.ldc2_w 60, 3) := by decide +kernel
theorem dX7_push_13 : decode cX7_push 13 = .ok (.land, 1) := by decide +kernel
theorem dX7_push_14 : decode cX7_push 14 = .ok (.l2i, 1) := by decide +kernel
theorem dX7_push_15 : decode cX7_push 15 = .ok (.bipush 32, 2) := by decide +kernel
theorem dX7_push_17 : decode cX7_push 17 = .ok (.isub, 1) := by decide +kernel
theorem dX7_push_18 : decode cX7_push 18 = .ok (.ireturn, 1) := by decide +kernel
theorem dX7_findPushes_0 : decode cX7_findPushes 0 = .ok (.iconst 0, 1) := by decide +kernel
theorem dX7_findPushes_1 : decode cX7_findPushes 1 = .ok (.istore_n 1, 1) := by decide +kernel
theorem dX7_findPushes_2 : decode cX7_findPushes 2 = .ok (.iload_n 1, 1) := by decide +kernel
theorem dX7_findPushes_3 : decode cX7_findPushes 3 = .ok (.bipush 40, 2) := by decide +kernel
theorem dX7_findPushes_5 : decode cX7_findPushes 5 = .ok (.if_icmp .ge 108, 3) := by decide +kernel
theorem dX7_findPushes_8 : decode cX7_findPushes 8 = .ok (.aload_n 0, 1) := by decide +kernel
theorem dX7_findPushes_9 : decode cX7_findPushes 9 = .ok (.getfield 7, 3) := by decide +kernel
theorem dX7_findPushes_12 : decode cX7_findPushes 12 = .ok (.iload_n 1, 1) := by decide +kernel
theorem dX7_findPushes_13 : decode cX7_findPushes 13 = .ok (.baload, 1) := by decide +kernel
theorem dX7_findPushes_14 : decode cX7_findPushes 14 = .ok (.ifCond .eq 93, 3) := by decide +kernel
theorem dX7_findPushes_17 : decode cX7_findPushes 17 = .ok (.aload_n 0, 1) := by decide +kernel
theorem dX7_findPushes_18 : decode cX7_findPushes 18 = .ok (.getfield 54, 3) := by decide +kernel
theorem dX7_findPushes_21 : decode cX7_findPushes 21 = .ok (.iload_n 1, 1) := by decide +kernel
theorem dX7_findPushes_22 : decode cX7_findPushes 22 = .ok (.aload_n 0, 1) := by decide +kernel
theorem dX7_findPushes_23 : decode cX7_findPushes 23 = .ok (.aload_n 0, 1) := by decide +kernel
theorem dX7_findPushes_24 : decode cX7_findPushes 24 = .ok (.getfield 13, 3) := by decide +kernel
theorem dX7_findPushes_27 : decode cX7_findPushes 27 = .ok (.iload_n 1, 1) := by decide +kernel
theorem dX7_findPushes_28 : decode cX7_findPushes 28 = .ok (.iaload, 1) := by decide +kernel
theorem dX7_findPushes_29 : decode cX7_findPushes 29 = .ok (.iconst 1, 1) := by decide +kernel
theorem dX7_findPushes_30 : decode cX7_findPushes 30 = .ok (.iadd, 1) := by decide +kernel
theorem dX7_findPushes_31 : decode cX7_findPushes 31 = .ok (.aload_n 0, 1) := by decide +kernel
theorem dX7_findPushes_32 : decode cX7_findPushes 32 = .ok (.getfield 17, 3) := by decide +kernel
theorem dX7_findPushes_35 : decode cX7_findPushes 35 = .ok (.iload_n 1, 1) := by decide +kernel
theorem dX7_findPushes_36 : decode cX7_findPushes 36 = .ok (.iaload, 1) := by decide +kernel
theorem dX7_findPushes_37 : decode cX7_findPushes 37 = .ok (.invokevirtual 107, 3) := by decide +kernel
theorem dX7_findPushes_40 : decode cX7_findPushes 40 = .ok (.aload_n 0, 1) := by decide +kernel
theorem dX7_findPushes_41 : decode cX7_findPushes 41 = .ok (.aload_n 0, 1) := by decide +kernel
theorem dX7_findPushes_42 : decode cX7_findPushes 42 = .ok (.getfield 13, 3) := by decide +kernel
theorem dX7_findPushes_45 : decode cX7_findPushes 45 = .ok (.iload_n 1, 1) := by decide +kernel
theorem dX7_findPushes_46 : decode cX7_findPushes 46 = .ok (.iaload, 1) := by decide +kernel
theorem dX7_findPushes_47 : decode cX7_findPushes 47 = .ok (.iconst 1, 1) := by decide +kernel
theorem dX7_findPushes_48 : decode cX7_findPushes 48 = .ok (.isub, 1) := by decide +kernel
theorem dX7_findPushes_49 : decode cX7_findPushes 49 = .ok (.aload_n 0, 1) := by decide +kernel
theorem dX7_findPushes_50 : decode cX7_findPushes 50 = .ok (.getfield 17, 3) := by decide +kernel
theorem dX7_findPushes_53 : decode cX7_findPushes 53 = .ok (.iload_n 1, 1) := by decide +kernel
theorem dX7_findPushes_54 : decode cX7_findPushes 54 = .ok (.iaload, 1) := by decide +kernel
theorem dX7_findPushes_55 : decode cX7_findPushes 55 = .ok (.invokevirtual 107, 3) := by decide +kernel
theorem dX7_findPushes_58 : decode cX7_findPushes 58 = .ok (.invokestatic 182, 3) := by decide +kernel
theorem dX7_findPushes_61 : decode cX7_findPushes 61 = .ok (.iastore, 1) := by decide +kernel
theorem dX7_findPushes_62 : decode cX7_findPushes 62 = .ok (.aload_n 0, 1) := by decide +kernel
theorem dX7_findPushes_63 : decode cX7_findPushes 63 = .ok (.getfield 57, 3) := by decide +kernel
theorem dX7_findPushes_66 : decode cX7_findPushes 66 = .ok (.iload_n 1, 1) := by decide +kernel
theorem dX7_findPushes_67 : decode cX7_findPushes 67 = .ok (.aload_n 0, 1) := by decide +kernel
theorem dX7_findPushes_68 : decode cX7_findPushes 68 = .ok (.aload_n 0, 1) := by decide +kernel
theorem dX7_findPushes_69 : decode cX7_findPushes 69 = .ok (.getfield 13, 3) := by decide +kernel
theorem dX7_findPushes_72 : decode cX7_findPushes 72 = .ok (.iload_n 1, 1) := by decide +kernel
theorem dX7_findPushes_73 : decode cX7_findPushes 73 = .ok (.iaload, 1) := by decide +kernel
theorem dX7_findPushes_74 : decode cX7_findPushes 74 = .ok (.aload_n 0, 1) := by decide +kernel
theorem dX7_findPushes_75 : decode cX7_findPushes 75 = .ok (.getfield 17, 3) := by decide +kernel
theorem dX7_findPushes_78 : decode cX7_findPushes 78 = .ok (.iload_n 1, 1) := by decide +kernel
theorem dX7_findPushes_79 : decode cX7_findPushes 79 = .ok (.iaload, 1) := by decide +kernel
theorem dX7_findPushes_80 : decode cX7_findPushes 80 = .ok (.iconst 1, 1) := by decide +kernel
theorem dX7_findPushes_81 : decode cX7_findPushes 81 = .ok (.iadd, 1) := by decide +kernel
theorem dX7_findPushes_82 : decode cX7_findPushes 82 = .ok (.invokevirtual 107, 3) := by decide +kernel
theorem dX7_findPushes_85 : decode cX7_findPushes 85 = .ok (.aload_n 0, 1) := by decide +kernel
theorem dX7_findPushes_86 : decode cX7_findPushes 86 = .ok (.aload_n 0, 1) := by decide +kernel
theorem dX7_findPushes_87 : decode cX7_findPushes 87 = .ok (.getfield 13, 3) := by decide +kernel
theorem dX7_findPushes_90 : decode cX7_findPushes 90 = .ok (.iload_n 1, 1) := by decide +kernel
theorem dX7_findPushes_91 : decode cX7_findPushes 91 = .ok (.iaload, 1) := by decide +kernel
theorem dX7_findPushes_92 : decode cX7_findPushes 92 = .ok (.aload_n 0, 1) := by decide +kernel
theorem dX7_findPushes_93 : decode cX7_findPushes 93 = .ok (.getfield 17, 3) := by decide +kernel
theorem dX7_findPushes_96 : decode cX7_findPushes 96 = .ok (.iload_n 1, 1) := by decide +kernel
theorem dX7_findPushes_97 : decode cX7_findPushes 97 = .ok (.iaload, 1) := by decide +kernel
theorem dX7_findPushes_98 : decode cX7_findPushes 98 = .ok (.iconst 1, 1) := by decide +kernel
theorem dX7_findPushes_99 : decode cX7_findPushes 99 = .ok (.isub, 1) := by decide +kernel
theorem dX7_findPushes_100 : decode cX7_findPushes 100 = .ok (.invokevirtual 107, 3) := by decide +kernel
theorem dX7_findPushes_103 : decode cX7_findPushes 103 = .ok (.invokestatic 182, 3) := by decide +kernel
theorem dX7_findPushes_106 : decode cX7_findPushes 106 = .ok (.iastore, 1) := by decide +kernel
theorem dX7_findPushes_107 : decode cX7_findPushes 107 = .ok (.iinc 1 1, 3) := by decide +kernel
theorem dX7_findPushes_110 : decode cX7_findPushes 110 = .ok (.goto (-108), 3) := by decide +kernel
theorem dX7_findPushes_113 : decode cX7_findPushes 113 = .ok (.return_, 1) := by decide +kernel
theorem dX7_brought_0 : decode cX7_brought 0 = .ok (.iload_n 0, 1) := by decide +kernel
theorem dX7_brought_1 : decode cX7_brought 1 = .ok (.bipush 32, 2) := by decide +kernel
theorem dX7_brought_3 : decode cX7_brought 3 = .ok (.iadd, 1) := by decide +kernel
theorem dX7_brought_4 : decode cX7_brought 4 = .ok (.bipush 63, 2) := by decide +kernel
theorem dX7_brought_6 : decode cX7_brought 6 = .ok (.iand, 1) := by decide +kernel
theorem dX7_brought_7 : decode cX7_brought 7 = .ok (.bipush 32, 2) := by decide +kernel
theorem dX7_brought_9 : decode cX7_brought 9 = .ok (.isub, 1) := by decide +kernel
theorem dX7_brought_10 : decode cX7_brought 10 = .ok (.ireturn, 1) := by decide +kernel
theorem dX7_goOn_0 : decode cX7_goOn 0 = .ok (.aload_n 0, 1) := by decide +kernel
theorem dX7_goOn_1 : decode cX7_goOn 1 = .ok (.invokevirtual 186, 3) := by decide +kernel
theorem dX7_goOn_4 : decode cX7_goOn 4 = .ok (.iconst 0, 1) := by decide +kernel
theorem dX7_goOn_5 : decode cX7_goOn 5 = .ok (.istore_n 1, 1) := by decide +kernel
theorem dX7_goOn_6 : decode cX7_goOn 6 = .ok (.iload_n 1, 1) := by decide +kernel
theorem dX7_goOn_7 : decode cX7_goOn 7 = .ok (.bipush 40, 2) := by decide +kernel
theorem dX7_goOn_9 : decode cX7_goOn 9 = .ok (.if_icmp .ge 106, 3) := by decide +kernel
theorem dX7_goOn_12 : decode cX7_goOn 12 = .ok (.aload_n 0, 1) := by decide +kernel
theorem dX7_goOn_13 : decode cX7_goOn 13 = .ok (.getfield 7, 3) := by decide +kernel
theorem dX7_goOn_16 : decode cX7_goOn 16 = .ok (.iload_n 1, 1) := by decide +kernel
theorem dX7_goOn_17 : decode cX7_goOn 17 = .ok (.baload, 1) := by decide +kernel
theorem dX7_goOn_18 : decode cX7_goOn 18 = .ok (.ifCond .eq 91, 3) := by decide +kernel
theorem dX7_goOn_21 : decode cX7_goOn 21 = .ok (.aload_n 0, 1) := by decide +kernel
theorem dX7_goOn_22 : decode cX7_goOn 22 = .ok (.getfield 23, 3) := by decide +kernel
theorem dX7_goOn_25 : decode cX7_goOn 25 = .ok (.iload_n 1, 1) := by decide +kernel
theorem dX7_goOn_26 : decode cX7_goOn 26 = .ok (.aload_n 0, 1) := by decide +kernel
theorem dX7_goOn_27 : decode cX7_goOn 27 = .ok (.getfield 23, 3) := by decide +kernel
theorem dX7_goOn_30 : decode cX7_goOn 30 = .ok (.iload_n 1, 1) := by decide +kernel
theorem dX7_goOn_31 : decode cX7_goOn 31 = .ok (.iaload, 1) := by decide +kernel
theorem dX7_goOn_32 : decode cX7_goOn 32 = .ok (.aload_n 0, 1) := by decide +kernel
theorem dX7_goOn_33 : decode cX7_goOn 33 = .ok (.getfield 54, 3) := by decide +kernel
theorem dX7_goOn_36 : decode cX7_goOn 36 = .ok (.iload_n 1, 1) := by decide +kernel
theorem dX7_goOn_37 : decode cX7_goOn 37 = .ok (.iaload, 1) := by decide +kernel
theorem dX7_goOn_38 : decode cX7_goOn 38 = .ok (.iadd, 1) := by decide +kernel
theorem dX7_goOn_39 : decode cX7_goOn 39 = .ok (.invokestatic 189, 3) := by decide +kernel
theorem dX7_goOn_42 : decode cX7_goOn 42 = .ok (.iastore, 1) := by decide +kernel
theorem dX7_goOn_43 : decode cX7_goOn 43 = .ok (.aload_n 0, 1) := by decide +kernel
theorem dX7_goOn_44 : decode cX7_goOn 44 = .ok (.getfield 26, 3) := by decide +kernel
theorem dX7_goOn_47 : decode cX7_goOn 47 = .ok (.iload_n 1, 1) := by decide +kernel
theorem dX7_goOn_48 : decode cX7_goOn 48 = .ok (.aload_n 0, 1) := by decide +kernel
theorem dX7_goOn_49 : decode cX7_goOn 49 = .ok (.getfield 26, 3) := by decide +kernel
theorem dX7_goOn_52 : decode cX7_goOn 52 = .ok (.iload_n 1, 1) := by decide +kernel
theorem dX7_goOn_53 : decode cX7_goOn 53 = .ok (.iaload, 1) := by decide +kernel
theorem dX7_goOn_54 : decode cX7_goOn 54 = .ok (.aload_n 0, 1) := by decide +kernel
theorem dX7_goOn_55 : decode cX7_goOn 55 = .ok (.getfield 57, 3) := by decide +kernel
theorem dX7_goOn_58 : decode cX7_goOn 58 = .ok (.iload_n 1, 1) := by decide +kernel
theorem dX7_goOn_59 : decode cX7_goOn 59 = .ok (.iaload, 1) := by decide +kernel
theorem dX7_goOn_60 : decode cX7_goOn 60 = .ok (.iadd, 1) := by decide +kernel
theorem dX7_goOn_61 : decode cX7_goOn 61 = .ok (.invokestatic 189, 3) := by decide +kernel
theorem dX7_goOn_64 : decode cX7_goOn 64 = .ok (.iastore, 1) := by decide +kernel
theorem dX7_goOn_65 : decode cX7_goOn 65 = .ok (.aload_n 0, 1) := by decide +kernel
theorem dX7_goOn_66 : decode cX7_goOn 66 = .ok (.getfield 13, 3) := by decide +kernel
theorem dX7_goOn_69 : decode cX7_goOn 69 = .ok (.iload_n 1, 1) := by decide +kernel
theorem dX7_goOn_70 : decode cX7_goOn 70 = .ok (.aload_n 0, 1) := by decide +kernel
theorem dX7_goOn_71 : decode cX7_goOn 71 = .ok (.getfield 13, 3) := by decide +kernel
theorem dX7_goOn_74 : decode cX7_goOn 74 = .ok (.iload_n 1, 1) := by decide +kernel
theorem dX7_goOn_75 : decode cX7_goOn 75 = .ok (.iaload, 1) := by decide +kernel
theorem dX7_goOn_76 : decode cX7_goOn 76 = .ok (.aload_n 0, 1) := by decide +kernel
theorem dX7_goOn_77 : decode cX7_goOn 77 = .ok (.getfield 23, 3) := by decide +kernel
theorem dX7_goOn_80 : decode cX7_goOn 80 = .ok (.iload_n 1, 1) := by decide +kernel
theorem dX7_goOn_81 : decode cX7_goOn 81 = .ok (.iaload, 1) := by decide +kernel
theorem dX7_goOn_82 : decode cX7_goOn 82 = .ok (.iadd, 1) := by decide +kernel
theorem dX7_goOn_83 : decode cX7_goOn 83 = .ok (.bipush 63, 2) := by decide +kernel
theorem dX7_goOn_85 : decode cX7_goOn 85 = .ok (.iand, 1) := by decide +kernel
theorem dX7_goOn_86 : decode cX7_goOn 86 = .ok (.iastore, 1) := by decide +kernel
theorem dX7_goOn_87 : decode cX7_goOn 87 = .ok (.aload_n 0, 1) := by decide +kernel
theorem dX7_goOn_88 : decode cX7_goOn 88 = .ok (.getfield 17, 3) := by decide +kernel
theorem dX7_goOn_91 : decode cX7_goOn 91 = .ok (.iload_n 1, 1) := by decide +kernel
theorem dX7_goOn_92 : decode cX7_goOn 92 = .ok (.aload_n 0, 1) := by decide +kernel
theorem dX7_goOn_93 : decode cX7_goOn 93 = .ok (.getfield 17, 3) := by decide +kernel
theorem dX7_goOn_96 : decode cX7_goOn 96 = .ok (.iload_n 1, 1) := by decide +kernel
theorem dX7_goOn_97 : decode cX7_goOn 97 = .ok (.iaload, 1) := by decide +kernel
theorem dX7_goOn_98 : decode cX7_goOn 98 = .ok (.aload_n 0, 1) := by decide +kernel
theorem dX7_goOn_99 : decode cX7_goOn 99 = .ok (.getfield 26, 3) := by decide +kernel
theorem dX7_goOn_102 : decode cX7_goOn 102 = .ok (.iload_n 1, 1) := by decide +kernel
theorem dX7_goOn_103 : decode cX7_goOn 103 = .ok (.iaload, 1) := by decide +kernel
theorem dX7_goOn_104 : decode cX7_goOn 104 = .ok (.iadd, 1) := by decide +kernel
theorem dX7_goOn_105 : decode cX7_goOn 105 = .ok (.bipush 63, 2) := by decide +kernel
theorem dX7_goOn_107 : decode cX7_goOn 107 = .ok (.iand, 1) := by decide +kernel
theorem dX7_goOn_108 : decode cX7_goOn 108 = .ok (.iastore, 1) := by decide +kernel
theorem dX7_goOn_109 : decode cX7_goOn 109 = .ok (.iinc 1 1, 3) := by decide +kernel
theorem dX7_goOn_112 : decode cX7_goOn 112 = .ok (.goto (-106), 3) := by decide +kernel
theorem dX7_goOn_115 : decode cX7_goOn 115 = .ok (.return_, 1) := by decide +kernel
theorem dX7_goBack_0 : decode cX7_goBack 0 = .ok (.iconst 0, 1) := by decide +kernel
theorem dX7_goBack_1 : decode cX7_goBack 1 = .ok (.istore_n 1, 1) := by decide +kernel
theorem dX7_goBack_2 : decode cX7_goBack 2 = .ok (.iload_n 1, 1) := by decide +kernel
theorem dX7_goBack_3 : decode cX7_goBack 3 = .ok (.bipush 40, 2) := by decide +kernel
theorem dX7_goBack_5 : decode cX7_goBack 5 = .ok (.if_icmp .ge 62, 3) := by decide +kernel
theorem dX7_goBack_8 : decode cX7_goBack 8 = .ok (.aload_n 0, 1) := by decide +kernel
theorem dX7_goBack_9 : decode cX7_goBack 9 = .ok (.getfield 7, 3) := by decide +kernel
theorem dX7_goBack_12 : decode cX7_goBack 12 = .ok (.iload_n 1, 1) := by decide +kernel
theorem dX7_goBack_13 : decode cX7_goBack 13 = .ok (.baload, 1) := by decide +kernel
theorem dX7_goBack_14 : decode cX7_goBack 14 = .ok (.ifCond .eq 47, 3) := by decide +kernel
theorem dX7_goBack_17 : decode cX7_goBack 17 = .ok (.aload_n 0, 1) := by decide +kernel
theorem dX7_goBack_18 : decode cX7_goBack 18 = .ok (.getfield 13, 3) := by decide +kernel
theorem dX7_goBack_21 : decode cX7_goBack 21 = .ok (.iload_n 1, 1) := by decide +kernel
theorem dX7_goBack_22 : decode cX7_goBack 22 = .ok (.aload_n 0, 1) := by decide +kernel
theorem dX7_goBack_23 : decode cX7_goBack 23 = .ok (.getfield 13, 3) := by decide +kernel
theorem dX7_goBack_26 : decode cX7_goBack 26 = .ok (.iload_n 1, 1) := by decide +kernel
theorem dX7_goBack_27 : decode cX7_goBack 27 = .ok (.iaload, 1) := by decide +kernel
theorem dX7_goBack_28 : decode cX7_goBack 28 = .ok (.aload_n 0, 1) := by decide +kernel
theorem dX7_goBack_29 : decode cX7_goBack 29 = .ok (.getfield 23, 3) := by decide +kernel
theorem dX7_goBack_32 : decode cX7_goBack 32 = .ok (.iload_n 1, 1) := by decide +kernel
theorem dX7_goBack_33 : decode cX7_goBack 33 = .ok (.iaload, 1) := by decide +kernel
theorem dX7_goBack_34 : decode cX7_goBack 34 = .ok (.isub, 1) := by decide +kernel
theorem dX7_goBack_35 : decode cX7_goBack 35 = .ok (.bipush 63, 2) := by decide +kernel
theorem dX7_goBack_37 : decode cX7_goBack 37 = .ok (.iand, 1) := by decide +kernel
theorem dX7_goBack_38 : decode cX7_goBack 38 = .ok (.iastore, 1) := by decide +kernel
theorem dX7_goBack_39 : decode cX7_goBack 39 = .ok (.aload_n 0, 1) := by decide +kernel
theorem dX7_goBack_40 : decode cX7_goBack 40 = .ok (.getfield 17, 3) := by decide +kernel
theorem dX7_goBack_43 : decode cX7_goBack 43 = .ok (.iload_n 1, 1) := by decide +kernel
theorem dX7_goBack_44 : decode cX7_goBack 44 = .ok (.aload_n 0, 1) := by decide +kernel
theorem dX7_goBack_45 : decode cX7_goBack 45 = .ok (.getfield 17, 3) := by decide +kernel
theorem dX7_goBack_48 : decode cX7_goBack 48 = .ok (.iload_n 1, 1) := by decide +kernel
theorem dX7_goBack_49 : decode cX7_goBack 49 = .ok (.iaload, 1) := by decide +kernel
theorem dX7_goBack_50 : decode cX7_goBack 50 = .ok (.aload_n 0, 1) := by decide +kernel
theorem dX7_goBack_51 : decode cX7_goBack 51 = .ok (.getfield 26, 3) := by decide +kernel
theorem dX7_goBack_54 : decode cX7_goBack 54 = .ok (.iload_n 1, 1) := by decide +kernel
theorem dX7_goBack_55 : decode cX7_goBack 55 = .ok (.iaload, 1) := by decide +kernel
theorem dX7_goBack_56 : decode cX7_goBack 56 = .ok (.isub, 1) := by decide +kernel
theorem dX7_goBack_57 : decode cX7_goBack 57 = .ok (.bipush 63, 2) := by decide +kernel
theorem dX7_goBack_59 : decode cX7_goBack 59 = .ok (.iand, 1) := by decide +kernel
theorem dX7_goBack_60 : decode cX7_goBack 60 = .ok (.iastore, 1) := by decide +kernel
theorem dX7_goBack_61 : decode cX7_goBack 61 = .ok (.iinc 1 1, 3) := by decide +kernel
theorem dX7_goBack_64 : decode cX7_goBack 64 = .ok (.goto (-62), 3) := by decide +kernel
theorem dX7_goBack_67 : decode cX7_goBack 67 = .ok (.aload_n 0, 1) := by decide +kernel
theorem dX7_goBack_68 : decode cX7_goBack 68 = .ok (.invokevirtual 186, 3) := by decide +kernel
theorem dX7_goBack_71 : decode cX7_goBack 71 = .ok (.iconst 0, 1) := by decide +kernel
theorem dX7_goBack_72 : decode cX7_goBack 72 = .ok (.istore_n 1, 1) := by decide +kernel
theorem dX7_goBack_73 : decode cX7_goBack 73 = .ok (.iload_n 1, 1) := by decide +kernel
theorem dX7_goBack_74 : decode cX7_goBack 74 = .ok (.bipush 40, 2) := by decide +kernel
theorem dX7_goBack_76 : decode cX7_goBack 76 = .ok (.if_icmp .ge 62, 3) := by decide +kernel
theorem dX7_goBack_79 : decode cX7_goBack 79 = .ok (.aload_n 0, 1) := by decide +kernel
theorem dX7_goBack_80 : decode cX7_goBack 80 = .ok (.getfield 7, 3) := by decide +kernel
theorem dX7_goBack_83 : decode cX7_goBack 83 = .ok (.iload_n 1, 1) := by decide +kernel
theorem dX7_goBack_84 : decode cX7_goBack 84 = .ok (.baload, 1) := by decide +kernel
theorem dX7_goBack_85 : decode cX7_goBack 85 = .ok (.ifCond .eq 47, 3) := by decide +kernel
theorem dX7_goBack_88 : decode cX7_goBack 88 = .ok (.aload_n 0, 1) := by decide +kernel
theorem dX7_goBack_89 : decode cX7_goBack 89 = .ok (.getfield 23, 3) := by decide +kernel
theorem dX7_goBack_92 : decode cX7_goBack 92 = .ok (.iload_n 1, 1) := by decide +kernel
theorem dX7_goBack_93 : decode cX7_goBack 93 = .ok (.aload_n 0, 1) := by decide +kernel
theorem dX7_goBack_94 : decode cX7_goBack 94 = .ok (.getfield 23, 3) := by decide +kernel
theorem dX7_goBack_97 : decode cX7_goBack 97 = .ok (.iload_n 1, 1) := by decide +kernel
theorem dX7_goBack_98 : decode cX7_goBack 98 = .ok (.iaload, 1) := by decide +kernel
theorem dX7_goBack_99 : decode cX7_goBack 99 = .ok (.aload_n 0, 1) := by decide +kernel
theorem dX7_goBack_100 : decode cX7_goBack 100 = .ok (.getfield 54, 3) := by decide +kernel
theorem dX7_goBack_103 : decode cX7_goBack 103 = .ok (.iload_n 1, 1) := by decide +kernel
theorem dX7_goBack_104 : decode cX7_goBack 104 = .ok (.iaload, 1) := by decide +kernel
theorem dX7_goBack_105 : decode cX7_goBack 105 = .ok (.isub, 1) := by decide +kernel
theorem dX7_goBack_106 : decode cX7_goBack 106 = .ok (.invokestatic 189, 3) := by decide +kernel
theorem dX7_goBack_109 : decode cX7_goBack 109 = .ok (.iastore, 1) := by decide +kernel
theorem dX7_goBack_110 : decode cX7_goBack 110 = .ok (.aload_n 0, 1) := by decide +kernel
theorem dX7_goBack_111 : decode cX7_goBack 111 = .ok (.getfield 26, 3) := by decide +kernel
theorem dX7_goBack_114 : decode cX7_goBack 114 = .ok (.iload_n 1, 1) := by decide +kernel
theorem dX7_goBack_115 : decode cX7_goBack 115 = .ok (.aload_n 0, 1) := by decide +kernel
theorem dX7_goBack_116 : decode cX7_goBack 116 = .ok (.getfield 26, 3) := by decide +kernel
theorem dX7_goBack_119 : decode cX7_goBack 119 = .ok (.iload_n 1, 1) := by decide +kernel
theorem dX7_goBack_120 : decode cX7_goBack 120 = .ok (.iaload, 1) := by decide +kernel
theorem dX7_goBack_121 : decode cX7_goBack 121 = .ok (.aload_n 0, 1) := by decide +kernel
theorem dX7_goBack_122 : decode cX7_goBack 122 = .ok (.getfield 57, 3) := by decide +kernel
theorem dX7_goBack_125 : decode cX7_goBack 125 = .ok (.iload_n 1, 1) := by decide +kernel
theorem dX7_goBack_126 : decode cX7_goBack 126 = .ok (.iaload, 1) := by decide +kernel
theorem dX7_goBack_127 : decode cX7_goBack 127 = .ok (.isub, 1) := by decide +kernel
theorem dX7_goBack_128 : decode cX7_goBack 128 = .ok (.invokestatic 189, 3) := by decide +kernel
theorem dX7_goBack_131 : decode cX7_goBack 131 = .ok (.iastore, 1) := by decide +kernel
theorem dX7_goBack_132 : decode cX7_goBack 132 = .ok (.iinc 1 1, 3) := by decide +kernel
theorem dX7_goBack_135 : decode cX7_goBack 135 = .ok (.goto (-62), 3) := by decide +kernel
theorem dX7_goBack_138 : decode cX7_goBack 138 = .ok (.return_, 1) := by decide +kernel
theorem dX7_step_0 : decode cX7_step 0 = .ok (.iload_n 1, 1) := by decide +kernel
theorem dX7_step_1 : decode cX7_step 1 = .ok (.i2l, 1) := by decide +kernel
theorem dX7_step_2 : decode cX7_step 2 = .ok (.ldc2_w 193, 3) := by decide +kernel
theorem dX7_step_5 : decode cX7_step 5 = .ok (.ldc2_w 95, 3) := by decide +kernel
theorem dX7_step_8 : decode cX7_step 8 = .ok (.invokestatic 62, 3) := by decide +kernel
theorem dX7_step_11 : decode cX7_step 11 = .ok (.ifCond .eq 7, 3) := by decide +kernel
theorem dX7_step_14 : decode cX7_step 14 = .ok (.iload_n 1, 1) := by decide +kernel
theorem dX7_step_15 : decode cX7_step 15 = .ok (.ifCond .ne 6, 3) := by decide +kernel
theorem dX7_step_18 : decode cX7_step 18 = .ok (.bipush (-2), 2) := by decide +kernel
theorem dX7_step_20 : decode cX7_step 20 = .ok (.ireturn, 1) := by decide +kernel
theorem dX7_step_21 : decode cX7_step 21 = .ok (.iconst 0, 1) := by decide +kernel
theorem dX7_step_22 : decode cX7_step 22 = .ok (.istore_n 2, 1) := by decide +kernel
theorem dX7_step_23 : decode cX7_step 23 = .ok (.iload_n 2, 1) := by decide +kernel
theorem dX7_step_24 : decode cX7_step 24 = .ok (.iload_n 1, 1) := by decide +kernel
theorem dX7_step_25 : decode cX7_step 25 = .ok (.if_icmp .ge 13, 3) := by decide +kernel
theorem dX7_step_28 : decode cX7_step 28 = .ok (.aload_n 0, 1) := by decide +kernel
theorem dX7_step_29 : decode cX7_step 29 = .ok (.invokevirtual 195, 3) := by decide +kernel
theorem dX7_step_32 : decode cX7_step 32 = .ok (.iinc 2 1, 3) := by decide +kernel
theorem dX7_step_35 : decode cX7_step 35 = .ok (.goto (-12), 3) := by decide +kernel
theorem dX7_step_38 : decode cX7_step 38 = .ok (.iconst 0, 1) := by decide +kernel
theorem dX7_step_39 : decode cX7_step 39 = .ok (.istore_n 2, 1) := by decide +kernel
theorem dX7_step_40 : decode cX7_step 40 = .ok (.iload_n 2, 1) := by decide +kernel
theorem dX7_step_41 : decode cX7_step 41 = .ok (.iload_n 1, 1) := by decide +kernel
theorem dX7_step_42 : decode cX7_step 42 = .ok (.if_icmp .le 13, 3) := by decide +kernel
theorem dX7_step_45 : decode cX7_step 45 = .ok (.aload_n 0, 1) := by decide +kernel
theorem dX7_step_46 : decode cX7_step 46 = .ok (.invokevirtual 198, 3) := by decide +kernel
theorem dX7_step_49 : decode cX7_step 49 = .ok (.iinc 2 (-1), 3) := by decide +kernel
theorem dX7_step_52 : decode cX7_step 52 = .ok (.goto (-12), 3) := by decide +kernel
theorem dX7_step_55 : decode cX7_step 55 = .ok (.aload_n 0, 1) := by decide +kernel
theorem dX7_step_56 : decode cX7_step 56 = .ok (.dup, 1) := by decide +kernel
theorem dX7_step_57 : decode cX7_step 57 = .ok (.getfield 201, 3) := by decide +kernel
theorem dX7_step_60 : decode cX7_step 60 = .ok (.iload_n 1, 1) := by decide +kernel
theorem dX7_step_61 : decode cX7_step 61 = .ok (.iadd, 1) := by decide +kernel
theorem dX7_step_62 : decode cX7_step 62 = .ok (.putfield 201, 3) := by decide +kernel
theorem dX7_step_65 : decode cX7_step 65 = .ok (.aload_n 0, 1) := by decide +kernel
theorem dX7_step_66 : decode cX7_step 66 = .ok (.getfield 201, 3) := by decide +kernel
theorem dX7_step_69 : decode cX7_step 69 = .ok (.ireturn, 1) := by decide +kernel
theorem dX7_count_0 : decode cX7_count 0 = .ok (.iconst 0, 1) := by decide +kernel
theorem dX7_count_1 : decode cX7_count 1 = .ok (.istore_n 2, 1) := by decide +kernel
theorem dX7_count_2 : decode cX7_count 2 = .ok (.iconst 0, 1) := by decide +kernel
theorem dX7_count_3 : decode cX7_count 3 = .ok (.istore_n 3, 1) := by decide +kernel
theorem dX7_count_4 : decode cX7_count 4 = .ok (.iconst 0, 1) := by decide +kernel
theorem dX7_count_5 : decode cX7_count 5 = .ok (.istore 4, 2) := by decide +kernel
theorem dX7_count_7 : decode cX7_count 7 = .ok (.iconst 0, 1) := by decide +kernel
theorem dX7_count_8 : decode cX7_count 8 = .ok (.istore 5, 2) := by decide +kernel
theorem dX7_count_10 : decode cX7_count 10 = .ok (.iload 5, 2) := by decide +kernel
theorem dX7_count_12 : decode cX7_count 12 = .ok (.bipush 6, 2) := by decide +kernel
theorem dX7_count_14 : decode cX7_count 14 = .ok (.if_icmp .ge 89, 3) := by decide +kernel
theorem dX7_count_17 : decode cX7_count 17 = .ok (.iconst 0, 1) := by decide +kernel
theorem dX7_count_18 : decode cX7_count 18 = .ok (.istore 6, 2) := by decide +kernel
theorem dX7_count_20 : decode cX7_count 20 = .ok (.iload 6, 2) := by decide +kernel
theorem dX7_count_22 : decode cX7_count 22 = .ok (.iconst 1, 1) := by decide +kernel
theorem dX7_count_23 : decode cX7_count 23 = .ok (.iconst 2, 1) := by decide +kernel
theorem dX7_count_24 : decode cX7_count 24 = .ok (.iload 5, 2) := by decide +kernel
theorem dX7_count_26 : decode cX7_count 26 = .ok (.imul, 1) := by decide +kernel
theorem dX7_count_27 : decode cX7_count 27 = .ok (.ishl, 1) := by decide +kernel
theorem dX7_count_28 : decode cX7_count 28 = .ok (.if_icmp .ge 69, 3) := by decide +kernel
theorem dX7_count_31 : decode cX7_count 31 = .ok (.iload 6, 2) := by decide +kernel
theorem dX7_count_33 : decode cX7_count 33 = .ok (.iconst 1, 1) := by decide +kernel
theorem dX7_count_34 : decode cX7_count 34 = .ok (.iload 5, 2) := by decide +kernel
theorem dX7_count_36 : decode cX7_count 36 = .ok (.ishl, 1) := by decide +kernel
theorem dX7_count_37 : decode cX7_count 37 = .ok (.iconst 1, 1) := by decide +kernel
theorem dX7_count_38 : decode cX7_count 38 = .ok (.isub, 1) := by decide +kernel
theorem dX7_count_39 : decode cX7_count 39 = .ok (.iand, 1) := by decide +kernel
theorem dX7_count_40 : decode cX7_count 40 = .ok (.istore 7, 2) := by decide +kernel
theorem dX7_count_42 : decode cX7_count 42 = .ok (.iload 6, 2) := by decide +kernel
theorem dX7_count_44 : decode cX7_count 44 = .ok (.iload 5, 2) := by decide +kernel
theorem dX7_count_46 : decode cX7_count 46 = .ok (.ishr, 1) := by decide +kernel
theorem dX7_count_47 : decode cX7_count 47 = .ok (.istore 8, 2) := by decide +kernel
theorem dX7_count_49 : decode cX7_count 49 = .ok (.aload_n 0, 1) := by decide +kernel
theorem dX7_count_50 : decode cX7_count 50 = .ok (.iload 5, 2) := by decide +kernel
theorem dX7_count_52 : decode cX7_count 52 = .ok (.iload 7, 2) := by decide +kernel
theorem dX7_count_54 : decode cX7_count 54 = .ok (.iload 8, 2) := by decide +kernel
theorem dX7_count_56 : decode cX7_count 56 = .ok (.invokevirtual 131, 3) := by decide +kernel
theorem dX7_count_59 : decode cX7_count 59 = .ok (.ifCond .eq 32, 3) := by decide +kernel
theorem dX7_count_62 : decode cX7_count 62 = .ok (.iinc 2 1, 3) := by decide +kernel
theorem dX7_count_65 : decode cX7_count 65 = .ok (.iload 5, 2) := by decide +kernel
theorem dX7_count_67 : decode cX7_count 67 = .ok (.istore_n 3, 1) := by decide +kernel
theorem dX7_count_68 : decode cX7_count 68 = .ok (.iload 4, 2) := by decide +kernel
theorem dX7_count_70 : decode cX7_count 70 = .ok (.aload_n 0, 1) := by decide +kernel
theorem dX7_count_71 : decode cX7_count 71 = .ok (.iload 5, 2) := by decide +kernel
theorem dX7_count_73 : decode cX7_count 73 = .ok (.iload 7, 2) := by decide +kernel
theorem dX7_count_75 : decode cX7_count 75 = .ok (.iload 8, 2) := by decide +kernel
theorem dX7_count_77 : decode cX7_count 77 = .ok (.invokevirtual 123, 3) := by decide +kernel
theorem dX7_count_80 : decode cX7_count 80 = .ok (.ifCond .eq 7, 3) := by decide +kernel
theorem dX7_count_83 : decode cX7_count 83 = .ok (.iconst 1, 1) := by decide +kernel
theorem dX7_count_84 : decode cX7_count 84 = .ok (.goto 4, 3) := by decide +kernel
theorem dX7_count_87 : decode cX7_count 87 = .ok (.iconst 0, 1) := by decide +kernel
theorem dX7_count_88 : decode cX7_count 88 = .ok (.iadd, 1) := by decide +kernel
theorem dX7_count_89 : decode cX7_count 89 = .ok (.istore 4, 2) := by decide +kernel
theorem dX7_count_91 : decode cX7_count 91 = .ok (.iinc 6 1, 3) := by decide +kernel
theorem dX7_count_94 : decode cX7_count 94 = .ok (.goto (-74), 3) := by decide +kernel
theorem dX7_count_97 : decode cX7_count 97 = .ok (.iinc 5 1, 3) := by decide +kernel
theorem dX7_count_100 : decode cX7_count 100 = .ok (.goto (-90), 3) := by decide +kernel
theorem dX7_count_103 : decode cX7_count 103 = .ok (.iload_n 1, 1) := by decide +kernel
theorem dX7_count_104 : decode cX7_count 104 = .ok (.tableswitch 66 0 5 #[40, 45, 47, 50, 52, 57], 40) := by decide +kernel
theorem dX7_count_144 : decode cX7_count 144 = .ok (.aload_n 0, 1) := by decide +kernel
theorem dX7_count_145 : decode cX7_count 145 = .ok (.invokevirtual 80, 3) := by decide +kernel
theorem dX7_count_148 : decode cX7_count 148 = .ok (.ireturn, 1) := by decide +kernel
theorem dX7_count_149 : decode cX7_count 149 = .ok (.iload_n 2, 1) := by decide +kernel
theorem dX7_count_150 : decode cX7_count 150 = .ok (.ireturn, 1) := by decide +kernel
theorem dX7_count_151 : decode cX7_count 151 = .ok (.iload 4, 2) := by decide +kernel
theorem dX7_count_153 : decode cX7_count 153 = .ok (.ireturn, 1) := by decide +kernel
theorem dX7_count_154 : decode cX7_count 154 = .ok (.iload_n 3, 1) := by decide +kernel
theorem dX7_count_155 : decode cX7_count 155 = .ok (.ireturn, 1) := by decide +kernel
theorem dX7_count_156 : decode cX7_count 156 = .ok (.aload_n 0, 1) := by decide +kernel
theorem dX7_count_157 : decode cX7_count 157 = .ok (.getfield 201, 3) := by decide +kernel
theorem dX7_count_160 : decode cX7_count 160 = .ok (.ireturn, 1) := by decide +kernel
theorem dX7_count_161 : decode cX7_count 161 = .ok (.aload_n 0, 1) := by decide +kernel
theorem dX7_count_162 : decode cX7_count 162 = .ok (.iconst 0, 1) := by decide +kernel
theorem dX7_count_163 : decode cX7_count 163 = .ok (.iconst 0, 1) := by decide +kernel
theorem dX7_count_164 : decode cX7_count 164 = .ok (.iconst 0, 1) := by decide +kernel
theorem dX7_count_165 : decode cX7_count 165 = .ok (.invokevirtual 136, 3) := by decide +kernel
theorem dX7_count_168 : decode cX7_count 168 = .ok (.l2i, 1) := by decide +kernel
theorem dX7_count_169 : decode cX7_count 169 = .ok (.ireturn, 1) := by decide +kernel
theorem dX7_count_170 : decode cX7_count 170 = .ok (.bipush (-2), 2) := by decide +kernel
theorem dX7_count_172 : decode cX7_count 172 = .ok (.ireturn, 1) := by decide +kernel
theorem dX7_digest_0 : decode cX7_digest 0 = .ok (.ldc2_w 204, 3) := by decide +kernel
theorem dX7_digest_3 : decode cX7_digest 3 = .ok (.lstore_n 1, 1) := by decide +kernel
theorem dX7_digest_4 : decode cX7_digest 4 = .ok (.iconst 0, 1) := by decide +kernel
theorem dX7_digest_5 : decode cX7_digest 5 = .ok (.istore_n 3, 1) := by decide +kernel
theorem dX7_digest_6 : decode cX7_digest 6 = .ok (.iload_n 3, 1) := by decide +kernel
theorem dX7_digest_7 : decode cX7_digest 7 = .ok (.bipush 6, 2) := by decide +kernel
theorem dX7_digest_9 : decode cX7_digest 9 = .ok (.if_icmp .ge 22, 3) := by decide +kernel
theorem dX7_digest_12 : decode cX7_digest 12 = .ok (.ldc2_w 86, 3) := by decide +kernel
theorem dX7_digest_15 : decode cX7_digest 15 = .ok (.lload_n 1, 1) := by decide +kernel
theorem dX7_digest_16 : decode cX7_digest 16 = .ok (.lmul, 1) := by decide +kernel
theorem dX7_digest_17 : decode cX7_digest 17 = .ok (.aload_n 0, 1) := by decide +kernel
theorem dX7_digest_18 : decode cX7_digest 18 = .ok (.iload_n 3, 1) := by decide +kernel
theorem dX7_digest_19 : decode cX7_digest 19 = .ok (.invokevirtual 206, 3) := by decide +kernel
theorem dX7_digest_22 : decode cX7_digest 22 = .ok (.i2l, 1) := by decide +kernel
theorem dX7_digest_23 : decode cX7_digest 23 = .ok (.ladd, 1) := by decide +kernel
theorem dX7_digest_24 : decode cX7_digest 24 = .ok (.lstore_n 1, 1) := by decide +kernel
theorem dX7_digest_25 : decode cX7_digest 25 = .ok (.iinc 3 1, 3) := by decide +kernel
theorem dX7_digest_28 : decode cX7_digest 28 = .ok (.goto (-22), 3) := by decide +kernel
theorem dX7_digest_31 : decode cX7_digest 31 = .ok (.iconst 0, 1) := by decide +kernel
theorem dX7_digest_32 : decode cX7_digest 32 = .ok (.istore_n 3, 1) := by decide +kernel
theorem dX7_digest_33 : decode cX7_digest 33 = .ok (.iload_n 3, 1) := by decide +kernel
theorem dX7_digest_34 : decode cX7_digest 34 = .ok (.bipush 40, 2) := by decide +kernel
theorem dX7_digest_36 : decode cX7_digest 36 = .ok (.if_icmp .ge 57, 3) := by decide +kernel
theorem dX7_digest_39 : decode cX7_digest 39 = .ok (.aload_n 0, 1) := by decide +kernel
theorem dX7_digest_40 : decode cX7_digest 40 = .ok (.getfield 7, 3) := by decide +kernel
theorem dX7_digest_43 : decode cX7_digest 43 = .ok (.iload_n 3, 1) := by decide +kernel
theorem dX7_digest_44 : decode cX7_digest 44 = .ok (.baload, 1) := by decide +kernel
theorem dX7_digest_45 : decode cX7_digest 45 = .ok (.ifCond .eq 42, 3) := by decide +kernel
theorem dX7_digest_48 : decode cX7_digest 48 = .ok (.ldc2_w 86, 3) := by decide +kernel
theorem dX7_digest_51 : decode cX7_digest 51 = .ok (.lload_n 1, 1) := by decide +kernel
theorem dX7_digest_52 : decode cX7_digest 52 = .ok (.lmul, 1) := by decide +kernel
theorem dX7_digest_53 : decode cX7_digest 53 = .ok (.iload_n 3, 1) := by decide +kernel
theorem dX7_digest_54 : decode cX7_digest 54 = .ok (.i2l, 1) := by decide +kernel
theorem dX7_digest_55 : decode cX7_digest 55 = .ok (.ladd, 1) := by decide +kernel
theorem dX7_digest_56 : decode cX7_digest 56 = .ok (.lstore_n 1, 1) := by decide +kernel
theorem dX7_digest_57 : decode cX7_digest 57 = .ok (.iconst 0, 1) := by decide +kernel
theorem dX7_digest_58 : decode cX7_digest 58 = .ok (.istore 4, 2) := by decide +kernel
theorem dX7_digest_60 : decode cX7_digest 60 = .ok (.iload 4, 2) := by decide +kernel
theorem dX7_digest_62 : decode cX7_digest 62 = .ok (.iconst 5, 1) := by decide +kernel
theorem dX7_digest_63 : decode cX7_digest 63 = .ok (.if_icmp .ge 24, 3) := by decide +kernel
theorem dX7_digest_66 : decode cX7_digest 66 = .ok (.ldc2_w 86, 3) := by decide +kernel
theorem dX7_digest_69 : decode cX7_digest 69 = .ok (.lload_n 1, 1) := by decide +kernel
theorem dX7_digest_70 : decode cX7_digest 70 = .ok (.lmul, 1) := by decide +kernel
theorem dX7_digest_71 : decode cX7_digest 71 = .ok (.aload_n 0, 1) := by decide +kernel
theorem dX7_digest_72 : decode cX7_digest 72 = .ok (.iload_n 3, 1) := by decide +kernel
theorem dX7_digest_73 : decode cX7_digest 73 = .ok (.iload 4, 2) := by decide +kernel
theorem dX7_digest_75 : decode cX7_digest 75 = .ok (.invokevirtual 209, 3) := by decide +kernel
theorem dX7_digest_78 : decode cX7_digest 78 = .ok (.i2l, 1) := by decide +kernel
theorem dX7_digest_79 : decode cX7_digest 79 = .ok (.ladd, 1) := by decide +kernel
theorem dX7_digest_80 : decode cX7_digest 80 = .ok (.lstore_n 1, 1) := by decide +kernel
theorem dX7_digest_81 : decode cX7_digest 81 = .ok (.iinc 4 1, 3) := by decide +kernel
theorem dX7_digest_84 : decode cX7_digest 84 = .ok (.goto (-24), 3) := by decide +kernel
theorem dX7_digest_87 : decode cX7_digest 87 = .ok (.iinc 3 1, 3) := by decide +kernel
theorem dX7_digest_90 : decode cX7_digest 90 = .ok (.goto (-57), 3) := by decide +kernel
theorem dX7_digest_93 : decode cX7_digest 93 = .ok (.iconst 0, 1) := by decide +kernel
theorem dX7_digest_94 : decode cX7_digest 94 = .ok (.istore_n 3, 1) := by decide +kernel
theorem dX7_digest_95 : decode cX7_digest 95 = .ok (.iload_n 3, 1) := by decide +kernel
theorem dX7_digest_96 : decode cX7_digest 96 = .ok (.iconst 5, 1) := by decide +kernel
theorem dX7_digest_97 : decode cX7_digest 97 = .ok (.if_icmp .ge 45, 3) := by decide +kernel
theorem dX7_digest_100 : decode cX7_digest 100 = .ok (.iconst 0, 1) := by decide +kernel
theorem dX7_digest_101 : decode cX7_digest 101 = .ok (.istore 4, 2) := by decide +kernel
theorem dX7_digest_103 : decode cX7_digest 103 = .ok (.iload_n 3, 1) := by decide +kernel
theorem dX7_digest_104 : decode cX7_digest 104 = .ok (.iload 4, 2) := by decide +kernel
theorem dX7_digest_106 : decode cX7_digest 106 = .ok (.iadd, 1) := by decide +kernel
theorem dX7_digest_107 : decode cX7_digest 107 = .ok (.iconst 5, 1) := by decide +kernel
theorem dX7_digest_108 : decode cX7_digest 108 = .ok (.if_icmp .ge 28, 3) := by decide +kernel
theorem dX7_digest_111 : decode cX7_digest 111 = .ok (.ldc2_w 86, 3) := by decide +kernel
theorem dX7_digest_114 : decode cX7_digest 114 = .ok (.lload_n 1, 1) := by decide +kernel
theorem dX7_digest_115 : decode cX7_digest 115 = .ok (.lmul, 1) := by decide +kernel
theorem dX7_digest_116 : decode cX7_digest 116 = .ok (.aload_n 0, 1) := by decide +kernel
theorem dX7_digest_117 : decode cX7_digest 117 = .ok (.getfield 29, 3) := by decide +kernel
theorem dX7_digest_120 : decode cX7_digest 120 = .ok (.iconst 5, 1) := by decide +kernel
theorem dX7_digest_121 : decode cX7_digest 121 = .ok (.iload_n 3, 1) := by decide +kernel
theorem dX7_digest_122 : decode cX7_digest 122 = .ok (.imul, 1) := by decide +kernel
theorem dX7_digest_123 : decode cX7_digest 123 = .ok (.iload 4, 2) := by decide +kernel
theorem dX7_digest_125 : decode cX7_digest 125 = .ok (.iadd, 1) := by decide +kernel
theorem dX7_digest_126 : decode cX7_digest 126 = .ok (.iaload, 1) := by decide +kernel
theorem dX7_digest_127 : decode cX7_digest 127 = .ok (.i2l, 1) := by decide +kernel
theorem dX7_digest_128 : decode cX7_digest 128 = .ok (.ladd, 1) := by decide +kernel
theorem dX7_digest_129 : decode cX7_digest 129 = .ok (.lstore_n 1, 1) := by decide +kernel
theorem dX7_digest_130 : decode cX7_digest 130 = .ok (.iinc 4 1, 3) := by decide +kernel
theorem dX7_digest_133 : decode cX7_digest 133 = .ok (.goto (-30), 3) := by decide +kernel
theorem dX7_digest_136 : decode cX7_digest 136 = .ok (.iinc 3 1, 3) := by decide +kernel
theorem dX7_digest_139 : decode cX7_digest 139 = .ok (.goto (-44), 3) := by decide +kernel
theorem dX7_digest_142 : decode cX7_digest 142 = .ok (.ldc2_w 86, 3) := by decide +kernel
theorem dX7_digest_145 : decode cX7_digest 145 = .ok (.lload_n 1, 1) := by decide +kernel
theorem dX7_digest_146 : decode cX7_digest 146 = .ok (.lmul, 1) := by decide +kernel
theorem dX7_digest_147 : decode cX7_digest 147 = .ok (.aload_n 0, 1) := by decide +kernel
theorem dX7_digest_148 : decode cX7_digest 148 = .ok (.getfield 32, 3) := by decide +kernel
theorem dX7_digest_151 : decode cX7_digest 151 = .ok (.i2l, 1) := by decide +kernel
theorem dX7_digest_152 : decode cX7_digest 152 = .ok (.ladd, 1) := by decide +kernel
theorem dX7_digest_153 : decode cX7_digest 153 = .ok (.lstore_n 1, 1) := by decide +kernel
theorem dX7_digest_154 : decode cX7_digest 154 = .ok (.iconst 0, 1) := by decide +kernel
theorem dX7_digest_155 : decode cX7_digest 155 = .ok (.istore_n 3, 1) := by decide +kernel
theorem dX7_digest_156 : decode cX7_digest 156 = .ok (.iload_n 3, 1) := by decide +kernel
theorem dX7_digest_157 : decode cX7_digest 157 = .ok (.bipush 6, 2) := by decide +kernel
theorem dX7_digest_159 : decode cX7_digest 159 = .ok (.if_icmp .ge 110, 3) := by decide +kernel
theorem dX7_digest_162 : decode cX7_digest 162 = .ok (.iconst 0, 1) := by decide +kernel
theorem dX7_digest_163 : decode cX7_digest 163 = .ok (.istore 4, 2) := by decide +kernel
theorem dX7_digest_165 : decode cX7_digest 165 = .ok (.iload 4, 2) := by decide +kernel
theorem dX7_digest_167 : decode cX7_digest 167 = .ok (.iconst 1, 1) := by decide +kernel
theorem dX7_digest_168 : decode cX7_digest 168 = .ok (.iconst 2, 1) := by decide +kernel
theorem dX7_digest_169 : decode cX7_digest 169 = .ok (.iload_n 3, 1) := by decide +kernel
theorem dX7_digest_170 : decode cX7_digest 170 = .ok (.imul, 1) := by decide +kernel
theorem dX7_digest_171 : decode cX7_digest 171 = .ok (.ishl, 1) := by decide +kernel
theorem dX7_digest_172 : decode cX7_digest 172 = .ok (.if_icmp .ge 91, 3) := by decide +kernel
theorem dX7_digest_175 : decode cX7_digest 175 = .ok (.iload 4, 2) := by decide +kernel
theorem dX7_digest_177 : decode cX7_digest 177 = .ok (.iconst 1, 1) := by decide +kernel
theorem dX7_digest_178 : decode cX7_digest 178 = .ok (.iload_n 3, 1) := by decide +kernel
theorem dX7_digest_179 : decode cX7_digest 179 = .ok (.ishl, 1) := by decide +kernel
theorem dX7_digest_180 : decode cX7_digest 180 = .ok (.iconst 1, 1) := by decide +kernel
theorem dX7_digest_181 : decode cX7_digest 181 = .ok (.isub, 1) := by decide +kernel
theorem dX7_digest_182 : decode cX7_digest 182 = .ok (.iand, 1) := by decide +kernel
theorem dX7_digest_183 : decode cX7_digest 183 = .ok (.istore 5, 2) := by decide +kernel
theorem dX7_digest_185 : decode cX7_digest 185 = .ok (.iload 4, 2) := by decide +kernel
theorem dX7_digest_187 : decode cX7_digest 187 = .ok (.iload_n 3, 1) := by decide +kernel
theorem dX7_digest_188 : decode cX7_digest 188 = .ok (.ishr, 1) := by decide +kernel
theorem dX7_digest_189 : decode cX7_digest 189 = .ok (.istore 6, 2) := by decide +kernel
theorem dX7_digest_191 : decode cX7_digest 191 = .ok (.aload_n 0, 1) := by decide +kernel
theorem dX7_digest_192 : decode cX7_digest 192 = .ok (.iload_n 3, 1) := by decide +kernel
theorem dX7_digest_193 : decode cX7_digest 193 = .ok (.iload 5, 2) := by decide +kernel
theorem dX7_digest_195 : decode cX7_digest 195 = .ok (.iload 6, 2) := by decide +kernel
theorem dX7_digest_197 : decode cX7_digest 197 = .ok (.invokevirtual 131, 3) := by decide +kernel
theorem dX7_digest_200 : decode cX7_digest 200 = .ok (.ifCond .eq 57, 3) := by decide +kernel
theorem dX7_digest_203 : decode cX7_digest 203 = .ok (.ldc2_w 86, 3) := by decide +kernel
theorem dX7_digest_206 : decode cX7_digest 206 = .ok (.lload_n 1, 1) := by decide +kernel
theorem dX7_digest_207 : decode cX7_digest 207 = .ok (.lmul, 1) := by decide +kernel
theorem dX7_digest_208 : decode cX7_digest 208 = .ok (.aload_n 0, 1) := by decide +kernel
theorem dX7_digest_209 : decode cX7_digest 209 = .ok (.iload_n 3, 1) := by decide +kernel
theorem dX7_digest_210 : decode cX7_digest 210 = .ok (.iload 5, 2) := by decide +kernel
theorem dX7_digest_212 : decode cX7_digest 212 = .ok (.iload 6, 2) := by decide +kernel
theorem dX7_digest_214 : decode cX7_digest 214 = .ok (.iconst 0, 1) := by decide +kernel
theorem dX7_digest_215 : decode cX7_digest 215 = .ok (.iconst 0, 1) := by decide +kernel
theorem dX7_digest_216 : decode cX7_digest 216 = .ok (.invokevirtual 139, 3) := by decide +kernel
theorem dX7_digest_219 : decode cX7_digest 219 = .ok (.ladd, 1) := by decide +kernel
theorem dX7_digest_220 : decode cX7_digest 220 = .ok (.lstore_n 1, 1) := by decide +kernel
theorem dX7_digest_221 : decode cX7_digest 221 = .ok (.ldc2_w 86, 3) := by decide +kernel
theorem dX7_digest_224 : decode cX7_digest 224 = .ok (.lload_n 1, 1) := by decide +kernel
theorem dX7_digest_225 : decode cX7_digest 225 = .ok (.lmul, 1) := by decide +kernel
theorem dX7_digest_226 : decode cX7_digest 226 = .ok (.aload_n 0, 1) := by decide +kernel
theorem dX7_digest_227 : decode cX7_digest 227 = .ok (.iload_n 3, 1) := by decide +kernel
theorem dX7_digest_228 : decode cX7_digest 228 = .ok (.iload 5, 2) := by decide +kernel
theorem dX7_digest_230 : decode cX7_digest 230 = .ok (.iload 6, 2) := by decide +kernel
theorem dX7_digest_232 : decode cX7_digest 232 = .ok (.iconst 1, 1) := by decide +kernel
theorem dX7_digest_233 : decode cX7_digest 233 = .ok (.iconst 0, 1) := by decide +kernel
theorem dX7_digest_234 : decode cX7_digest 234 = .ok (.invokevirtual 139, 3) := by decide +kernel
theorem dX7_digest_237 : decode cX7_digest 237 = .ok (.ladd, 1) := by decide +kernel
theorem dX7_digest_238 : decode cX7_digest 238 = .ok (.lstore_n 1, 1) := by decide +kernel
theorem dX7_digest_239 : decode cX7_digest 239 = .ok (.ldc2_w 86, 3) := by decide +kernel
theorem dX7_digest_242 : decode cX7_digest 242 = .ok (.lload_n 1, 1) := by decide +kernel
theorem dX7_digest_243 : decode cX7_digest 243 = .ok (.lmul, 1) := by decide +kernel
theorem dX7_digest_244 : decode cX7_digest 244 = .ok (.aload_n 0, 1) := by decide +kernel
theorem dX7_digest_245 : decode cX7_digest 245 = .ok (.iload_n 3, 1) := by decide +kernel
theorem dX7_digest_246 : decode cX7_digest 246 = .ok (.iload 5, 2) := by decide +kernel
theorem dX7_digest_248 : decode cX7_digest 248 = .ok (.iload 6, 2) := by decide +kernel
theorem dX7_digest_250 : decode cX7_digest 250 = .ok (.iconst 0, 1) := by decide +kernel
theorem dX7_digest_251 : decode cX7_digest 251 = .ok (.iconst 1, 1) := by decide +kernel
theorem dX7_digest_252 : decode cX7_digest 252 = .ok (.invokevirtual 139, 3) := by decide +kernel
theorem dX7_digest_255 : decode cX7_digest 255 = .ok (.ladd, 1) := by decide +kernel
theorem dX7_digest_256 : decode cX7_digest 256 = .ok (.lstore_n 1, 1) := by decide +kernel
theorem dX7_digest_257 : decode cX7_digest 257 = .ok (.iinc 4 1, 3) := by decide +kernel
theorem dX7_digest_260 : decode cX7_digest 260 = .ok (.goto (-95), 3) := by decide +kernel
theorem dX7_digest_263 : decode cX7_digest 263 = .ok (.iinc 3 1, 3) := by decide +kernel
theorem dX7_digest_266 : decode cX7_digest 266 = .ok (.goto (-110), 3) := by decide +kernel
theorem dX7_digest_269 : decode cX7_digest 269 = .ok (.lload_n 1, 1) := by decide +kernel
theorem dX7_digest_270 : decode cX7_digest 270 = .ok (.lreturn, 1) := by decide +kernel
