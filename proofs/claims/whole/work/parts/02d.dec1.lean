theorem dX1_find_13 : decode cX1_find 13 = .ok (.iadd, 1) := by decide +kernel
theorem dX1_find_14 : decode cX1_find 14 = .ok (.invokestatic 31, 3) := by decide +kernel
theorem dX1_find_17 : decode cX1_find 17 = .ok (.istore_n 3, 1) := by decide +kernel
theorem dX1_find_18 : decode cX1_find 18 = .ok (.iconst 0, 1) := by decide +kernel
theorem dX1_find_19 : decode cX1_find 19 = .ok (.istore 4, 2) := by decide +kernel
theorem dX1_find_21 : decode cX1_find 21 = .ok (.iload 4, 2) := by decide +kernel
theorem dX1_find_23 : decode cX1_find 23 = .ok (.iload_n 3, 1) := by decide +kernel
theorem dX1_find_24 : decode cX1_find 24 = .ok (.if_icmp .gt 31, 3) := by decide +kernel
theorem dX1_find_27 : decode cX1_find 27 = .ok (.aload_n 0, 1) := by decide +kernel
theorem dX1_find_28 : decode cX1_find 28 = .ok (.getfield 15, 3) := by decide +kernel
theorem dX1_find_31 : decode cX1_find 31 = .ok (.sipush 783, 3) := by decide +kernel
theorem dX1_find_34 : decode cX1_find 34 = .ok (.iload 4, 2) := by decide +kernel
theorem dX1_find_36 : decode cX1_find 36 = .ok (.iadd, 1) := by decide +kernel
theorem dX1_find_37 : decode cX1_find 37 = .ok (.aload_n 1, 1) := by decide +kernel
theorem dX1_find_38 : decode cX1_find 38 = .ok (.getfield 37, 3) := by decide +kernel
theorem dX1_find_41 : decode cX1_find 41 = .ok (.iload 4, 2) := by decide +kernel
theorem dX1_find_43 : decode cX1_find 43 = .ok (.iload_n 2, 1) := by decide +kernel
theorem dX1_find_44 : decode cX1_find 44 = .ok (.invokestatic 31, 3) := by decide +kernel
theorem dX1_find_47 : decode cX1_find 47 = .ok (.imul, 1) := by decide +kernel
theorem dX1_find_48 : decode cX1_find 48 = .ok (.iastore, 1) := by decide +kernel
theorem dX1_find_49 : decode cX1_find 49 = .ok (.iinc 4 1, 3) := by decide +kernel
theorem dX1_find_52 : decode cX1_find 52 = .ok (.goto (-31), 3) := by decide +kernel
theorem dX1_find_55 : decode cX1_find 55 = .ok (.iconst 2, 1) := by decide +kernel
theorem dX1_find_56 : decode cX1_find 56 = .ok (.istore 4, 2) := by decide +kernel
theorem dX1_find_58 : decode cX1_find 58 = .ok (.iload 4, 2) := by decide +kernel
theorem dX1_find_60 : decode cX1_find 60 = .ok (.ifCond .lt 71, 3) := by decide +kernel
theorem dX1_find_63 : decode cX1_find 63 = .ok (.aload_n 0, 1) := by decide +kernel
theorem dX1_find_64 : decode cX1_find 64 = .ok (.aload_n 1, 1) := by decide +kernel
theorem dX1_find_65 : decode cX1_find 65 = .ok (.iload 4, 2) := by decide +kernel
theorem dX1_find_67 : decode cX1_find 67 = .ok (.invokevirtual 40, 3) := by decide +kernel
theorem dX1_find_70 : decode cX1_find 70 = .ok (.iconst 0, 1) := by decide +kernel
theorem dX1_find_71 : decode cX1_find 71 = .ok (.iload_n 3, 1) := by decide +kernel
theorem dX1_find_72 : decode cX1_find 72 = .ok (.iload 4, 2) := by decide +kernel
theorem dX1_find_74 : decode cX1_find 74 = .ok (.bipush 60, 2) := by decide +kernel
theorem dX1_find_76 : decode cX1_find 76 = .ok (.imul, 1) := by decide +kernel
theorem dX1_find_77 : decode cX1_find 77 = .ok (.isub, 1) := by decide +kernel
theorem dX1_find_78 : decode cX1_find 78 = .ok (.invokestatic 44, 3) := by decide +kernel
theorem dX1_find_81 : decode cX1_find 81 = .ok (.istore 5, 2) := by decide +kernel
theorem dX1_find_83 : decode cX1_find 83 = .ok (.iload 5, 2) := by decide +kernel
theorem dX1_find_85 : decode cX1_find 85 = .ok (.iload_n 3, 1) := by decide +kernel
theorem dX1_find_86 : decode cX1_find 86 = .ok (.if_icmp .gt 39, 3) := by decide +kernel
theorem dX1_find_89 : decode cX1_find 89 = .ok (.aload_n 0, 1) := by decide +kernel
theorem dX1_find_90 : decode cX1_find 90 = .ok (.getfield 15, 3) := by decide +kernel
theorem dX1_find_93 : decode cX1_find 93 = .ok (.iload 4, 2) := by decide +kernel
theorem dX1_find_95 : decode cX1_find 95 = .ok (.sipush 261, 3) := by decide +kernel
theorem dX1_find_98 : decode cX1_find 98 = .ok (.imul, 1) := by decide +kernel
theorem dX1_find_99 : decode cX1_find 99 = .ok (.iload 5, 2) := by decide +kernel
theorem dX1_find_101 : decode cX1_find 101 = .ok (.iadd, 1) := by decide +kernel
theorem dX1_find_102 : decode cX1_find 102 = .ok (.aload_n 0, 1) := by decide +kernel
theorem dX1_find_103 : decode cX1_find 103 = .ok (.iload 4, 2) := by decide +kernel
theorem dX1_find_105 : decode cX1_find 105 = .ok (.iload 5, 2) := by decide +kernel
theorem dX1_find_107 : decode cX1_find 107 = .ok (.aload_n 0, 1) := by decide +kernel
theorem dX1_find_108 : decode cX1_find 108 = .ok (.iload 4, 2) := by decide +kernel
theorem dX1_find_110 : decode cX1_find 110 = .ok (.iload 5, 2) := by decide +kernel
theorem dX1_find_112 : decode cX1_find 112 = .ok (.invokevirtual 47, 3) := by decide +kernel
theorem dX1_find_115 : decode cX1_find 115 = .ok (.invokevirtual 50, 3) := by decide +kernel
theorem dX1_find_118 : decode cX1_find 118 = .ok (.iastore, 1) := by decide +kernel
theorem dX1_find_119 : decode cX1_find 119 = .ok (.iinc 5 1, 3) := by decide +kernel
theorem dX1_find_122 : decode cX1_find 122 = .ok (.goto (-39), 3) := by decide +kernel
theorem dX1_find_125 : decode cX1_find 125 = .ok (.iinc 4 (-1), 3) := by decide +kernel
theorem dX1_find_128 : decode cX1_find 128 = .ok (.goto (-70), 3) := by decide +kernel
theorem dX1_find_131 : decode cX1_find 131 = .ok (.aload_n 0, 1) := by decide +kernel
theorem dX1_find_132 : decode cX1_find 132 = .ok (.aload_n 0, 1) := by decide +kernel
theorem dX1_find_133 : decode cX1_find 133 = .ok (.getfield 15, 3) := by decide +kernel
theorem dX1_find_136 : decode cX1_find 136 = .ok (.iload_n 3, 1) := by decide +kernel
theorem dX1_find_137 : decode cX1_find 137 = .ok (.iaload, 1) := by decide +kernel
theorem dX1_find_138 : decode cX1_find 138 = .ok (.putfield 54, 3) := by decide +kernel
theorem dX1_find_141 : decode cX1_find 141 = .ok (.iload_n 3, 1) := by decide +kernel
theorem dX1_find_142 : decode cX1_find 142 = .ok (.istore 4, 2) := by decide +kernel
theorem dX1_find_144 : decode cX1_find 144 = .ok (.iconst 0, 1) := by decide +kernel
theorem dX1_find_145 : decode cX1_find 145 = .ok (.istore 5, 2) := by decide +kernel
theorem dX1_find_147 : decode cX1_find 147 = .ok (.iload 5, 2) := by decide +kernel
theorem dX1_find_149 : decode cX1_find 149 = .ok (.iconst 3, 1) := by decide +kernel
theorem dX1_find_150 : decode cX1_find 150 = .ok (.if_icmp .ge 36, 3) := by decide +kernel
theorem dX1_find_153 : decode cX1_find 153 = .ok (.aload_n 0, 1) := by decide +kernel
theorem dX1_find_154 : decode cX1_find 154 = .ok (.getfield 18, 3) := by decide +kernel
theorem dX1_find_157 : decode cX1_find 157 = .ok (.iload 5, 2) := by decide +kernel
theorem dX1_find_159 : decode cX1_find 159 = .ok (.aload_n 0, 1) := by decide +kernel
theorem dX1_find_160 : decode cX1_find 160 = .ok (.iload 5, 2) := by decide +kernel
theorem dX1_find_162 : decode cX1_find 162 = .ok (.iload 4, 2) := by decide +kernel
theorem dX1_find_164 : decode cX1_find 164 = .ok (.invokevirtual 47, 3) := by decide +kernel
theorem dX1_find_167 : decode cX1_find 167 = .ok (.iastore, 1) := by decide +kernel
theorem dX1_find_168 : decode cX1_find 168 = .ok (.iload 4, 2) := by decide +kernel
theorem dX1_find_170 : decode cX1_find 170 = .ok (.aload_n 0, 1) := by decide +kernel
theorem dX1_find_171 : decode cX1_find 171 = .ok (.getfield 18, 3) := by decide +kernel
theorem dX1_find_174 : decode cX1_find 174 = .ok (.iload 5, 2) := by decide +kernel
theorem dX1_find_176 : decode cX1_find 176 = .ok (.iaload, 1) := by decide +kernel
theorem dX1_find_177 : decode cX1_find 177 = .ok (.isub, 1) := by decide +kernel
theorem dX1_find_178 : decode cX1_find 178 = .ok (.istore 4, 2) := by decide +kernel
theorem dX1_find_180 : decode cX1_find 180 = .ok (.iinc 5 1, 3) := by decide +kernel
theorem dX1_find_183 : decode cX1_find 183 = .ok (.goto (-36), 3) := by decide +kernel
theorem dX1_find_186 : decode cX1_find 186 = .ok (.return_, 1) := by decide +kernel
theorem dX1_fillWorths_0 : decode cX1_fillWorths 0 = .ok (.iconst 0, 1) := by decide +kernel
theorem dX1_fillWorths_1 : decode cX1_fillWorths 1 = .ok (.istore_n 3, 1) := by decide +kernel
theorem dX1_fillWorths_2 : decode cX1_fillWorths 2 = .ok (.iload_n 3, 1) := by decide +kernel
theorem dX1_fillWorths_3 : decode cX1_fillWorths 3 = .ok (.bipush 61, 2) := by decide +kernel
theorem dX1_fillWorths_5 : decode cX1_fillWorths 5 = .ok (.if_icmp .ge 56, 3) := by decide +kernel
theorem dX1_fillWorths_8 : decode cX1_fillWorths 8 = .ok (.iconst 0, 1) := by decide +kernel
theorem dX1_fillWorths_9 : decode cX1_fillWorths 9 = .ok (.istore 4, 2) := by decide +kernel
theorem dX1_fillWorths_11 : decode cX1_fillWorths 11 = .ok (.iconst 0, 1) := by decide +kernel
theorem dX1_fillWorths_12 : decode cX1_fillWorths 12 = .ok (.istore 5, 2) := by decide +kernel
theorem dX1_fillWorths_14 : decode cX1_fillWorths 14 = .ok (.iload 5, 2) := by decide +kernel
theorem dX1_fillWorths_16 : decode cX1_fillWorths 16 = .ok (.aload_n 1, 1) := by decide +kernel
theorem dX1_fillWorths_17 : decode cX1_fillWorths 17 = .ok (.getfield 57, 3) := by decide +kernel
theorem dX1_fillWorths_20 : decode cX1_fillWorths 20 = .ok (.if_icmp .ge 22, 3) := by decide +kernel
theorem dX1_fillWorths_23 : decode cX1_fillWorths 23 = .ok (.iload 4, 2) := by decide +kernel
theorem dX1_fillWorths_25 : decode cX1_fillWorths 25 = .ok (.aload_n 1, 1) := by decide +kernel
theorem dX1_fillWorths_26 : decode cX1_fillWorths 26 = .ok (.iload 5, 2) := by decide +kernel
theorem dX1_fillWorths_28 : decode cX1_fillWorths 28 = .ok (.iload_n 2, 1) := by decide +kernel
theorem dX1_fillWorths_29 : decode cX1_fillWorths 29 = .ok (.iload_n 3, 1) := by decide +kernel
theorem dX1_fillWorths_30 : decode cX1_fillWorths 30 = .ok (.invokevirtual 60, 3) := by decide +kernel
theorem dX1_fillWorths_33 : decode cX1_fillWorths 33 = .ok (.iadd, 1) := by decide +kernel
theorem dX1_fillWorths_34 : decode cX1_fillWorths 34 = .ok (.istore 4, 2) := by decide +kernel
theorem dX1_fillWorths_36 : decode cX1_fillWorths 36 = .ok (.iinc 5 1, 3) := by decide +kernel
theorem dX1_fillWorths_39 : decode cX1_fillWorths 39 = .ok (.goto (-25), 3) := by decide +kernel
theorem dX1_fillWorths_42 : decode cX1_fillWorths 42 = .ok (.aload_n 0, 1) := by decide +kernel
theorem dX1_fillWorths_43 : decode cX1_fillWorths 43 = .ok (.getfield 11, 3) := by decide +kernel
theorem dX1_fillWorths_46 : decode cX1_fillWorths 46 = .ok (.iload_n 2, 1) := by decide +kernel
theorem dX1_fillWorths_47 : decode cX1_fillWorths 47 = .ok (.bipush 61, 2) := by decide +kernel
theorem dX1_fillWorths_49 : decode cX1_fillWorths 49 = .ok (.imul, 1) := by decide +kernel
theorem dX1_fillWorths_50 : decode cX1_fillWorths 50 = .ok (.iload_n 3, 1) := by decide +kernel
theorem dX1_fillWorths_51 : decode cX1_fillWorths 51 = .ok (.iadd, 1) := by decide +kernel
theorem dX1_fillWorths_52 : decode cX1_fillWorths 52 = .ok (.iload 4, 2) := by decide +kernel
theorem dX1_fillWorths_54 : decode cX1_fillWorths 54 = .ok (.iastore, 1) := by decide +kernel
theorem dX1_fillWorths_55 : decode cX1_fillWorths 55 = .ok (.iinc 3 1, 3) := by decide +kernel
theorem dX1_fillWorths_58 : decode cX1_fillWorths 58 = .ok (.goto (-56), 3) := by decide +kernel
theorem dX1_fillWorths_61 : decode cX1_fillWorths 61 = .ok (.return_, 1) := by decide +kernel
theorem dX1_firstBest_0 : decode cX1_firstBest 0 = .ok (.iconst 0, 1) := by decide +kernel
theorem dX1_firstBest_1 : decode cX1_firstBest 1 = .ok (.istore_n 3, 1) := by decide +kernel
theorem dX1_firstBest_2 : decode cX1_firstBest 2 = .ok (.aload_n 0, 1) := by decide +kernel
theorem dX1_firstBest_3 : decode cX1_firstBest 3 = .ok (.iload_n 1, 1) := by decide +kernel
theorem dX1_firstBest_4 : decode cX1_firstBest 4 = .ok (.iload_n 2, 1) := by decide +kernel
theorem dX1_firstBest_5 : decode cX1_firstBest 5 = .ok (.iconst 0, 1) := by decide +kernel
theorem dX1_firstBest_6 : decode cX1_firstBest 6 = .ok (.invokevirtual 50, 3) := by decide +kernel
theorem dX1_firstBest_9 : decode cX1_firstBest 9 = .ok (.istore 4, 2) := by decide +kernel
theorem dX1_firstBest_11 : decode cX1_firstBest 11 = .ok (.bipush 60, 2) := by decide +kernel
theorem dX1_firstBest_13 : decode cX1_firstBest 13 = .ok (.iload_n 2, 1) := by decide +kernel
theorem dX1_firstBest_14 : decode cX1_firstBest 14 = .ok (.invokestatic 31, 3) := by decide +kernel
theorem dX1_firstBest_17 : decode cX1_firstBest 17 = .ok (.istore 5, 2) := by decide +kernel
theorem dX1_firstBest_19 : decode cX1_firstBest 19 = .ok (.iconst 1, 1) := by decide +kernel
theorem dX1_firstBest_20 : decode cX1_firstBest 20 = .ok (.istore 6, 2) := by decide +kernel
theorem dX1_firstBest_22 : decode cX1_firstBest 22 = .ok (.iload 6, 2) := by decide +kernel
theorem dX1_firstBest_24 : decode cX1_firstBest 24 = .ok (.iload 5, 2) := by decide +kernel
theorem dX1_firstBest_26 : decode cX1_firstBest 26 = .ok (.if_icmp .gt 33, 3) := by decide +kernel
theorem dX1_firstBest_29 : decode cX1_firstBest 29 = .ok (.aload_n 0, 1) := by decide +kernel
theorem dX1_firstBest_30 : decode cX1_firstBest 30 = .ok (.iload_n 1, 1) := by decide +kernel
theorem dX1_firstBest_31 : decode cX1_firstBest 31 = .ok (.iload_n 2, 1) := by decide +kernel
theorem dX1_firstBest_32 : decode cX1_firstBest 32 = .ok (.iload 6, 2) := by decide +kernel
theorem dX1_firstBest_34 : decode cX1_firstBest 34 = .ok (.invokevirtual 50, 3) := by decide +kernel
theorem dX1_firstBest_37 : decode cX1_firstBest 37 = .ok (.istore 7, 2) := by decide +kernel
theorem dX1_firstBest_39 : decode cX1_firstBest 39 = .ok (.iload 7, 2) := by decide +kernel
theorem dX1_firstBest_41 : decode cX1_firstBest 41 = .ok (.iload 4, 2) := by decide +kernel
theorem dX1_firstBest_43 : decode cX1_firstBest 43 = .ok (.if_icmp .le 10, 3) := by decide +kernel
theorem dX1_firstBest_46 : decode cX1_firstBest 46 = .ok (.iload 7, 2) := by decide +kernel
theorem dX1_firstBest_48 : decode cX1_firstBest 48 = .ok (.istore 4, 2) := by decide +kernel
theorem dX1_firstBest_50 : decode cX1_firstBest 50 = .ok (.iload 6, 2) := by decide +kernel
theorem dX1_firstBest_52 : decode cX1_firstBest 52 = .ok (.istore_n 3, 1) := by decide +kernel
theorem dX1_firstBest_53 : decode cX1_firstBest 53 = .ok (.iinc 6 1, 3) := by decide +kernel
theorem dX1_firstBest_56 : decode cX1_firstBest 56 = .ok (.goto (-34), 3) := by decide +kernel
theorem dX1_firstBest_59 : decode cX1_firstBest 59 = .ok (.iload_n 3, 1) := by decide +kernel
theorem dX1_firstBest_60 : decode cX1_firstBest 60 = .ok (.ireturn, 1) := by decide +kernel
theorem dX1_haveBy_0 : decode cX1_haveBy 0 = .ok (.aload_n 0, 1) := by decide +kernel
theorem dX1_haveBy_1 : decode cX1_haveBy 1 = .ok (.getfield 11, 3) := by decide +kernel
theorem dX1_haveBy_4 : decode cX1_haveBy 4 = .ok (.iload_n 1, 1) := by decide +kernel
theorem dX1_haveBy_5 : decode cX1_haveBy 5 = .ok (.bipush 61, 2) := by decide +kernel
theorem dX1_haveBy_7 : decode cX1_haveBy 7 = .ok (.imul, 1) := by decide +kernel
theorem dX1_haveBy_8 : decode cX1_haveBy 8 = .ok (.iload_n 3, 1) := by decide +kernel
theorem dX1_haveBy_9 : decode cX1_haveBy 9 = .ok (.iadd, 1) := by decide +kernel
theorem dX1_haveBy_10 : decode cX1_haveBy 10 = .ok (.iaload, 1) := by decide +kernel
theorem dX1_haveBy_11 : decode cX1_haveBy 11 = .ok (.aload_n 0, 1) := by decide +kernel
theorem dX1_haveBy_12 : decode cX1_haveBy 12 = .ok (.getfield 15, 3) := by decide +kernel
theorem dX1_haveBy_15 : decode cX1_haveBy 15 = .ok (.iload_n 1, 1) := by decide +kernel
theorem dX1_haveBy_16 : decode cX1_haveBy 16 = .ok (.iconst 1, 1) := by decide +kernel
theorem dX1_haveBy_17 : decode cX1_haveBy 17 = .ok (.iadd, 1) := by decide +kernel
theorem dX1_haveBy_18 : decode cX1_haveBy 18 = .ok (.sipush 261, 3) := by decide +kernel
theorem dX1_haveBy_21 : decode cX1_haveBy 21 = .ok (.imul, 1) := by decide +kernel
theorem dX1_haveBy_22 : decode cX1_haveBy 22 = .ok (.iload_n 2, 1) := by decide +kernel
theorem dX1_haveBy_23 : decode cX1_haveBy 23 = .ok (.iadd, 1) := by decide +kernel
theorem dX1_haveBy_24 : decode cX1_haveBy 24 = .ok (.iload_n 3, 1) := by decide +kernel
theorem dX1_haveBy_25 : decode cX1_haveBy 25 = .ok (.isub, 1) := by decide +kernel
theorem dX1_haveBy_26 : decode cX1_haveBy 26 = .ok (.iaload, 1) := by decide +kernel
theorem dX1_haveBy_27 : decode cX1_haveBy 27 = .ok (.iadd, 1) := by decide +kernel
theorem dX1_haveBy_28 : decode cX1_haveBy 28 = .ok (.ireturn, 1) := by decide +kernel
theorem dX3_init_0 : decode cX3_init 0 = .ok (.aload_n 0, 1) := by decide +kernel
theorem dX3_init_1 : decode cX3_init 1 = .ok (.invokespecial 3, 3) := by decide +kernel
theorem dX3_init_4 : decode cX3_init 4 = .ok (.aload_n 0, 1) := by decide +kernel
theorem dX3_init_5 : decode cX3_init 5 = .ok (.iconst 3, 1) := by decide +kernel
theorem dX3_init_6 : decode cX3_init 6 = .ok (.newarray .int, 2) := by decide +kernel
theorem dX3_init_8 : decode cX3_init 8 = .ok (.putfield 9, 3) := by decide +kernel
theorem dX3_init_11 : decode cX3_init 11 = .ok (.aload_n 0, 1) := by decide +kernel
theorem dX3_init_12 : decode cX3_init 12 = .ok (.iconst 3, 1) := by decide +kernel
theorem dX3_init_13 : decode cX3_init 13 = .ok (.newarray .int, 2) := by decide +kernel
theorem dX3_init_15 : decode cX3_init 15 = .ok (.putfield 15, 3) := by decide +kernel
theorem dX3_init_18 : decode cX3_init 18 = .ok (.aload_n 0, 1) := by decide +kernel
theorem dX3_init_19 : decode cX3_init 19 = .ok (.iconst 3, 1) := by decide +kernel
theorem dX3_init_20 : decode cX3_init 20 = .ok (.newarray .int, 2) := by decide +kernel
theorem dX3_init_22 : decode cX3_init 22 = .ok (.putfield 18, 3) := by decide +kernel
theorem dX3_init_25 : decode cX3_init 25 = .ok (.aload_n 0, 1) := by decide +kernel
theorem dX3_init_26 : decode cX3_init 26 = .ok (.aload_n 1, 1) := by decide +kernel
theorem dX3_init_27 : decode cX3_init 27 = .ok (.putfield 21, 3) := by decide +kernel
theorem dX3_init_30 : decode cX3_init 30 = .ok (.return_, 1) := by decide +kernel
theorem dX3_fill_0 : decode cX3_fill 0 = .ok (.iconst 0, 1) := by decide +kernel
theorem dX3_fill_1 : decode cX3_fill 1 = .ok (.istore_n 2, 1) := by decide +kernel
theorem dX3_fill_2 : decode cX3_fill 2 = .ok (.iload_n 2, 1) := by decide +kernel
theorem dX3_fill_3 : decode cX3_fill 3 = .ok (.iconst 3, 1) := by decide +kernel
theorem dX3_fill_4 : decode cX3_fill 4 = .ok (.if_icmp .ge 23, 3) := by decide +kernel
theorem dX3_fill_7 : decode cX3_fill 7 = .ok (.aload_n 0, 1) := by decide +kernel
theorem dX3_fill_8 : decode cX3_fill 8 = .ok (.getfield 9, 3) := by decide +kernel
theorem dX3_fill_11 : decode cX3_fill 11 = .ok (.iload_n 2, 1) := by decide +kernel
theorem dX3_fill_12 : decode cX3_fill 12 = .ok (.iconst 0, 1) := by decide +kernel
theorem dX3_fill_13 : decode cX3_fill 13 = .ok (.iastore, 1) := by decide +kernel
theorem dX3_fill_14 : decode cX3_fill 14 = .ok (.aload_n 0, 1) := by decide +kernel
theorem dX3_fill_15 : decode cX3_fill 15 = .ok (.getfield 15, 3) := by decide +kernel
theorem dX3_fill_18 : decode cX3_fill 18 = .ok (.iload_n 2, 1) := by decide +kernel
theorem dX3_fill_19 : decode cX3_fill 19 = .ok (.iconst 0, 1) := by decide +kernel
theorem dX3_fill_20 : decode cX3_fill 20 = .ok (.iastore, 1) := by decide +kernel
theorem dX3_fill_21 : decode cX3_fill 21 = .ok (.iinc 2 1, 3) := by decide +kernel
theorem dX3_fill_24 : decode cX3_fill 24 = .ok (.goto (-22), 3) := by decide +kernel
theorem dX3_fill_27 : decode cX3_fill 27 = .ok (.iconst 0, 1) := by decide +kernel
theorem dX3_fill_28 : decode cX3_fill 28 = .ok (.istore_n 2, 1) := by decide +kernel
theorem dX3_fill_29 : decode cX3_fill 29 = .ok (.iload_n 2, 1) := by decide +kernel
theorem dX3_fill_30 : decode cX3_fill 30 = .ok (.aload_n 1, 1) := by decide +kernel
theorem dX3_fill_31 : decode cX3_fill 31 = .ok (.getfield 25, 3) := by decide +kernel
theorem dX3_fill_34 : decode cX3_fill 34 = .ok (.if_icmp .ge 52, 3) := by decide +kernel
theorem dX3_fill_37 : decode cX3_fill 37 = .ok (.aload_n 0, 1) := by decide +kernel
theorem dX3_fill_38 : decode cX3_fill 38 = .ok (.getfield 21, 3) := by decide +kernel
theorem dX3_fill_41 : decode cX3_fill 41 = .ok (.aload_n 1, 1) := by decide +kernel
theorem dX3_fill_42 : decode cX3_fill 42 = .ok (.iload_n 2, 1) := by decide +kernel
theorem dX3_fill_43 : decode cX3_fill 43 = .ok (.iconst (-1), 1) := by decide +kernel
theorem dX3_fill_44 : decode cX3_fill 44 = .ok (.invokevirtual 31, 3) := by decide +kernel
theorem dX3_fill_47 : decode cX3_fill 47 = .ok (.aload_n 0, 1) := by decide +kernel
theorem dX3_fill_48 : decode cX3_fill 48 = .ok (.getfield 9, 3) := by decide +kernel
theorem dX3_fill_51 : decode cX3_fill 51 = .ok (.iload_n 2, 1) := by decide +kernel
theorem dX3_fill_52 : decode cX3_fill 52 = .ok (.aload_n 1, 1) := by decide +kernel
theorem dX3_fill_53 : decode cX3_fill 53 = .ok (.iload_n 2, 1) := by decide +kernel
theorem dX3_fill_54 : decode cX3_fill 54 = .ok (.invokevirtual 37, 3) := by decide +kernel
theorem dX3_fill_57 : decode cX3_fill 57 = .ok (.iastore, 1) := by decide +kernel
theorem dX3_fill_58 : decode cX3_fill 58 = .ok (.aload_n 0, 1) := by decide +kernel
theorem dX3_fill_59 : decode cX3_fill 59 = .ok (.getfield 15, 3) := by decide +kernel
theorem dX3_fill_62 : decode cX3_fill 62 = .ok (.iload_n 2, 1) := by decide +kernel
theorem dX3_fill_63 : decode cX3_fill 63 = .ok (.aload_n 0, 1) := by decide +kernel
theorem dX3_fill_64 : decode cX3_fill 64 = .ok (.getfield 21, 3) := by decide +kernel
theorem dX3_fill_67 : decode cX3_fill 67 = .ok (.aload_n 1, 1) := by decide +kernel
theorem dX3_fill_68 : decode cX3_fill 68 = .ok (.getfield 41, 3) := by decide +kernel
theorem dX3_fill_71 : decode cX3_fill 71 = .ok (.aload_n 1, 1) := by decide +kernel
theorem dX3_fill_72 : decode cX3_fill 72 = .ok (.getfield 45, 3) := by decide +kernel
theorem dX3_fill_75 : decode cX3_fill 75 = .ok (.aaload, 1) := by decide +kernel
theorem dX3_fill_76 : decode cX3_fill 76 = .ok (.invokevirtual 48, 3) := by decide +kernel
theorem dX3_fill_79 : decode cX3_fill 79 = .ok (.iastore, 1) := by decide +kernel
theorem dX3_fill_80 : decode cX3_fill 80 = .ok (.iinc 2 1, 3) := by decide +kernel
theorem dX3_fill_83 : decode cX3_fill 83 = .ok (.goto (-54), 3) := by decide +kernel
theorem dX3_fill_86 : decode cX3_fill 86 = .ok (.aload_n 0, 1) := by decide +kernel
theorem dX3_fill_87 : decode cX3_fill 87 = .ok (.aload_n 1, 1) := by decide +kernel
theorem dX3_fill_88 : decode cX3_fill 88 = .ok (.invokevirtual 52, 3) := by decide +kernel
theorem dX3_fill_91 : decode cX3_fill 91 = .ok (.return_, 1) := by decide +kernel
theorem dX3_partPurse_0 : decode cX3_partPurse 0 = .ok (.iconst 0, 1) := by decide +kernel
theorem dX3_partPurse_1 : decode cX3_partPurse 1 = .ok (.istore_n 2, 1) := by decide +kernel
theorem dX3_partPurse_2 : decode cX3_partPurse 2 = .ok (.iconst 0, 1) := by decide +kernel
theorem dX3_partPurse_3 : decode cX3_partPurse 3 = .ok (.istore_n 3, 1) := by decide +kernel
theorem dX3_partPurse_4 : decode cX3_partPurse 4 = .ok (.iload_n 3, 1) := by decide +kernel
theorem dX3_partPurse_5 : decode cX3_partPurse 5 = .ok (.iconst 3, 1) := by decide +kernel
theorem dX3_partPurse_6 : decode cX3_partPurse 6 = .ok (.if_icmp .ge 30, 3) := by decide +kernel
theorem dX3_partPurse_9 : decode cX3_partPurse 9 = .ok (.iload_n 2, 1) := by decide +kernel
theorem dX3_partPurse_10 : decode cX3_partPurse 10 = .ok (.aload_n 0, 1) := by decide +kernel
theorem dX3_partPurse_11 : decode cX3_partPurse 11 = .ok (.getfield 15, 3) := by decide +kernel
theorem dX3_partPurse_14 : decode cX3_partPurse 14 = .ok (.iload_n 3, 1) := by decide +kernel
theorem dX3_partPurse_15 : decode cX3_partPurse 15 = .ok (.iaload, 1) := by decide +kernel
theorem dX3_partPurse_16 : decode cX3_partPurse 16 = .ok (.iadd, 1) := by decide +kernel
theorem dX3_partPurse_17 : decode cX3_partPurse 17 = .ok (.istore_n 2, 1) := by decide +kernel
theorem dX3_partPurse_18 : decode cX3_partPurse 18 = .ok (.aload_n 0, 1) := by decide +kernel
theorem dX3_partPurse_19 : decode cX3_partPurse 19 = .ok (.getfield 18, 3) := by decide +kernel
theorem dX3_partPurse_22 : decode cX3_partPurse 22 = .ok (.iload_n 3, 1) := by decide +kernel
theorem dX3_partPurse_23 : decode cX3_partPurse 23 = .ok (.aload_n 0, 1) := by decide +kernel
theorem dX3_partPurse_24 : decode cX3_partPurse 24 = .ok (.getfield 15, 3) := by decide +kernel
theorem dX3_partPurse_27 : decode cX3_partPurse 27 = .ok (.iload_n 3, 1) := by decide +kernel
theorem dX3_partPurse_28 : decode cX3_partPurse 28 = .ok (.iaload, 1) := by decide +kernel
theorem dX3_partPurse_29 : decode cX3_partPurse 29 = .ok (.iastore, 1) := by decide +kernel
theorem dX3_partPurse_30 : decode cX3_partPurse 30 = .ok (.iinc 3 1, 3) := by decide +kernel
theorem dX3_partPurse_33 : decode cX3_partPurse 33 = .ok (.goto (-29), 3) := by decide +kernel
theorem dX3_partPurse_36 : decode cX3_partPurse 36 = .ok (.aload_n 0, 1) := by decide +kernel
theorem dX3_partPurse_37 : decode cX3_partPurse 37 = .ok (.iload_n 2, 1) := by decide +kernel
theorem dX3_partPurse_38 : decode cX3_partPurse 38 = .ok (.aload_n 1, 1) := by decide +kernel
theorem dX3_partPurse_39 : decode cX3_partPurse 39 = .ok (.getfield 56, 3) := by decide +kernel
theorem dX3_partPurse_42 : decode cX3_partPurse 42 = .ok (.if_icmp .le 7, 3) := by decide +kernel
theorem dX3_partPurse_45 : decode cX3_partPurse 45 = .ok (.iconst 1, 1) := by decide +kernel
theorem dX3_partPurse_46 : decode cX3_partPurse 46 = .ok (.goto 4, 3) := by decide +kernel
theorem dX3_partPurse_49 : decode cX3_partPurse 49 = .ok (.iconst 0, 1) := by decide +kernel
theorem dX3_partPurse_50 : decode cX3_partPurse 50 = .ok (.putfield 59, 3) := by decide +kernel
theorem dX3_partPurse_53 : decode cX3_partPurse 53 = .ok (.aload_n 0, 1) := by decide +kernel
theorem dX3_partPurse_54 : decode cX3_partPurse 54 = .ok (.getfield 59, 3) := by decide +kernel
theorem dX3_partPurse_57 : decode cX3_partPurse 57 = .ok (.ifCond .ne 4, 3) := by decide +kernel
theorem dX3_partPurse_60 : decode cX3_partPurse 60 = .ok (.return_, 1) := by decide +kernel
theorem dX3_partPurse_61 : decode cX3_partPurse 61 = .ok (.aload_n 1, 1) := by decide +kernel
theorem dX3_partPurse_62 : decode cX3_partPurse 62 = .ok (.getfield 63, 3) := by decide +kernel
theorem dX3_partPurse_65 : decode cX3_partPurse 65 = .ok (.ifCond .ne 15, 3) := by decide +kernel
theorem dX3_partPurse_68 : decode cX3_partPurse 68 = .ok (.aload_n 0, 1) := by decide +kernel
theorem dX3_partPurse_69 : decode cX3_partPurse 69 = .ok (.aload_n 1, 1) := by decide +kernel
theorem dX3_partPurse_70 : decode cX3_partPurse 70 = .ok (.getfield 56, 3) := by decide +kernel
theorem dX3_partPurse_73 : decode cX3_partPurse 73 = .ok (.iload_n 2, 1) := by decide +kernel
theorem dX3_partPurse_74 : decode cX3_partPurse 74 = .ok (.invokevirtual 66, 3) := by decide +kernel
theorem dX3_partPurse_77 : decode cX3_partPurse 77 = .ok (.goto 30, 3) := by decide +kernel
theorem dX3_partPurse_80 : decode cX3_partPurse 80 = .ok (.aload_n 1, 1) := by decide +kernel
theorem dX3_partPurse_81 : decode cX3_partPurse 81 = .ok (.getfield 63, 3) := by decide +kernel
theorem dX3_partPurse_84 : decode cX3_partPurse 84 = .ok (.iconst 1, 1) := by decide +kernel
theorem dX3_partPurse_85 : decode cX3_partPurse 85 = .ok (.if_icmp .ne 14, 3) := by decide +kernel
theorem dX3_partPurse_88 : decode cX3_partPurse 88 = .ok (.aload_n 0, 1) := by decide +kernel
theorem dX3_partPurse_89 : decode cX3_partPurse 89 = .ok (.aload_n 1, 1) := by decide +kernel
theorem dX3_partPurse_90 : decode cX3_partPurse 90 = .ok (.getfield 56, 3) := by decide +kernel
theorem dX3_partPurse_93 : decode cX3_partPurse 93 = .ok (.invokevirtual 70, 3) := by decide +kernel
theorem dX3_partPurse_96 : decode cX3_partPurse 96 = .ok (.goto 11, 3) := by decide +kernel
theorem dX3_partPurse_99 : decode cX3_partPurse 99 = .ok (.aload_n 0, 1) := by decide +kernel
theorem dX3_partPurse_100 : decode cX3_partPurse 100 = .ok (.aload_n 1, 1) := by decide +kernel
theorem dX3_partPurse_101 : decode cX3_partPurse 101 = .ok (.getfield 56, 3) := by decide +kernel
theorem dX3_partPurse_104 : decode cX3_partPurse 104 = .ok (.invokevirtual 74, 3) := by decide +kernel
theorem dX3_partPurse_107 : decode cX3_partPurse 107 = .ok (.return_, 1) := by decide +kernel
theorem dX3_partByShare_0 : decode cX3_partByShare 0 = .ok (.iconst 0, 1) := by decide +kernel
theorem dX3_partByShare_1 : decode cX3_partByShare 1 = .ok (.istore_n 3, 1) := by decide +kernel
theorem dX3_partByShare_2 : decode cX3_partByShare 2 = .ok (.iload_n 3, 1) := by decide +kernel
theorem dX3_partByShare_3 : decode cX3_partByShare 3 = .ok (.iconst 3, 1) := by decide +kernel
theorem dX3_partByShare_4 : decode cX3_partByShare 4 = .ok (.if_icmp .ge 33, 3) := by decide +kernel
theorem dX3_partByShare_7 : decode cX3_partByShare 7 = .ok (.aload_n 0, 1) := by decide +kernel
theorem dX3_partByShare_8 : decode cX3_partByShare 8 = .ok (.getfield 18, 3) := by decide +kernel
theorem dX3_partByShare_11 : decode cX3_partByShare 11 = .ok (.iload_n 3, 1) := by decide +kernel
theorem dX3_partByShare_12 : decode cX3_partByShare 12 = .ok (.iload_n 2, 1) := by decide +kernel
theorem dX3_partByShare_13 : decode cX3_partByShare 13 = .ok (.ifCond .le 16, 3) := by decide +kernel
theorem dX3_partByShare_16 : decode cX3_partByShare 16 = .ok (.aload_n 0, 1) := by decide +kernel
theorem dX3_partByShare_17 : decode cX3_partByShare 17 = .ok (.getfield 15, 3) := by decide +kernel
theorem dX3_partByShare_20 : decode cX3_partByShare 20 = .ok (.iload_n 3, 1) := by decide +kernel
theorem dX3_partByShare_21 : decode cX3_partByShare 21 = .ok (.iaload, 1) := by decide +kernel
theorem dX3_partByShare_22 : decode cX3_partByShare 22 = .ok (.iload_n 1, 1) := by decide +kernel
theorem dX3_partByShare_23 : decode cX3_partByShare 23 = .ok (.imul, 1) := by decide +kernel
theorem dX3_partByShare_24 : decode cX3_partByShare 24 = .ok (.iload_n 2, 1) := by decide +kernel
theorem dX3_partByShare_25 : decode cX3_partByShare 25 = .ok (.idiv, 1) := by decide +kernel
theorem dX3_partByShare_26 : decode cX3_partByShare 26 = .ok (.goto 4, 3) := by decide +kernel
theorem dX3_partByShare_29 : decode cX3_partByShare 29 = .ok (.iconst 0, 1) := by decide +kernel
theorem dX3_partByShare_30 : decode cX3_partByShare 30 = .ok (.iastore, 1) := by decide +kernel
theorem dX3_partByShare_31 : decode cX3_partByShare 31 = .ok (.iinc 3 1, 3) := by decide +kernel
theorem dX3_partByShare_34 : decode cX3_partByShare 34 = .ok (.goto (-32), 3) := by decide +kernel
theorem dX3_partByShare_37 : decode cX3_partByShare 37 = .ok (.return_, 1) := by decide +kernel
theorem dX3_partByNumber_0 : decode cX3_partByNumber 0 = .ok (.iload_n 1, 1) := by decide +kernel
theorem dX3_partByNumber_1 : decode cX3_partByNumber 1 = .ok (.istore_n 2, 1) := by decide +kernel
theorem dX3_partByNumber_2 : decode cX3_partByNumber 2 = .ok (.iconst 0, 1) := by decide +kernel
theorem dX3_partByNumber_3 : decode cX3_partByNumber 3 = .ok (.istore_n 3, 1) := by decide +kernel
theorem dX3_partByNumber_4 : decode cX3_partByNumber 4 = .ok (.iload_n 3, 1) := by decide +kernel
theorem dX3_partByNumber_5 : decode cX3_partByNumber 5 = .ok (.iconst 3, 1) := by decide +kernel
theorem dX3_partByNumber_6 : decode cX3_partByNumber 6 = .ok (.if_icmp .ge 34, 3) := by decide +kernel
theorem dX3_partByNumber_9 : decode cX3_partByNumber 9 = .ok (.aload_n 0, 1) := by decide +kernel
theorem dX3_partByNumber_10 : decode cX3_partByNumber 10 = .ok (.getfield 18, 3) := by decide +kernel
theorem dX3_partByNumber_13 : decode cX3_partByNumber 13 = .ok (.iload_n 3, 1) := by decide +kernel
theorem dX3_partByNumber_14 : decode cX3_partByNumber 14 = .ok (.aload_n 0, 1) := by decide +kernel
theorem dX3_partByNumber_15 : decode cX3_partByNumber 15 = .ok (.getfield 15, 3) := by decide +kernel
theorem dX3_partByNumber_18 : decode cX3_partByNumber 18 = .ok (.iload_n 3, 1) := by decide +kernel
theorem dX3_partByNumber_19 : decode cX3_partByNumber 19 = .ok (.iaload, 1) := by decide +kernel
theorem dX3_partByNumber_20 : decode cX3_partByNumber 20 = .ok (.iload_n 2, 1) := by decide +kernel
theorem dX3_partByNumber_21 : decode cX3_partByNumber 21 = .ok (.invokestatic 77, 3) := by decide +kernel
theorem dX3_partByNumber_24 : decode cX3_partByNumber 24 = .ok (.iastore, 1) := by decide +kernel
theorem dX3_partByNumber_25 : decode cX3_partByNumber 25 = .ok (.iload_n 2, 1) := by decide +kernel
theorem dX3_partByNumber_26 : decode cX3_partByNumber 26 = .ok (.aload_n 0, 1) := by decide +kernel
theorem dX3_partByNumber_27 : decode cX3_partByNumber 27 = .ok (.getfield 18, 3) := by decide +kernel
theorem dX3_partByNumber_30 : decode cX3_partByNumber 30 = .ok (.iload_n 3, 1) := by decide +kernel
theorem dX3_partByNumber_31 : decode cX3_partByNumber 31 = .ok (.iaload, 1) := by decide +kernel
theorem dX3_partByNumber_32 : decode cX3_partByNumber 32 = .ok (.isub, 1) := by decide +kernel
theorem dX3_partByNumber_33 : decode cX3_partByNumber 33 = .ok (.istore_n 2, 1) := by decide +kernel
theorem dX3_partByNumber_34 : decode cX3_partByNumber 34 = .ok (.iinc 3 1, 3) := by decide +kernel
theorem dX3_partByNumber_37 : decode cX3_partByNumber 37 = .ok (.goto (-33), 3) := by decide +kernel
theorem dX3_partByNumber_40 : decode cX3_partByNumber 40 = .ok (.return_, 1) := by decide +kernel
theorem dX3_partByBound_0 : decode cX3_partByBound 0 = .ok (.iconst 0, 1) := by decide +kernel
theorem dX3_partByBound_1 : decode cX3_partByBound 1 = .ok (.istore_n 2, 1) := by decide +kernel
theorem dX3_partByBound_2 : decode cX3_partByBound 2 = .ok (.iconst 0, 1) := by decide +kernel
theorem dX3_partByBound_3 : decode cX3_partByBound 3 = .ok (.istore_n 3, 1) := by decide +kernel
theorem dX3_partByBound_4 : decode cX3_partByBound 4 = .ok (.iload_n 3, 1) := by decide +kernel
theorem dX3_partByBound_5 : decode cX3_partByBound 5 = .ok (.iconst 3, 1) := by decide +kernel
theorem dX3_partByBound_6 : decode cX3_partByBound 6 = .ok (.if_icmp .gt 98, 3) := by decide +kernel
theorem dX3_partByBound_9 : decode cX3_partByBound 9 = .ok (.iload_n 1, 1) := by decide +kernel
theorem dX3_partByBound_10 : decode cX3_partByBound 10 = .ok (.istore 4, 2) := by decide +kernel
theorem dX3_partByBound_12 : decode cX3_partByBound 12 = .ok (.iconst 0, 1) := by decide +kernel
theorem dX3_partByBound_13 : decode cX3_partByBound 13 = .ok (.istore 5, 2) := by decide +kernel
theorem dX3_partByBound_15 : decode cX3_partByBound 15 = .ok (.iconst 0, 1) := by decide +kernel
theorem dX3_partByBound_16 : decode cX3_partByBound 16 = .ok (.istore 6, 2) := by decide +kernel
theorem dX3_partByBound_18 : decode cX3_partByBound 18 = .ok (.iload 6, 2) := by decide +kernel
theorem dX3_partByBound_20 : decode cX3_partByBound 20 = .ok (.iconst 3, 1) := by decide +kernel
theorem dX3_partByBound_21 : decode cX3_partByBound 21 = .ok (.if_icmp .ge 60, 3) := by decide +kernel
theorem dX3_partByBound_24 : decode cX3_partByBound 24 = .ok (.aload_n 0, 1) := by decide +kernel
theorem dX3_partByBound_25 : decode cX3_partByBound 25 = .ok (.getfield 18, 3) := by decide +kernel
theorem dX3_partByBound_28 : decode cX3_partByBound 28 = .ok (.iload 6, 2) := by decide +kernel
theorem dX3_partByBound_30 : decode cX3_partByBound 30 = .ok (.aload_n 0, 1) := by decide +kernel
theorem dX3_partByBound_31 : decode cX3_partByBound 31 = .ok (.getfield 15, 3) := by decide +kernel
theorem dX3_partByBound_34 : decode cX3_partByBound 34 = .ok (.iload 6, 2) := by decide +kernel
theorem dX3_partByBound_36 : decode cX3_partByBound 36 = .ok (.iaload, 1) := by decide +kernel
theorem dX3_partByBound_37 : decode cX3_partByBound 37 = .ok (.iload_n 2, 1) := by decide +kernel
theorem dX3_partByBound_38 : decode cX3_partByBound 38 = .ok (.invokestatic 77, 3) := by decide +kernel
theorem dX3_partByBound_41 : decode cX3_partByBound 41 = .ok (.iastore, 1) := by decide +kernel
theorem dX3_partByBound_42 : decode cX3_partByBound 42 = .ok (.iload 4, 2) := by decide +kernel
theorem dX3_partByBound_44 : decode cX3_partByBound 44 = .ok (.aload_n 0, 1) := by decide +kernel
theorem dX3_partByBound_45 : decode cX3_partByBound 45 = .ok (.getfield 18, 3) := by decide +kernel
theorem dX3_partByBound_48 : decode cX3_partByBound 48 = .ok (.iload 6, 2) := by decide +kernel
theorem dX3_partByBound_50 : decode cX3_partByBound 50 = .ok (.iaload, 1) := by decide +kernel
theorem dX3_partByBound_51 : decode cX3_partByBound 51 = .ok (.isub, 1) := by decide +kernel
theorem dX3_partByBound_52 : decode cX3_partByBound 52 = .ok (.istore 4, 2) := by decide +kernel
theorem dX3_partByBound_54 : decode cX3_partByBound 54 = .ok (.iload 5, 2) := by decide +kernel
theorem dX3_partByBound_56 : decode cX3_partByBound 56 = .ok (.aload_n 0, 1) := by decide +kernel
theorem dX3_partByBound_57 : decode cX3_partByBound 57 = .ok (.getfield 15, 3) := by decide +kernel
theorem dX3_partByBound_60 : decode cX3_partByBound 60 = .ok (.iload 6, 2) := by decide +kernel
theorem dX3_partByBound_62 : decode cX3_partByBound 62 = .ok (.iaload, 1) := by decide +kernel
theorem dX3_partByBound_63 : decode cX3_partByBound 63 = .ok (.iload_n 2, 1) := by decide +kernel
theorem dX3_partByBound_64 : decode cX3_partByBound 64 = .ok (.if_icmp .le 7, 3) := by decide +kernel
theorem dX3_partByBound_67 : decode cX3_partByBound 67 = .ok (.iconst 1, 1) := by decide +kernel
theorem dX3_partByBound_68 : decode cX3_partByBound 68 = .ok (.goto 4, 3) := by decide +kernel
theorem dX3_partByBound_71 : decode cX3_partByBound 71 = .ok (.iconst 0, 1) := by decide +kernel
theorem dX3_partByBound_72 : decode cX3_partByBound 72 = .ok (.iadd, 1) := by decide +kernel
theorem dX3_partByBound_73 : decode cX3_partByBound 73 = .ok (.istore 5, 2) := by decide +kernel
theorem dX3_partByBound_75 : decode cX3_partByBound 75 = .ok (.iinc 6 1, 3) := by decide +kernel
theorem dX3_partByBound_78 : decode cX3_partByBound 78 = .ok (.goto (-60), 3) := by decide +kernel
theorem dX3_partByBound_81 : decode cX3_partByBound 81 = .ok (.iload_n 2, 1) := by decide +kernel
theorem dX3_partByBound_82 : decode cX3_partByBound 82 = .ok (.iload 5, 2) := by decide +kernel
theorem dX3_partByBound_84 : decode cX3_partByBound 84 = .ok (.ifCond .le 11, 3) := by decide +kernel
theorem dX3_partByBound_87 : decode cX3_partByBound 87 = .ok (.iload 4, 2) := by decide +kernel
theorem dX3_partByBound_89 : decode cX3_partByBound 89 = .ok (.iload 5, 2) := by decide +kernel
theorem dX3_partByBound_91 : decode cX3_partByBound 91 = .ok (.idiv, 1) := by decide +kernel
theorem dX3_partByBound_92 : decode cX3_partByBound 92 = .ok (.goto 4, 3) := by decide +kernel
theorem dX3_partByBound_95 : decode cX3_partByBound 95 = .ok (.iconst 0, 1) := by decide +kernel
theorem dX3_partByBound_96 : decode cX3_partByBound 96 = .ok (.iadd, 1) := by decide +kernel
theorem dX3_partByBound_97 : decode cX3_partByBound 97 = .ok (.istore_n 2, 1) := by decide +kernel
theorem dX3_partByBound_98 : decode cX3_partByBound 98 = .ok (.iinc 3 1, 3) := by decide +kernel
theorem dX3_partByBound_101 : decode cX3_partByBound 101 = .ok (.goto (-97), 3) := by decide +kernel
theorem dX3_partByBound_104 : decode cX3_partByBound 104 = .ok (.return_, 1) := by decide +kernel
theorem dX3_haveOf_0 : decode cX3_haveOf 0 = .ok (.aload_n 1, 1) := by decide +kernel
theorem dX3_haveOf_1 : decode cX3_haveOf 1 = .ok (.getfield 83, 3) := by decide +kernel
theorem dX3_haveOf_4 : decode cX3_haveOf 4 = .ok (.iload_n 3, 1) := by decide +kernel
theorem dX3_haveOf_5 : decode cX3_haveOf 5 = .ok (.imul, 1) := by decide +kernel
theorem dX3_haveOf_6 : decode cX3_haveOf 6 = .ok (.istore 4, 2) := by decide +kernel
theorem dX3_haveOf_8 : decode cX3_haveOf 8 = .ok (.iconst 0, 1) := by decide +kernel
theorem dX3_haveOf_9 : decode cX3_haveOf 9 = .ok (.istore 5, 2) := by decide +kernel
theorem dX3_haveOf_11 : decode cX3_haveOf 11 = .ok (.iload 5, 2) := by decide +kernel
theorem dX3_haveOf_13 : decode cX3_haveOf 13 = .ok (.iconst 3, 1) := by decide +kernel
theorem dX3_haveOf_14 : decode cX3_haveOf 14 = .ok (.if_icmp .ge 36, 3) := by decide +kernel
theorem dX3_haveOf_17 : decode cX3_haveOf 17 = .ok (.iload 4, 2) := by decide +kernel
theorem dX3_haveOf_19 : decode cX3_haveOf 19 = .ok (.aload_n 1, 1) := by decide +kernel
theorem dX3_haveOf_20 : decode cX3_haveOf 20 = .ok (.iload_n 2, 1) := by decide +kernel
theorem dX3_haveOf_21 : decode cX3_haveOf 21 = .ok (.iload 5, 2) := by decide +kernel
theorem dX3_haveOf_23 : decode cX3_haveOf 23 = .ok (.aload_n 0, 1) := by decide +kernel
theorem dX3_haveOf_24 : decode cX3_haveOf 24 = .ok (.getfield 9, 3) := by decide +kernel
theorem dX3_haveOf_27 : decode cX3_haveOf 27 = .ok (.iload 5, 2) := by decide +kernel
theorem dX3_haveOf_29 : decode cX3_haveOf 29 = .ok (.iaload, 1) := by decide +kernel
theorem dX3_haveOf_30 : decode cX3_haveOf 30 = .ok (.aload_n 0, 1) := by decide +kernel
theorem dX3_haveOf_31 : decode cX3_haveOf 31 = .ok (.getfield 18, 3) := by decide +kernel
theorem dX3_haveOf_34 : decode cX3_haveOf 34 = .ok (.iload 5, 2) := by decide +kernel
theorem dX3_haveOf_36 : decode cX3_haveOf 36 = .ok (.iaload, 1) := by decide +kernel
theorem dX3_haveOf_37 : decode cX3_haveOf 37 = .ok (.iadd, 1) := by decide +kernel
theorem dX3_haveOf_38 : decode cX3_haveOf 38 = .ok (.invokevirtual 86, 3) := by decide +kernel
theorem dX3_haveOf_41 : decode cX3_haveOf 41 = .ok (.iadd, 1) := by decide +kernel
theorem dX3_haveOf_42 : decode cX3_haveOf 42 = .ok (.istore 4, 2) := by decide +kernel
theorem dX3_haveOf_44 : decode cX3_haveOf 44 = .ok (.iinc 5 1, 3) := by decide +kernel
theorem dX3_haveOf_47 : decode cX3_haveOf 47 = .ok (.goto (-36), 3) := by decide +kernel
theorem dX3_haveOf_50 : decode cX3_haveOf 50 = .ok (.iload 4, 2) := by decide +kernel
theorem dX3_haveOf_52 : decode cX3_haveOf 52 = .ok (.ireturn, 1) := by decide +kernel
theorem dX3_allHave_0 : decode cX3_allHave 0 = .ok (.iconst 0, 1) := by decide +kernel
theorem dX3_allHave_1 : decode cX3_allHave 1 = .ok (.istore_n 2, 1) := by decide +kernel
theorem dX3_allHave_2 : decode cX3_allHave 2 = .ok (.iconst 0, 1) := by decide +kernel
theorem dX3_allHave_3 : decode cX3_allHave 3 = .ok (.istore_n 3, 1) := by decide +kernel
theorem dX3_allHave_4 : decode cX3_allHave 4 = .ok (.iload_n 3, 1) := by decide +kernel
theorem dX3_allHave_5 : decode cX3_allHave 5 = .ok (.aload_n 1, 1) := by decide +kernel
theorem dX3_allHave_6 : decode cX3_allHave 6 = .ok (.getfield 90, 3) := by decide +kernel
theorem dX3_allHave_9 : decode cX3_allHave 9 = .ok (.if_icmp .ge 23, 3) := by decide +kernel
theorem dX3_allHave_12 : decode cX3_allHave 12 = .ok (.iload_n 2, 1) := by decide +kernel
theorem dX3_allHave_13 : decode cX3_allHave 13 = .ok (.aload_n 0, 1) := by decide +kernel
theorem dX3_allHave_14 : decode cX3_allHave 14 = .ok (.aload_n 1, 1) := by decide +kernel
theorem dX3_allHave_15 : decode cX3_allHave 15 = .ok (.iload_n 3, 1) := by decide +kernel
theorem dX3_allHave_16 : decode cX3_allHave 16 = .ok (.aload_n 1, 1) := by decide +kernel
theorem dX3_allHave_17 : decode cX3_allHave 17 = .ok (.iload_n 3, 1) := by decide +kernel
theorem dX3_allHave_18 : decode cX3_allHave 18 = .ok (.invokevirtual 93, 3) := by decide +kernel
theorem dX3_allHave_21 : decode cX3_allHave 21 = .ok (.invokevirtual 96, 3) := by decide +kernel
theorem dX3_allHave_24 : decode cX3_allHave 24 = .ok (.iadd, 1) := by decide +kernel
theorem dX3_allHave_25 : decode cX3_allHave 25 = .ok (.istore_n 2, 1) := by decide +kernel
theorem dX3_allHave_26 : decode cX3_allHave 26 = .ok (.iinc 3 1, 3) := by decide +kernel
theorem dX3_allHave_29 : decode cX3_allHave 29 = .ok (.goto (-25), 3) := by decide +kernel
theorem dX3_allHave_32 : decode cX3_allHave 32 = .ok (.iload_n 2, 1) := by decide +kernel
theorem dX3_allHave_33 : decode cX3_allHave 33 = .ok (.ireturn, 1) := by decide +kernel
theorem dX0_init_0 : decode cX0_init 0 = .ok (.aload_n 0, 1) := by decide +kernel
theorem dX0_init_1 : decode cX0_init 1 = .ok (.invokespecial 3, 3) := by decide +kernel
theorem dX0_init_4 : decode cX0_init 4 = .ok (.aload_n 0, 1) := by decide +kernel
theorem dX0_init_5 : decode cX0_init 5 = .ok (.bipush 39, 2) := by decide +kernel
theorem dX0_init_7 : decode cX0_init 7 = .ok (.newarray .int, 2) := by decide +kernel
theorem dX0_init_9 : decode cX0_init 9 = .ok (.putfield 9, 3) := by decide +kernel
theorem dX0_init_12 : decode cX0_init 12 = .ok (.aload_n 0, 1) := by decide +kernel
theorem dX0_init_13 : decode cX0_init 13 = .ok (.iconst 3, 1) := by decide +kernel
theorem dX0_init_14 : decode cX0_init 14 = .ok (.newarray .int, 2) := by decide +kernel
theorem dX0_init_16 : decode cX0_init 16 = .ok (.putfield 15, 3) := by decide +kernel
theorem dX0_init_19 : decode cX0_init 19 = .ok (.aload_n 0, 1) := by decide +kernel
theorem dX0_init_20 : decode cX0_init 20 = .ok (.iconst 3, 1) := by decide +kernel
theorem dX0_init_21 : decode cX0_init 21 = .ok (.newarray .int, 2) := by decide +kernel
theorem dX0_init_23 : decode cX0_init 23 = .ok (.putfield 18, 3) := by decide +kernel
theorem dX0_init_26 : decode cX0_init 26 = .ok (.aload_n 0, 1) := by decide +kernel
theorem dX0_init_27 : decode cX0_init 27 = .ok (.aload_n 1, 1) := by decide +kernel
theorem dX0_init_28 : decode cX0_init 28 = .ok (.putfield 21, 3) := by decide +kernel
theorem dX0_init_31 : decode cX0_init 31 = .ok (.return_, 1) := by decide +kernel
theorem dX0_choose_0 : decode cX0_choose 0 = .ok (.aload_n 0, 1) := by decide +kernel
theorem dX0_choose_1 : decode cX0_choose 1 = .ok (.getfield 21, 3) := by decide +kernel
theorem dX0_choose_4 : decode cX0_choose 4 = .ok (.aload_n 1, 1) := by decide +kernel
theorem dX0_choose_5 : decode cX0_choose 5 = .ok (.invokevirtual 25, 3) := by decide +kernel
theorem dX0_choose_8 : decode cX0_choose 8 = .ok (.aload_n 0, 1) := by decide +kernel
theorem dX0_choose_9 : decode cX0_choose 9 = .ok (.aload_n 0, 1) := by decide +kernel
theorem dX0_choose_10 : decode cX0_choose 10 = .ok (.getfield 21, 3) := by decide +kernel
theorem dX0_choose_13 : decode cX0_choose 13 = .ok (.aload_n 1, 1) := by decide +kernel
theorem dX0_choose_14 : decode cX0_choose 14 = .ok (.iload_n 2, 1) := by decide +kernel
theorem dX0_choose_15 : decode cX0_choose 15 = .ok (.aload_n 1, 1) := by decide +kernel
theorem dX0_choose_16 : decode cX0_choose 16 = .ok (.iload_n 2, 1) := by decide +kernel
theorem dX0_choose_17 : decode cX0_choose 17 = .ok (.invokevirtual 31, 3) := by decide +kernel
theorem dX0_choose_20 : decode cX0_choose 20 = .ok (.invokevirtual 37, 3) := by decide +kernel
theorem dX0_choose_23 : decode cX0_choose 23 = .ok (.putfield 41, 3) := by decide +kernel
theorem dX0_choose_26 : decode cX0_choose 26 = .ok (.aload_n 0, 1) := by decide +kernel
theorem dX0_choose_27 : decode cX0_choose 27 = .ok (.aload_n 1, 1) := by decide +kernel
theorem dX0_choose_28 : decode cX0_choose 28 = .ok (.iload_n 2, 1) := by decide +kernel
theorem dX0_choose_29 : decode cX0_choose 29 = .ok (.invokevirtual 45, 3) := by decide +kernel
theorem dX0_choose_32 : decode cX0_choose 32 = .ok (.aload_n 0, 1) := by decide +kernel
theorem dX0_choose_33 : decode cX0_choose 33 = .ok (.iconst (-1), 1) := by decide +kernel
theorem dX0_choose_34 : decode cX0_choose 34 = .ok (.putfield 49, 3) := by decide +kernel
theorem dX0_choose_37 : decode cX0_choose 37 = .ok (.aload_n 1, 1) := by decide +kernel
theorem dX0_choose_38 : decode cX0_choose 38 = .ok (.getfield 52, 3) := by decide +kernel
theorem dX0_choose_41 : decode cX0_choose 41 = .ok (.iload_n 2, 1) := by decide +kernel
theorem dX0_choose_42 : decode cX0_choose 42 = .ok (.iaload, 1) := by decide +kernel
theorem dX0_choose_43 : decode cX0_choose 43 = .ok (.istore_n 3, 1) := by decide +kernel
theorem dX0_choose_44 : decode cX0_choose 44 = .ok (.aload_n 1, 1) := by decide +kernel
theorem dX0_choose_45 : decode cX0_choose 45 = .ok (.getfield 55, 3) := by decide +kernel
theorem dX0_choose_48 : decode cX0_choose 48 = .ok (.ifCond .le 7, 3) := by decide +kernel
theorem dX0_choose_51 : decode cX0_choose 51 = .ok (.iload_n 3, 1) := by decide +kernel
theorem dX0_choose_52 : decode cX0_choose 52 = .ok (.goto 4, 3) := by decide +kernel
theorem dX0_choose_55 : decode cX0_choose 55 = .ok (.iconst 0, 1) := by decide +kernel
theorem dX0_choose_56 : decode cX0_choose 56 = .ok (.istore 4, 2) := by decide +kernel
theorem dX0_choose_58 : decode cX0_choose 58 = .ok (.iconst 0, 1) := by decide +kernel
theorem dX0_choose_59 : decode cX0_choose 59 = .ok (.istore 5, 2) := by decide +kernel
theorem dX0_choose_61 : decode cX0_choose 61 = .ok (.iload 5, 2) := by decide +kernel
theorem dX0_choose_63 : decode cX0_choose 63 = .ok (.iload 4, 2) := by decide +kernel
theorem dX0_choose_65 : decode cX0_choose 65 = .ok (.if_icmp .gt 92, 3) := by decide +kernel
theorem dX0_choose_68 : decode cX0_choose 68 = .ok (.aload_n 1, 1) := by decide +kernel
theorem dX0_choose_69 : decode cX0_choose 69 = .ok (.getfield 55, 3) := by decide +kernel
theorem dX0_choose_72 : decode cX0_choose 72 = .ok (.iconst 1, 1) := by decide +kernel
theorem dX0_choose_73 : decode cX0_choose 73 = .ok (.if_icmp .le 10, 3) := by decide +kernel
theorem dX0_choose_76 : decode cX0_choose 76 = .ok (.iload_n 3, 1) := by decide +kernel
theorem dX0_choose_77 : decode cX0_choose 77 = .ok (.iload 5, 2) := by decide +kernel
theorem dX0_choose_79 : decode cX0_choose 79 = .ok (.isub, 1) := by decide +kernel
theorem dX0_choose_80 : decode cX0_choose 80 = .ok (.goto 4, 3) := by decide +kernel
theorem dX0_choose_83 : decode cX0_choose 83 = .ok (.iconst 0, 1) := by decide +kernel
theorem dX0_choose_84 : decode cX0_choose 84 = .ok (.istore 6, 2) := by decide +kernel
theorem dX0_choose_86 : decode cX0_choose 86 = .ok (.iconst 0, 1) := by decide +kernel
theorem dX0_choose_87 : decode cX0_choose 87 = .ok (.istore 7, 2) := by decide +kernel
theorem dX0_choose_89 : decode cX0_choose 89 = .ok (.iload 7, 2) := by decide +kernel
theorem dX0_choose_91 : decode cX0_choose 91 = .ok (.iload 6, 2) := by decide +kernel
theorem dX0_choose_93 : decode cX0_choose 93 = .ok (.if_icmp .gt 58, 3) := by decide +kernel
theorem dX0_choose_96 : decode cX0_choose 96 = .ok (.aload_n 1, 1) := by decide +kernel
theorem dX0_choose_97 : decode cX0_choose 97 = .ok (.getfield 55, 3) := by decide +kernel
theorem dX0_choose_100 : decode cX0_choose 100 = .ok (.iconst 2, 1) := by decide +kernel
theorem dX0_choose_101 : decode cX0_choose 101 = .ok (.if_icmp .le 13, 3) := by decide +kernel
theorem dX0_choose_104 : decode cX0_choose 104 = .ok (.iload_n 3, 1) := by decide +kernel
theorem dX0_choose_105 : decode cX0_choose 105 = .ok (.iload 5, 2) := by decide +kernel
theorem dX0_choose_107 : decode cX0_choose 107 = .ok (.isub, 1) := by decide +kernel
theorem dX0_choose_108 : decode cX0_choose 108 = .ok (.iload 7, 2) := by decide +kernel
theorem dX0_choose_110 : decode cX0_choose 110 = .ok (.isub, 1) := by decide +kernel
theorem dX0_choose_111 : decode cX0_choose 111 = .ok (.goto 4, 3) := by decide +kernel
theorem dX0_choose_114 : decode cX0_choose 114 = .ok (.iconst 0, 1) := by decide +kernel
theorem dX0_choose_115 : decode cX0_choose 115 = .ok (.istore 8, 2) := by decide +kernel
theorem dX0_choose_117 : decode cX0_choose 117 = .ok (.iconst 0, 1) := by decide +kernel
theorem dX0_choose_118 : decode cX0_choose 118 = .ok (.istore 9, 2) := by decide +kernel
theorem dX0_choose_120 : decode cX0_choose 120 = .ok (.iload 9, 2) := by decide +kernel
theorem dX0_choose_122 : decode cX0_choose 122 = .ok (.iload 8, 2) := by decide +kernel
theorem dX0_choose_124 : decode cX0_choose 124 = .ok (.if_icmp .gt 21, 3) := by decide +kernel
theorem dX0_choose_127 : decode cX0_choose 127 = .ok (.aload_n 0, 1) := by decide +kernel
theorem dX0_choose_128 : decode cX0_choose 128 = .ok (.aload_n 1, 1) := by decide +kernel
theorem dX0_choose_129 : decode cX0_choose 129 = .ok (.iload_n 2, 1) := by decide +kernel
theorem dX0_choose_130 : decode cX0_choose 130 = .ok (.iload 5, 2) := by decide +kernel
theorem dX0_choose_132 : decode cX0_choose 132 = .ok (.iload 7, 2) := by decide +kernel
theorem dX0_choose_134 : decode cX0_choose 134 = .ok (.iload 9, 2) := by decide +kernel
theorem dX0_choose_136 : decode cX0_choose 136 = .ok (.invokevirtual 58, 3) := by decide +kernel
theorem dX0_choose_139 : decode cX0_choose 139 = .ok (.iinc 9 1, 3) := by decide +kernel
theorem dX0_choose_142 : decode cX0_choose 142 = .ok (.goto (-22), 3) := by decide +kernel
theorem dX0_choose_145 : decode cX0_choose 145 = .ok (.iinc 7 1, 3) := by decide +kernel
theorem dX0_choose_148 : decode cX0_choose 148 = .ok (.goto (-59), 3) := by decide +kernel
theorem dX0_choose_151 : decode cX0_choose 151 = .ok (.iinc 5 1, 3) := by decide +kernel
theorem dX0_choose_154 : decode cX0_choose 154 = .ok (.goto (-93), 3) := by decide +kernel
theorem dX0_choose_157 : decode cX0_choose 157 = .ok (.return_, 1) := by decide +kernel
theorem dX0_foresee_0 : decode cX0_foresee 0 = .ok (.iconst 0, 1) := by decide +kernel
theorem dX0_foresee_1 : decode cX0_foresee 1 = .ok (.istore_n 3, 1) := by decide +kernel
theorem dX0_foresee_2 : decode cX0_foresee 2 = .ok (.iload_n 3, 1) := by decide +kernel
theorem dX0_foresee_3 : decode cX0_foresee 3 = .ok (.iconst 3, 1) := by decide +kernel
theorem dX0_foresee_4 : decode cX0_foresee 4 = .ok (.if_icmp .ge 45, 3) := by decide +kernel
theorem dX0_foresee_7 : decode cX0_foresee 7 = .ok (.aload_n 0, 1) := by decide +kernel
theorem dX0_foresee_8 : decode cX0_foresee 8 = .ok (.getfield 15, 3) := by decide +kernel
theorem dX0_foresee_11 : decode cX0_foresee 11 = .ok (.iload_n 3, 1) := by decide +kernel
theorem dX0_foresee_12 : decode cX0_foresee 12 = .ok (.aload_n 0, 1) := by decide +kernel
theorem dX0_foresee_13 : decode cX0_foresee 13 = .ok (.getfield 21, 3) := by decide +kernel
theorem dX0_foresee_16 : decode cX0_foresee 16 = .ok (.getfield 62, 3) := by decide +kernel
theorem dX0_foresee_19 : decode cX0_foresee 19 = .ok (.iload_n 3, 1) := by decide +kernel
theorem dX0_foresee_20 : decode cX0_foresee 20 = .ok (.iaload, 1) := by decide +kernel
theorem dX0_foresee_21 : decode cX0_foresee 21 = .ok (.aload_n 1, 1) := by decide +kernel
theorem dX0_foresee_22 : decode cX0_foresee 22 = .ok (.getfield 65, 3) := by decide +kernel
theorem dX0_foresee_25 : decode cX0_foresee 25 = .ok (.iload_n 2, 1) := by decide +kernel
theorem dX0_foresee_26 : decode cX0_foresee 26 = .ok (.iconst 3, 1) := by decide +kernel
theorem dX0_foresee_27 : decode cX0_foresee 27 = .ok (.imul, 1) := by decide +kernel
theorem dX0_foresee_28 : decode cX0_foresee 28 = .ok (.iload_n 3, 1) := by decide +kernel
theorem dX0_foresee_29 : decode cX0_foresee 29 = .ok (.iadd, 1) := by decide +kernel
theorem dX0_foresee_30 : decode cX0_foresee 30 = .ok (.iaload, 1) := by decide +kernel
theorem dX0_foresee_31 : decode cX0_foresee 31 = .ok (.isub, 1) := by decide +kernel
theorem dX0_foresee_32 : decode cX0_foresee 32 = .ok (.iastore, 1) := by decide +kernel
theorem dX0_foresee_33 : decode cX0_foresee 33 = .ok (.aload_n 0, 1) := by decide +kernel
theorem dX0_foresee_34 : decode cX0_foresee 34 = .ok (.getfield 9, 3) := by decide +kernel
theorem dX0_foresee_37 : decode cX0_foresee 37 = .ok (.iload_n 3, 1) := by decide +kernel
theorem dX0_foresee_38 : decode cX0_foresee 38 = .ok (.bipush 13, 2) := by decide +kernel
theorem dX0_foresee_40 : decode cX0_foresee 40 = .ok (.imul, 1) := by decide +kernel
theorem dX0_foresee_41 : decode cX0_foresee 41 = .ok (.iconst 0, 1) := by decide +kernel
theorem dX0_foresee_42 : decode cX0_foresee 42 = .ok (.iastore, 1) := by decide +kernel
theorem dX0_foresee_43 : decode cX0_foresee 43 = .ok (.iinc 3 1, 3) := by decide +kernel
theorem dX0_foresee_46 : decode cX0_foresee 46 = .ok (.goto (-44), 3) := by decide +kernel
theorem dX0_foresee_49 : decode cX0_foresee 49 = .ok (.aload_n 0, 1) := by decide +kernel
theorem dX0_foresee_50 : decode cX0_foresee 50 = .ok (.getfield 21, 3) := by decide +kernel
theorem dX0_foresee_53 : decode cX0_foresee 53 = .ok (.getfield 68, 3) := by decide +kernel
theorem dX0_foresee_56 : decode cX0_foresee 56 = .ok (.astore_n 3, 1) := by decide +kernel
theorem dX0_foresee_57 : decode cX0_foresee 57 = .ok (.iconst 0, 1) := by decide +kernel
theorem dX0_foresee_58 : decode cX0_foresee 58 = .ok (.istore 4, 2) := by decide +kernel
theorem dX0_foresee_60 : decode cX0_foresee 60 = .ok (.iload 4, 2) := by decide +kernel
theorem dX0_foresee_62 : decode cX0_foresee 62 = .ok (.aload_n 1, 1) := by decide +kernel
theorem dX0_foresee_63 : decode cX0_foresee 63 = .ok (.getfield 55, 3) := by decide +kernel
theorem dX0_foresee_66 : decode cX0_foresee 66 = .ok (.if_icmp .ge 69, 3) := by decide +kernel
theorem dX0_foresee_69 : decode cX0_foresee 69 = .ok (.iconst 0, 1) := by decide +kernel
theorem dX0_foresee_70 : decode cX0_foresee 70 = .ok (.istore 5, 2) := by decide +kernel
theorem dX0_foresee_72 : decode cX0_foresee 72 = .ok (.iload 5, 2) := by decide +kernel
theorem dX0_foresee_74 : decode cX0_foresee 74 = .ok (.aload_n 1, 1) := by decide +kernel
theorem dX0_foresee_75 : decode cX0_foresee 75 = .ok (.getfield 52, 3) := by decide +kernel
theorem dX0_foresee_78 : decode cX0_foresee 78 = .ok (.iload_n 2, 1) := by decide +kernel
theorem dX0_foresee_79 : decode cX0_foresee 79 = .ok (.iaload, 1) := by decide +kernel
theorem dX0_foresee_80 : decode cX0_foresee 80 = .ok (.if_icmp .gt 49, 3) := by decide +kernel
theorem dX0_foresee_83 : decode cX0_foresee 83 = .ok (.aload_n 3, 1) := by decide +kernel
theorem dX0_foresee_84 : decode cX0_foresee 84 = .ok (.aload_n 1, 1) := by decide +kernel
theorem dX0_foresee_85 : decode cX0_foresee 85 = .ok (.iload 4, 2) := by decide +kernel
theorem dX0_foresee_87 : decode cX0_foresee 87 = .ok (.iload_n 2, 1) := by decide +kernel
theorem dX0_foresee_88 : decode cX0_foresee 88 = .ok (.invokevirtual 72, 3) := by decide +kernel
theorem dX0_foresee_91 : decode cX0_foresee 91 = .ok (.aload_n 3, 1) := by decide +kernel
theorem dX0_foresee_92 : decode cX0_foresee 92 = .ok (.iload 5, 2) := by decide +kernel
theorem dX0_foresee_94 : decode cX0_foresee 94 = .ok (.invokevirtual 78, 3) := by decide +kernel
theorem dX0_foresee_97 : decode cX0_foresee 97 = .ok (.aload_n 0, 1) := by decide +kernel
theorem dX0_foresee_98 : decode cX0_foresee 98 = .ok (.getfield 9, 3) := by decide +kernel
theorem dX0_foresee_101 : decode cX0_foresee 101 = .ok (.iload 4, 2) := by decide +kernel
theorem dX0_foresee_103 : decode cX0_foresee 103 = .ok (.bipush 13, 2) := by decide +kernel
theorem dX0_foresee_105 : decode cX0_foresee 105 = .ok (.imul, 1) := by decide +kernel
theorem dX0_foresee_106 : decode cX0_foresee 106 = .ok (.iload 5, 2) := by decide +kernel
theorem dX0_foresee_108 : decode cX0_foresee 108 = .ok (.iadd, 1) := by decide +kernel
theorem dX0_foresee_109 : decode cX0_foresee 109 = .ok (.aload_n 3, 1) := by decide +kernel
theorem dX0_foresee_110 : decode cX0_foresee 110 = .ok (.aload_n 1, 1) := by decide +kernel
theorem dX0_foresee_111 : decode cX0_foresee 111 = .ok (.getfield 82, 3) := by decide +kernel
theorem dX0_foresee_114 : decode cX0_foresee 114 = .ok (.aload_n 1, 1) := by decide +kernel
theorem dX0_foresee_115 : decode cX0_foresee 115 = .ok (.getfield 86, 3) := by decide +kernel
theorem dX0_foresee_118 : decode cX0_foresee 118 = .ok (.aaload, 1) := by decide +kernel
theorem dX0_foresee_119 : decode cX0_foresee 119 = .ok (.invokevirtual 89, 3) := by decide +kernel
theorem dX0_foresee_122 : decode cX0_foresee 122 = .ok (.iastore, 1) := by decide +kernel
theorem dX0_foresee_123 : decode cX0_foresee 123 = .ok (.iinc 5 1, 3) := by decide +kernel
theorem dX0_foresee_126 : decode cX0_foresee 126 = .ok (.goto (-54), 3) := by decide +kernel
theorem dX0_foresee_129 : decode cX0_foresee 129 = .ok (.iinc 4 1, 3) := by decide +kernel
theorem dX0_foresee_132 : decode cX0_foresee 132 = .ok (.goto (-72), 3) := by decide +kernel
theorem dX0_foresee_135 : decode cX0_foresee 135 = .ok (.return_, 1) := by decide +kernel
theorem dX0_weigh_0 : decode cX0_weigh 0 = .ok (.aload_n 0, 1) := by decide +kernel
theorem dX0_weigh_1 : decode cX0_weigh 1 = .ok (.iconst 0, 1) := by decide +kernel
theorem dX0_weigh_2 : decode cX0_weigh 2 = .ok (.iload_n 3, 1) := by decide +kernel
theorem dX0_weigh_3 : decode cX0_weigh 3 = .ok (.invokevirtual 93, 3) := by decide +kernel
theorem dX0_weigh_6 : decode cX0_weigh 6 = .ok (.aload_n 0, 1) := by decide +kernel
theorem dX0_weigh_7 : decode cX0_weigh 7 = .ok (.iconst 1, 1) := by decide +kernel
theorem dX0_weigh_8 : decode cX0_weigh 8 = .ok (.iload 4, 2) := by decide +kernel
theorem dX0_weigh_10 : decode cX0_weigh 10 = .ok (.invokevirtual 93, 3) := by decide +kernel
theorem dX0_weigh_13 : decode cX0_weigh 13 = .ok (.aload_n 0, 1) := by decide +kernel
theorem dX0_weigh_14 : decode cX0_weigh 14 = .ok (.iconst 2, 1) := by decide +kernel
theorem dX0_weigh_15 : decode cX0_weigh 15 = .ok (.iload 5, 2) := by decide +kernel
theorem dX0_weigh_17 : decode cX0_weigh 17 = .ok (.invokevirtual 93, 3) := by decide +kernel
theorem dX0_weigh_20 : decode cX0_weigh 20 = .ok (.aload_n 0, 1) := by decide +kernel
theorem dX0_weigh_21 : decode cX0_weigh 21 = .ok (.getfield 21, 3) := by decide +kernel
theorem dX0_weigh_24 : decode cX0_weigh 24 = .ok (.aload_n 1, 1) := by decide +kernel
theorem dX0_weigh_25 : decode cX0_weigh 25 = .ok (.invokevirtual 97, 3) := by decide +kernel
theorem dX0_weigh_28 : decode cX0_weigh 28 = .ok (.aload_n 0, 1) := by decide +kernel
theorem dX0_weigh_29 : decode cX0_weigh 29 = .ok (.getfield 21, 3) := by decide +kernel
theorem dX0_weigh_32 : decode cX0_weigh 32 = .ok (.aload_n 1, 1) := by decide +kernel
theorem dX0_weigh_33 : decode cX0_weigh 33 = .ok (.iload_n 2, 1) := by decide +kernel
theorem dX0_weigh_34 : decode cX0_weigh 34 = .ok (.aload_n 1, 1) := by decide +kernel
theorem dX0_weigh_35 : decode cX0_weigh 35 = .ok (.getfield 52, 3) := by decide +kernel
theorem dX0_weigh_38 : decode cX0_weigh 38 = .ok (.iload_n 2, 1) := by decide +kernel
theorem dX0_weigh_39 : decode cX0_weigh 39 = .ok (.iaload, 1) := by decide +kernel
theorem dX0_weigh_40 : decode cX0_weigh 40 = .ok (.iload_n 3, 1) := by decide +kernel
theorem dX0_weigh_41 : decode cX0_weigh 41 = .ok (.isub, 1) := by decide +kernel
theorem dX0_weigh_42 : decode cX0_weigh 42 = .ok (.iload 4, 2) := by decide +kernel
theorem dX0_weigh_44 : decode cX0_weigh 44 = .ok (.isub, 1) := by decide +kernel
theorem dX0_weigh_45 : decode cX0_weigh 45 = .ok (.iload 5, 2) := by decide +kernel
theorem dX0_weigh_47 : decode cX0_weigh 47 = .ok (.isub, 1) := by decide +kernel
theorem dX0_weigh_48 : decode cX0_weigh 48 = .ok (.invokevirtual 37, 3) := by decide +kernel
theorem dX0_weigh_51 : decode cX0_weigh 51 = .ok (.istore 6, 2) := by decide +kernel
theorem dX0_weigh_53 : decode cX0_weigh 53 = .ok (.iload 6, 2) := by decide +kernel
theorem dX0_weigh_55 : decode cX0_weigh 55 = .ok (.aload_n 0, 1) := by decide +kernel
theorem dX0_weigh_56 : decode cX0_weigh 56 = .ok (.getfield 49, 3) := by decide +kernel
theorem dX0_weigh_59 : decode cX0_weigh 59 = .ok (.if_icmp .le 32, 3) := by decide +kernel
theorem dX0_weigh_62 : decode cX0_weigh 62 = .ok (.aload_n 0, 1) := by decide +kernel
theorem dX0_weigh_63 : decode cX0_weigh 63 = .ok (.iload 6, 2) := by decide +kernel
theorem dX0_weigh_65 : decode cX0_weigh 65 = .ok (.putfield 49, 3) := by decide +kernel
theorem dX0_weigh_68 : decode cX0_weigh 68 = .ok (.aload_n 0, 1) := by decide +kernel
theorem dX0_weigh_69 : decode cX0_weigh 69 = .ok (.getfield 18, 3) := by decide +kernel
theorem dX0_weigh_72 : decode cX0_weigh 72 = .ok (.iconst 0, 1) := by decide +kernel
theorem dX0_weigh_73 : decode cX0_weigh 73 = .ok (.iload_n 3, 1) := by decide +kernel
theorem dX0_weigh_74 : decode cX0_weigh 74 = .ok (.iastore, 1) := by decide +kernel
theorem dX0_weigh_75 : decode cX0_weigh 75 = .ok (.aload_n 0, 1) := by decide +kernel
theorem dX0_weigh_76 : decode cX0_weigh 76 = .ok (.getfield 18, 3) := by decide +kernel
theorem dX0_weigh_79 : decode cX0_weigh 79 = .ok (.iconst 1, 1) := by decide +kernel
theorem dX0_weigh_80 : decode cX0_weigh 80 = .ok (.iload 4, 2) := by decide +kernel
theorem dX0_weigh_82 : decode cX0_weigh 82 = .ok (.iastore, 1) := by decide +kernel
theorem dX0_weigh_83 : decode cX0_weigh 83 = .ok (.aload_n 0, 1) := by decide +kernel
theorem dX0_weigh_84 : decode cX0_weigh 84 = .ok (.getfield 18, 3) := by decide +kernel
theorem dX0_weigh_87 : decode cX0_weigh 87 = .ok (.iconst 2, 1) := by decide +kernel
theorem dX0_weigh_88 : decode cX0_weigh 88 = .ok (.iload 5, 2) := by decide +kernel
theorem dX0_weigh_90 : decode cX0_weigh 90 = .ok (.iastore, 1) := by decide +kernel
theorem dX0_weigh_91 : decode cX0_weigh 91 = .ok (.return_, 1) := by decide +kernel
theorem dX0_enter_0 : decode cX0_enter 0 = .ok (.aload_n 0, 1) := by decide +kernel
theorem dX0_enter_1 : decode cX0_enter 1 = .ok (.getfield 21, 3) := by decide +kernel
theorem dX0_enter_4 : decode cX0_enter 4 = .ok (.getfield 62, 3) := by decide +kernel
theorem dX0_enter_7 : decode cX0_enter 7 = .ok (.iload_n 1, 1) := by decide +kernel
theorem dX0_enter_8 : decode cX0_enter 8 = .ok (.aload_n 0, 1) := by decide +kernel
theorem dX0_enter_9 : decode cX0_enter 9 = .ok (.getfield 15, 3) := by decide +kernel
theorem dX0_enter_12 : decode cX0_enter 12 = .ok (.iload_n 1, 1) := by decide +kernel
theorem dX0_enter_13 : decode cX0_enter 13 = .ok (.iaload, 1) := by decide +kernel
theorem dX0_enter_14 : decode cX0_enter 14 = .ok (.iload_n 2, 1) := by decide +kernel
theorem dX0_enter_15 : decode cX0_enter 15 = .ok (.iadd, 1) := by decide +kernel
theorem dX0_enter_16 : decode cX0_enter 16 = .ok (.iastore, 1) := by decide +kernel
theorem dX0_enter_17 : decode cX0_enter 17 = .ok (.aload_n 0, 1) := by decide +kernel
theorem dX0_enter_18 : decode cX0_enter 18 = .ok (.getfield 21, 3) := by decide +kernel
theorem dX0_enter_21 : decode cX0_enter 21 = .ok (.getfield 100, 3) := by decide +kernel
theorem dX0_enter_24 : decode cX0_enter 24 = .ok (.iload_n 1, 1) := by decide +kernel
theorem dX0_enter_25 : decode cX0_enter 25 = .ok (.aload_n 0, 1) := by decide +kernel
theorem dX0_enter_26 : decode cX0_enter 26 = .ok (.getfield 9, 3) := by decide +kernel
theorem dX0_enter_29 : decode cX0_enter 29 = .ok (.iload_n 1, 1) := by decide +kernel
theorem dX0_enter_30 : decode cX0_enter 30 = .ok (.bipush 13, 2) := by decide +kernel
theorem dX0_enter_32 : decode cX0_enter 32 = .ok (.imul, 1) := by decide +kernel
theorem dX0_enter_33 : decode cX0_enter 33 = .ok (.iload_n 2, 1) := by decide +kernel
theorem dX0_enter_34 : decode cX0_enter 34 = .ok (.iadd, 1) := by decide +kernel
theorem dX0_enter_35 : decode cX0_enter 35 = .ok (.iaload, 1) := by decide +kernel
theorem dX0_enter_36 : decode cX0_enter 36 = .ok (.iastore, 1) := by decide +kernel
theorem dX0_enter_37 : decode cX0_enter 37 = .ok (.return_, 1) := by decide +kernel
theorem dX4_init_0 : decode cX4_init 0 = .ok (.aload_n 0, 1) := by decide +kernel
theorem dX4_init_1 : decode cX4_init 1 = .ok (.invokespecial 3, 3) := by decide +kernel
theorem dX4_init_4 : decode cX4_init 4 = .ok (.aload_n 0, 1) := by decide +kernel
theorem dX4_init_5 : decode cX4_init 5 = .ok (.iconst 5, 1) := by decide +kernel
theorem dX4_init_6 : decode cX4_init 6 = .ok (.newarray .int, 2) := by decide +kernel
theorem dX4_init_8 : decode cX4_init 8 = .ok (.putfield 9, 3) := by decide +kernel
theorem dX4_init_11 : decode cX4_init 11 = .ok (.aload_n 0, 1) := by decide +kernel
theorem dX4_init_12 : decode cX4_init 12 = .ok (.aload_n 1, 1) := by decide +kernel
theorem dX4_init_13 : decode cX4_init 13 = .ok (.putfield 15, 3) := by decide +kernel
theorem dX4_init_16 : decode cX4_init 16 = .ok (.return_, 1) := by decide +kernel
theorem dX4_weighAll_0 : decode cX4_weighAll 0 = .ok (.iconst 0, 1) := by decide +kernel
theorem dX4_weighAll_1 : decode cX4_weighAll 1 = .ok (.istore 4, 2) := by decide +kernel
theorem dX4_weighAll_3 : decode cX4_weighAll 3 = .ok (.iload 4, 2) := by decide +kernel
theorem dX4_weighAll_5 : decode cX4_weighAll 5 = .ok (.iconst 4, 1) := by decide +kernel
theorem dX4_weighAll_6 : decode cX4_weighAll 6 = .ok (.if_icmp .gt 17, 3) := by decide +kernel
theorem dX4_weighAll_9 : decode cX4_weighAll 9 = .ok (.aload_n 0, 1) := by decide +kernel
theorem dX4_weighAll_10 : decode cX4_weighAll 10 = .ok (.getfield 9, 3) := by decide +kernel
theorem dX4_weighAll_13 : decode cX4_weighAll 13 = .ok (.iload 4, 2) := by decide +kernel
theorem dX4_weighAll_15 : decode cX4_weighAll 15 = .ok (.iconst 0, 1) := by decide +kernel
theorem dX4_weighAll_16 : decode cX4_weighAll 16 = .ok (.iastore, 1) := by decide +kernel
theorem dX4_weighAll_17 : decode cX4_weighAll 17 = .ok (.iinc 4 1, 3) := by decide +kernel
theorem dX4_weighAll_20 : decode cX4_weighAll 20 = .ok (.goto (-17), 3) := by decide +kernel
theorem dX4_weighAll_23 : decode cX4_weighAll 23 = .ok (.aload_n 0, 1) := by decide +kernel
theorem dX4_weighAll_24 : decode cX4_weighAll 24 = .ok (.getfield 15, 3) := by decide +kernel
theorem dX4_weighAll_27 : decode cX4_weighAll 27 = .ok (.aload_n 1, 1) := by decide +kernel
theorem dX4_weighAll_28 : decode cX4_weighAll 28 = .ok (.invokevirtual 19, 3) := by decide +kernel
theorem dX4_weighAll_31 : decode cX4_weighAll 31 = .ok (.aload_n 0, 1) := by decide +kernel
theorem dX4_weighAll_32 : decode cX4_weighAll 32 = .ok (.aload_n 0, 1) := by decide +kernel
theorem dX4_weighAll_33 : decode cX4_weighAll 33 = .ok (.getfield 15, 3) := by decide +kernel
theorem dX4_weighAll_36 : decode cX4_weighAll 36 = .ok (.aload_n 1, 1) := by decide +kernel
theorem dX4_weighAll_37 : decode cX4_weighAll 37 = .ok (.iload_n 2, 1) := by decide +kernel
theorem dX4_weighAll_38 : decode cX4_weighAll 38 = .ok (.aload_n 1, 1) := by decide +kernel
theorem dX4_weighAll_39 : decode cX4_weighAll 39 = .ok (.iload_n 2, 1) := by decide +kernel
theorem dX4_weighAll_40 : decode cX4_weighAll 40 = .ok (.invokevirtual 25, 3) := by decide +kernel
theorem dX4_weighAll_43 : decode cX4_weighAll 43 = .ok (.invokevirtual 31, 3) := by decide +kernel
theorem dX4_weighAll_46 : decode cX4_weighAll 46 = .ok (.putfield 35, 3) := by decide +kernel
theorem dX4_weighAll_49 : decode cX4_weighAll 49 = .ok (.aload_n 1, 1) := by decide +kernel
theorem dX4_weighAll_50 : decode cX4_weighAll 50 = .ok (.getfield 39, 3) := by decide +kernel
theorem dX4_weighAll_53 : decode cX4_weighAll 53 = .ok (.iload_n 2, 1) := by decide +kernel
theorem dX4_weighAll_54 : decode cX4_weighAll 54 = .ok (.iconst 3, 1) := by decide +kernel
theorem dX4_weighAll_55 : decode cX4_weighAll 55 = .ok (.imul, 1) := by decide +kernel
theorem dX4_weighAll_56 : decode cX4_weighAll 56 = .ok (.iload_n 3, 1) := by decide +kernel
theorem dX4_weighAll_57 : decode cX4_weighAll 57 = .ok (.iadd, 1) := by decide +kernel
theorem dX4_weighAll_58 : decode cX4_weighAll 58 = .ok (.iaload, 1) := by decide +kernel
theorem dX4_weighAll_59 : decode cX4_weighAll 59 = .ok (.istore 4, 2) := by decide +kernel
theorem dX4_weighAll_61 : decode cX4_weighAll 61 = .ok (.iconst 1, 1) := by decide +kernel
theorem dX4_weighAll_62 : decode cX4_weighAll 62 = .ok (.istore 5, 2) := by decide +kernel
theorem dX4_weighAll_64 : decode cX4_weighAll 64 = .ok (.iload 5, 2) := by decide +kernel
theorem dX4_weighAll_66 : decode cX4_weighAll 66 = .ok (.iload 4, 2) := by decide +kernel
theorem dX4_weighAll_68 : decode cX4_weighAll 68 = .ok (.iconst 2, 1) := by decide +kernel
theorem dX4_weighAll_69 : decode cX4_weighAll 69 = .ok (.idiv, 1) := by decide +kernel
theorem dX4_weighAll_70 : decode cX4_weighAll 70 = .ok (.if_icmp .gt 70, 3) := by decide +kernel
theorem dX4_weighAll_73 : decode cX4_weighAll 73 = .ok (.iconst 0, 1) := by decide +kernel
theorem dX4_weighAll_74 : decode cX4_weighAll 74 = .ok (.istore 6, 2) := by decide +kernel
theorem dX4_weighAll_76 : decode cX4_weighAll 76 = .ok (.iload 6, 2) := by decide +kernel
theorem dX4_weighAll_78 : decode cX4_weighAll 78 = .ok (.iload 5, 2) := by decide +kernel
theorem dX4_weighAll_80 : decode cX4_weighAll 80 = .ok (.if_icmp .gt 54, 3) := by decide +kernel
theorem dX4_weighAll_83 : decode cX4_weighAll 83 = .ok (.iconst 0, 1) := by decide +kernel
theorem dX4_weighAll_84 : decode cX4_weighAll 84 = .ok (.istore 7, 2) := by decide +kernel
theorem dX4_weighAll_86 : decode cX4_weighAll 86 = .ok (.iload 7, 2) := by decide +kernel
theorem dX4_weighAll_88 : decode cX4_weighAll 88 = .ok (.iload 6, 2) := by decide +kernel
theorem dX4_weighAll_90 : decode cX4_weighAll 90 = .ok (.if_icmp .gt 38, 3) := by decide +kernel
theorem dX4_weighAll_93 : decode cX4_weighAll 93 = .ok (.iload 4, 2) := by decide +kernel
theorem dX4_weighAll_95 : decode cX4_weighAll 95 = .ok (.iload 5, 2) := by decide +kernel
theorem dX4_weighAll_97 : decode cX4_weighAll 97 = .ok (.isub, 1) := by decide +kernel
theorem dX4_weighAll_98 : decode cX4_weighAll 98 = .ok (.iload 6, 2) := by decide +kernel
theorem dX4_weighAll_100 : decode cX4_weighAll 100 = .ok (.isub, 1) := by decide +kernel
theorem dX4_weighAll_101 : decode cX4_weighAll 101 = .ok (.iload 7, 2) := by decide +kernel
theorem dX4_weighAll_103 : decode cX4_weighAll 103 = .ok (.isub, 1) := by decide +kernel
theorem dX4_weighAll_104 : decode cX4_weighAll 104 = .ok (.iload 5, 2) := by decide +kernel
theorem dX4_weighAll_106 : decode cX4_weighAll 106 = .ok (.if_icmp .lt 16, 3) := by decide +kernel
theorem dX4_weighAll_109 : decode cX4_weighAll 109 = .ok (.aload_n 0, 1) := by decide +kernel
theorem dX4_weighAll_110 : decode cX4_weighAll 110 = .ok (.aload_n 1, 1) := by decide +kernel
theorem dX4_weighAll_111 : decode cX4_weighAll 111 = .ok (.iload_n 2, 1) := by decide +kernel
theorem dX4_weighAll_112 : decode cX4_weighAll 112 = .ok (.iload_n 3, 1) := by decide +kernel
theorem dX4_weighAll_113 : decode cX4_weighAll 113 = .ok (.iload 5, 2) := by decide +kernel
theorem dX4_weighAll_115 : decode cX4_weighAll 115 = .ok (.iload 6, 2) := by decide +kernel
theorem dX4_weighAll_117 : decode cX4_weighAll 117 = .ok (.iload 7, 2) := by decide +kernel
theorem dX4_weighAll_119 : decode cX4_weighAll 119 = .ok (.invokevirtual 42, 3) := by decide +kernel
theorem dX4_weighAll_122 : decode cX4_weighAll 122 = .ok (.iinc 7 1, 3) := by decide +kernel
theorem dX4_weighAll_125 : decode cX4_weighAll 125 = .ok (.goto (-39), 3) := by decide +kernel
theorem dX4_weighAll_128 : decode cX4_weighAll 128 = .ok (.iinc 6 1, 3) := by decide +kernel
theorem dX4_weighAll_131 : decode cX4_weighAll 131 = .ok (.goto (-55), 3) := by decide +kernel
theorem dX4_weighAll_134 : decode cX4_weighAll 134 = .ok (.iinc 5 1, 3) := by decide +kernel
theorem dX4_weighAll_137 : decode cX4_weighAll 137 = .ok (.goto (-73), 3) := by decide +kernel
theorem dX4_weighAll_140 : decode cX4_weighAll 140 = .ok (.return_, 1) := by decide +kernel
theorem dX4_weigh_0 : decode cX4_weigh 0 = .ok (.aload_n 0, 1) := by decide +kernel
theorem dX4_weigh_1 : decode cX4_weigh 1 = .ok (.getfield 15, 3) := by decide +kernel
theorem dX4_weigh_4 : decode cX4_weigh 4 = .ok (.getfield 46, 3) := by decide +kernel
theorem dX4_weigh_7 : decode cX4_weigh 7 = .ok (.astore 7, 2) := by decide +kernel
theorem dX4_weigh_9 : decode cX4_weigh 9 = .ok (.aload 7, 2) := by decide +kernel
theorem dX4_weigh_11 : decode cX4_weigh 11 = .ok (.aload_n 1, 1) := by decide +kernel
theorem dX4_weigh_12 : decode cX4_weigh 12 = .ok (.iload_n 3, 1) := by decide +kernel
theorem dX4_weigh_13 : decode cX4_weigh 13 = .ok (.iload_n 2, 1) := by decide +kernel
theorem dX4_weigh_14 : decode cX4_weigh 14 = .ok (.invokevirtual 50, 3) := by decide +kernel
theorem dX4_weigh_17 : decode cX4_weigh 17 = .ok (.aload 7, 2) := by decide +kernel
theorem dX4_weigh_19 : decode cX4_weigh 19 = .ok (.aload_n 1, 1) := by decide +kernel
theorem dX4_weigh_20 : decode cX4_weigh 20 = .ok (.getfield 39, 3) := by decide +kernel
theorem dX4_weigh_23 : decode cX4_weigh 23 = .ok (.iload_n 2, 1) := by decide +kernel
theorem dX4_weigh_24 : decode cX4_weigh 24 = .ok (.iconst 3, 1) := by decide +kernel
theorem dX4_weigh_25 : decode cX4_weigh 25 = .ok (.imul, 1) := by decide +kernel
theorem dX4_weigh_26 : decode cX4_weigh 26 = .ok (.iload_n 3, 1) := by decide +kernel
theorem dX4_weigh_27 : decode cX4_weigh 27 = .ok (.iadd, 1) := by decide +kernel
theorem dX4_weigh_28 : decode cX4_weigh 28 = .ok (.iaload, 1) := by decide +kernel
theorem dX4_weigh_29 : decode cX4_weigh 29 = .ok (.iload 4, 2) := by decide +kernel
theorem dX4_weigh_31 : decode cX4_weigh 31 = .ok (.isub, 1) := by decide +kernel
theorem dX4_weigh_32 : decode cX4_weigh 32 = .ok (.iload 5, 2) := by decide +kernel
theorem dX4_weigh_34 : decode cX4_weigh 34 = .ok (.isub, 1) := by decide +kernel
theorem dX4_weigh_35 : decode cX4_weigh 35 = .ok (.iload 6, 2) := by decide +kernel
theorem dX4_weigh_37 : decode cX4_weigh 37 = .ok (.isub, 1) := by decide +kernel
theorem dX4_weigh_38 : decode cX4_weigh 38 = .ok (.invokevirtual 56, 3) := by decide +kernel
theorem dX4_weigh_41 : decode cX4_weigh 41 = .ok (.aload 7, 2) := by decide +kernel
theorem dX4_weigh_43 : decode cX4_weigh 43 = .ok (.iload 4, 2) := by decide +kernel
theorem dX4_weigh_45 : decode cX4_weigh 45 = .ok (.invokevirtual 56, 3) := by decide +kernel
theorem dX4_weigh_48 : decode cX4_weigh 48 = .ok (.aload 7, 2) := by decide +kernel
theorem dX4_weigh_50 : decode cX4_weigh 50 = .ok (.iload 5, 2) := by decide +kernel
theorem dX4_weigh_52 : decode cX4_weigh 52 = .ok (.invokevirtual 56, 3) := by decide +kernel
theorem dX4_weigh_55 : decode cX4_weigh 55 = .ok (.aload 7, 2) := by decide +kernel
theorem dX4_weigh_57 : decode cX4_weigh 57 = .ok (.iload 6, 2) := by decide +kernel
theorem dX4_weigh_59 : decode cX4_weigh 59 = .ok (.invokevirtual 56, 3) := by decide +kernel
theorem dX4_weigh_62 : decode cX4_weigh 62 = .ok (.aload_n 0, 1) := by decide +kernel
theorem dX4_weigh_63 : decode cX4_weigh 63 = .ok (.getfield 15, 3) := by decide +kernel
theorem dX4_weigh_66 : decode cX4_weigh 66 = .ok (.getfield 60, 3) := by decide +kernel
theorem dX4_weigh_69 : decode cX4_weigh 69 = .ok (.iload_n 3, 1) := by decide +kernel
theorem dX4_weigh_70 : decode cX4_weigh 70 = .ok (.aload 7, 2) := by decide +kernel
theorem dX4_weigh_72 : decode cX4_weigh 72 = .ok (.aload_n 1, 1) := by decide +kernel
theorem dX4_weigh_73 : decode cX4_weigh 73 = .ok (.getfield 63, 3) := by decide +kernel
theorem dX4_weigh_76 : decode cX4_weigh 76 = .ok (.aload_n 1, 1) := by decide +kernel
theorem dX4_weigh_77 : decode cX4_weigh 77 = .ok (.getfield 67, 3) := by decide +kernel
theorem dX4_weigh_80 : decode cX4_weigh 80 = .ok (.aaload, 1) := by decide +kernel
theorem dX4_weigh_81 : decode cX4_weigh 81 = .ok (.invokevirtual 70, 3) := by decide +kernel
theorem dX4_weigh_84 : decode cX4_weigh 84 = .ok (.iastore, 1) := by decide +kernel
theorem dX4_weigh_85 : decode cX4_weigh 85 = .ok (.aload_n 0, 1) := by decide +kernel
theorem dX4_weigh_86 : decode cX4_weigh 86 = .ok (.getfield 15, 3) := by decide +kernel
theorem dX4_weigh_89 : decode cX4_weigh 89 = .ok (.aload_n 1, 1) := by decide +kernel
theorem dX4_weigh_90 : decode cX4_weigh 90 = .ok (.invokevirtual 74, 3) := by decide +kernel
theorem dX4_weigh_93 : decode cX4_weigh 93 = .ok (.aload_n 0, 1) := by decide +kernel
theorem dX4_weigh_94 : decode cX4_weigh 94 = .ok (.getfield 15, 3) := by decide +kernel
theorem dX4_weigh_97 : decode cX4_weigh 97 = .ok (.aload_n 1, 1) := by decide +kernel
theorem dX4_weigh_98 : decode cX4_weigh 98 = .ok (.iload_n 2, 1) := by decide +kernel
theorem dX4_weigh_99 : decode cX4_weigh 99 = .ok (.aload_n 1, 1) := by decide +kernel
theorem dX4_weigh_100 : decode cX4_weigh 100 = .ok (.iload_n 2, 1) := by decide +kernel
theorem dX4_weigh_101 : decode cX4_weigh 101 = .ok (.invokevirtual 25, 3) := by decide +kernel
theorem dX4_weigh_104 : decode cX4_weigh 104 = .ok (.invokevirtual 31, 3) := by decide +kernel
theorem dX4_weigh_107 : decode cX4_weigh 107 = .ok (.aload_n 0, 1) := by decide +kernel
theorem dX4_weigh_108 : decode cX4_weigh 108 = .ok (.getfield 35, 3) := by decide +kernel
theorem dX4_weigh_111 : decode cX4_weigh 111 = .ok (.isub, 1) := by decide +kernel
theorem dX4_weigh_112 : decode cX4_weigh 112 = .ok (.istore 8, 2) := by decide +kernel
theorem dX4_weigh_114 : decode cX4_weigh 114 = .ok (.iload 6, 2) := by decide +kernel
theorem dX4_weigh_116 : decode cX4_weigh 116 = .ok (.ifCond .le 7, 3) := by decide +kernel
theorem dX4_weigh_119 : decode cX4_weigh 119 = .ok (.iconst 4, 1) := by decide +kernel
theorem dX4_weigh_120 : decode cX4_weigh 120 = .ok (.goto 13, 3) := by decide +kernel
theorem dX4_weigh_123 : decode cX4_weigh 123 = .ok (.iload 5, 2) := by decide +kernel
theorem dX4_weigh_125 : decode cX4_weigh 125 = .ok (.ifCond .le 7, 3) := by decide +kernel
theorem dX4_weigh_128 : decode cX4_weigh 128 = .ok (.iconst 3, 1) := by decide +kernel
theorem dX4_weigh_129 : decode cX4_weigh 129 = .ok (.goto 4, 3) := by decide +kernel
theorem dX4_weigh_132 : decode cX4_weigh 132 = .ok (.iconst 2, 1) := by decide +kernel
theorem dX4_weigh_133 : decode cX4_weigh 133 = .ok (.istore 9, 2) := by decide +kernel
theorem dX4_weigh_135 : decode cX4_weigh 135 = .ok (.aload_n 0, 1) := by decide +kernel
theorem dX4_weigh_136 : decode cX4_weigh 136 = .ok (.getfield 9, 3) := by decide +kernel
theorem dX4_weigh_139 : decode cX4_weigh 139 = .ok (.iload 9, 2) := by decide +kernel
theorem dX4_weigh_141 : decode cX4_weigh 141 = .ok (.aload_n 0, 1) := by decide +kernel
theorem dX4_weigh_142 : decode cX4_weigh 142 = .ok (.getfield 9, 3) := by decide +kernel
theorem dX4_weigh_145 : decode cX4_weigh 145 = .ok (.iload 9, 2) := by decide +kernel
theorem dX4_weigh_147 : decode cX4_weigh 147 = .ok (.iaload, 1) := by decide +kernel
theorem dX4_weigh_148 : decode cX4_weigh 148 = .ok (.iload 8, 2) := by decide +kernel
theorem dX4_weigh_150 : decode cX4_weigh 150 = .ok (.invokestatic 77, 3) := by decide +kernel
theorem dX4_weigh_153 : decode cX4_weigh 153 = .ok (.iastore, 1) := by decide +kernel
theorem dX4_weigh_154 : decode cX4_weigh 154 = .ok (.return_, 1) := by decide +kernel
theorem dX4_most_0 : decode cX4_most 0 = .ok (.iconst 0, 1) := by decide +kernel
theorem dX4_most_1 : decode cX4_most 1 = .ok (.istore_n 1, 1) := by decide +kernel
theorem dX4_most_2 : decode cX4_most 2 = .ok (.iconst 2, 1) := by decide +kernel
theorem dX4_most_3 : decode cX4_most 3 = .ok (.istore_n 2, 1) := by decide +kernel
theorem dX4_most_4 : decode cX4_most 4 = .ok (.iload_n 2, 1) := by decide +kernel
theorem dX4_most_5 : decode cX4_most 5 = .ok (.iconst 4, 1) := by decide +kernel
theorem dX4_most_6 : decode cX4_most 6 = .ok (.if_icmp .gt 20, 3) := by decide +kernel
theorem dX4_most_9 : decode cX4_most 9 = .ok (.iload_n 1, 1) := by decide +kernel
theorem dX4_most_10 : decode cX4_most 10 = .ok (.aload_n 0, 1) := by decide +kernel
theorem dX4_most_11 : decode cX4_most 11 = .ok (.getfield 9, 3) := by decide +kernel
theorem dX4_most_14 : decode cX4_most 14 = .ok (.iload_n 2, 1) := by decide +kernel
theorem dX4_most_15 : decode cX4_most 15 = .ok (.iaload, 1) := by decide +kernel
theorem dX4_most_16 : decode cX4_most 16 = .ok (.invokestatic 77, 3) := by decide +kernel
theorem dX4_most_19 : decode cX4_most 19 = .ok (.istore_n 1, 1) := by decide +kernel
theorem dX4_most_20 : decode cX4_most 20 = .ok (.iinc 2 1, 3) := by decide +kernel
theorem dX4_most_23 : decode cX4_most 23 = .ok (.goto (-19), 3) := by decide +kernel
theorem dX4_most_26 : decode cX4_most 26 = .ok (.iload_n 1, 1) := by decide +kernel
theorem dX4_most_27 : decode cX4_most 27 = .ok (.ireturn, 1) := by decide +kernel
theorem dX4_leastCost_0 : decode cX4_leastCost 0 = .ok (.iconst 0, 1) := by decide +kernel
theorem dX4_leastCost_1 : decode cX4_leastCost 1 = .ok (.istore_n 1, 1) := by decide +kernel
theorem dX4_leastCost_2 : decode cX4_leastCost 2 = .ok (.iconst 2, 1) := by decide +kernel
theorem dX4_leastCost_3 : decode cX4_leastCost 3 = .ok (.istore_n 2, 1) := by decide +kernel
theorem dX4_leastCost_4 : decode cX4_leastCost 4 = .ok (.iload_n 2, 1) := by decide +kernel
theorem dX4_leastCost_5 : decode cX4_leastCost 5 = .ok (.iconst 4, 1) := by decide +kernel
theorem dX4_leastCost_6 : decode cX4_leastCost 6 = .ok (.if_icmp .gt 30, 3) := by decide +kernel
theorem dX4_leastCost_9 : decode cX4_leastCost 9 = .ok (.iload_n 2, 1) := by decide +kernel
theorem dX4_leastCost_10 : decode cX4_leastCost 10 = .ok (.iconst 1, 1) := by decide +kernel
theorem dX4_leastCost_11 : decode cX4_leastCost 11 = .ok (.isub, 1) := by decide +kernel
theorem dX4_leastCost_12 : decode cX4_leastCost 12 = .ok (.istore_n 3, 1) := by decide +kernel
theorem dX4_leastCost_13 : decode cX4_leastCost 13 = .ok (.iload_n 1, 1) := by decide +kernel
theorem dX4_leastCost_14 : decode cX4_leastCost 14 = .ok (.aload_n 0, 1) := by decide +kernel
theorem dX4_leastCost_15 : decode cX4_leastCost 15 = .ok (.getfield 9, 3) := by decide +kernel
theorem dX4_leastCost_18 : decode cX4_leastCost 18 = .ok (.iload_n 2, 1) := by decide +kernel
theorem dX4_leastCost_19 : decode cX4_leastCost 19 = .ok (.iaload, 1) := by decide +kernel
theorem dX4_leastCost_20 : decode cX4_leastCost 20 = .ok (.iload_n 3, 1) := by decide +kernel
theorem dX4_leastCost_21 : decode cX4_leastCost 21 = .ok (.iadd, 1) := by decide +kernel
theorem dX4_leastCost_22 : decode cX4_leastCost 22 = .ok (.iconst 1, 1) := by decide +kernel
theorem dX4_leastCost_23 : decode cX4_leastCost 23 = .ok (.isub, 1) := by decide +kernel
theorem dX4_leastCost_24 : decode cX4_leastCost 24 = .ok (.iload_n 3, 1) := by decide +kernel
theorem dX4_leastCost_25 : decode cX4_leastCost 25 = .ok (.idiv, 1) := by decide +kernel
theorem dX4_leastCost_26 : decode cX4_leastCost 26 = .ok (.invokestatic 77, 3) := by decide +kernel
theorem dX4_leastCost_29 : decode cX4_leastCost 29 = .ok (.istore_n 1, 1) := by decide +kernel
theorem dX4_leastCost_30 : decode cX4_leastCost 30 = .ok (.iinc 2 1, 3) := by decide +kernel
theorem dX4_leastCost_33 : decode cX4_leastCost 33 = .ok (.goto (-29), 3) := by decide +kernel
theorem dX4_leastCost_36 : decode cX4_leastCost 36 = .ok (.iload_n 1, 1) := by decide +kernel
theorem dX4_leastCost_37 : decode cX4_leastCost 37 = .ok (.ireturn, 1) := by decide +kernel
theorem dX6_init_0 : decode cX6_init 0 = .ok (.aload_n 0, 1) := by decide +kernel
theorem dX6_init_1 : decode cX6_init 1 = .ok (.invokespecial 3, 3) := by decide +kernel
theorem dX6_init_4 : decode cX6_init 4 = .ok (.aload_n 0, 1) := by decide +kernel
theorem dX6_init_5 : decode cX6_init 5 = .ok (.bipush 41, 2) := by decide +kernel
theorem dX6_init_7 : decode cX6_init 7 = .ok (.newarray .long, 2) := by decide +kernel
theorem dX6_init_9 : decode cX6_init 9 = .ok (.putfield 9, 3) := by decide +kernel
theorem dX6_init_12 : decode cX6_init 12 = .ok (.aload_n 0, 1) := by decide +kernel
theorem dX6_init_13 : decode cX6_init 13 = .ok (.aload_n 1, 1) := by decide +kernel
theorem dX6_init_14 : decode cX6_init 14 = .ok (.putfield 15, 3) := by decide +kernel
theorem dX6_init_17 : decode cX6_init 17 = .ok (.return_, 1) := by decide +kernel
theorem dX6_run_0 : decode cX6_run 0 = .ok (.iconst 0, 1) := by decide +kernel
theorem dX6_run_1 : decode cX6_run 1 = .ok (.istore_n 2, 1) := by decide +kernel
theorem dX6_run_2 : decode cX6_run 2 = .ok (.aload_n 0, 1) := by decide +kernel
theorem dX6_run_3 : decode cX6_run 3 = .ok (.getfield 9, 3) := by decide +kernel
theorem dX6_run_6 : decode cX6_run 6 = .ok (.iconst 0, 1) := by decide +kernel
theorem dX6_run_7 : decode cX6_run 7 = .ok (.aload_n 1, 1) := by decide +kernel
theorem dX6_run_8 : decode cX6_run 8 = .ok (.invokevirtual 19, 3) := by decide +kernel
theorem dX6_run_11 : decode cX6_run 11 = .ok (.lastore, 1) := by decide +kernel
theorem dX6_run_12 : decode cX6_run 12 = .ok (.iconst 1, 1) := by decide +kernel
theorem dX6_run_13 : decode cX6_run 13 = .ok (.istore_n 3, 1) := by decide +kernel
theorem dX6_run_14 : decode cX6_run 14 = .ok (.iload_n 3, 1) := by decide +kernel
theorem dX6_run_15 : decode cX6_run 15 = .ok (.bipush 40, 2) := by decide +kernel
theorem dX6_run_17 : decode cX6_run 17 = .ok (.if_icmp .gt 109, 3) := by decide +kernel
theorem dX6_run_20 : decode cX6_run 20 = .ok (.iconst 0, 1) := by decide +kernel
theorem dX6_run_21 : decode cX6_run 21 = .ok (.istore 4, 2) := by decide +kernel
theorem dX6_run_23 : decode cX6_run 23 = .ok (.iload 4, 2) := by decide +kernel
theorem dX6_run_25 : decode cX6_run 25 = .ok (.aload_n 1, 1) := by decide +kernel
theorem dX6_run_26 : decode cX6_run 26 = .ok (.getfield 25, 3) := by decide +kernel
theorem dX6_run_29 : decode cX6_run 29 = .ok (.if_icmp .ge 71, 3) := by decide +kernel
theorem dX6_run_32 : decode cX6_run 32 = .ok (.iinc 2 1, 3) := by decide +kernel
theorem dX6_run_35 : decode cX6_run 35 = .ok (.aload_n 0, 1) := by decide +kernel
theorem dX6_run_36 : decode cX6_run 36 = .ok (.getfield 15, 3) := by decide +kernel
theorem dX6_run_39 : decode cX6_run 39 = .ok (.aload_n 1, 1) := by decide +kernel
theorem dX6_run_40 : decode cX6_run 40 = .ok (.iload 4, 2) := by decide +kernel
theorem dX6_run_42 : decode cX6_run 42 = .ok (.invokevirtual 29, 3) := by decide +kernel
theorem dX6_run_45 : decode cX6_run 45 = .ok (.aload_n 0, 1) := by decide +kernel
theorem dX6_run_46 : decode cX6_run 46 = .ok (.getfield 15, 3) := by decide +kernel
theorem dX6_run_49 : decode cX6_run 49 = .ok (.getfield 35, 3) := by decide +kernel
theorem dX6_run_52 : decode cX6_run 52 = .ok (.aload_n 0, 1) := by decide +kernel
theorem dX6_run_53 : decode cX6_run 53 = .ok (.getfield 15, 3) := by decide +kernel
theorem dX6_run_56 : decode cX6_run 56 = .ok (.getfield 38, 3) := by decide +kernel
theorem dX6_run_59 : decode cX6_run 59 = .ok (.if_icmp .le 25, 3) := by decide +kernel
theorem dX6_run_62 : decode cX6_run 62 = .ok (.aload_n 0, 1) := by decide +kernel
theorem dX6_run_63 : decode cX6_run 63 = .ok (.getfield 15, 3) := by decide +kernel
theorem dX6_run_66 : decode cX6_run 66 = .ok (.getfield 41, 3) := by decide +kernel
theorem dX6_run_69 : decode cX6_run 69 = .ok (.iconst 0, 1) := by decide +kernel
theorem dX6_run_70 : decode cX6_run 70 = .ok (.aload_n 1, 1) := by decide +kernel
theorem dX6_run_71 : decode cX6_run 71 = .ok (.getfield 45, 3) := by decide +kernel
theorem dX6_run_74 : decode cX6_run 74 = .ok (.iload 4, 2) := by decide +kernel
theorem dX6_run_76 : decode cX6_run 76 = .ok (.iconst 3, 1) := by decide +kernel
theorem dX6_run_77 : decode cX6_run 77 = .ok (.imul, 1) := by decide +kernel
theorem dX6_run_78 : decode cX6_run 78 = .ok (.iconst 3, 1) := by decide +kernel
theorem dX6_run_79 : decode cX6_run 79 = .ok (.invokestatic 48, 3) := by decide +kernel
theorem dX6_run_82 : decode cX6_run 82 = .ok (.iconst 0, 1) := by decide +kernel
theorem dX6_run_83 : decode cX6_run 83 = .ok (.istore_n 2, 1) := by decide +kernel
theorem dX6_run_84 : decode cX6_run 84 = .ok (.iload_n 2, 1) := by decide +kernel
theorem dX6_run_85 : decode cX6_run 85 = .ok (.aload_n 1, 1) := by decide +kernel
theorem dX6_run_86 : decode cX6_run 86 = .ok (.getfield 25, 3) := by decide +kernel
theorem dX6_run_89 : decode cX6_run 89 = .ok (.if_icmp .ne 5, 3) := by decide +kernel
theorem dX6_run_92 : decode cX6_run 92 = .ok (.iconst 0, 1) := by decide +kernel
theorem dX6_run_93 : decode cX6_run 93 = .ok (.ireturn, 1) := by decide +kernel
theorem dX6_run_94 : decode cX6_run 94 = .ok (.iinc 4 1, 3) := by decide +kernel
theorem dX6_run_97 : decode cX6_run 97 = .ok (.goto (-74), 3) := by decide +kernel
theorem dX6_run_100 : decode cX6_run 100 = .ok (.aload_n 0, 1) := by decide +kernel
theorem dX6_run_101 : decode cX6_run 101 = .ok (.getfield 9, 3) := by decide +kernel
theorem dX6_run_104 : decode cX6_run 104 = .ok (.iload_n 3, 1) := by decide +kernel
theorem dX6_run_105 : decode cX6_run 105 = .ok (.aload_n 1, 1) := by decide +kernel
theorem dX6_run_106 : decode cX6_run 106 = .ok (.invokevirtual 19, 3) := by decide +kernel
theorem dX6_run_109 : decode cX6_run 109 = .ok (.lastore, 1) := by decide +kernel
theorem dX6_run_110 : decode cX6_run 110 = .ok (.aload_n 0, 1) := by decide +kernel
theorem dX6_run_111 : decode cX6_run 111 = .ok (.iload_n 3, 1) := by decide +kernel
theorem dX6_run_112 : decode cX6_run 112 = .ok (.invokevirtual 54, 3) := by decide +kernel
theorem dX6_run_115 : decode cX6_run 115 = .ok (.ifCond .eq 5, 3) := by decide +kernel
theorem dX6_run_118 : decode cX6_run 118 = .ok (.iconst 1, 1) := by decide +kernel
theorem dX6_run_119 : decode cX6_run 119 = .ok (.ireturn, 1) := by decide +kernel
theorem dX6_run_120 : decode cX6_run 120 = .ok (.iinc 3 1, 3) := by decide +kernel
theorem dX6_run_123 : decode cX6_run 123 = .ok (.goto (-109), 3) := by decide +kernel
theorem dX6_run_126 : decode cX6_run 126 = .ok (.iconst 2, 1) := by decide +kernel
theorem dX6_run_127 : decode cX6_run 127 = .ok (.ireturn, 1) := by decide +kernel
theorem dX6_wasBefore_0 : decode cX6_wasBefore 0 = .ok (.iconst 0, 1) := by decide +kernel
theorem dX6_wasBefore_1 : decode cX6_wasBefore 1 = .ok (.istore_n 2, 1) := by decide +kernel
theorem dX6_wasBefore_2 : decode cX6_wasBefore 2 = .ok (.iload_n 2, 1) := by decide +kernel
theorem dX6_wasBefore_3 : decode cX6_wasBefore 3 = .ok (.iload_n 1, 1) := by decide +kernel
theorem dX6_wasBefore_4 : decode cX6_wasBefore 4 = .ok (.if_icmp .ge 27, 3) := by decide +kernel
theorem dX6_wasBefore_7 : decode cX6_wasBefore 7 = .ok (.aload_n 0, 1) := by decide +kernel
theorem dX6_wasBefore_8 : decode cX6_wasBefore 8 = .ok (.getfield 9, 3) := by decide +kernel
theorem dX6_wasBefore_11 : decode cX6_wasBefore 11 = .ok (.iload_n 2, 1) := by decide +kernel
theorem dX6_wasBefore_12 : decode cX6_wasBefore 12 = .ok (.laload, 1) := by decide +kernel
theorem dX6_wasBefore_13 : decode cX6_wasBefore 13 = .ok (.aload_n 0, 1) := by decide +kernel
theorem dX6_wasBefore_14 : decode cX6_wasBefore 14 = .ok (.getfield 9, 3) := by decide +kernel
theorem dX6_wasBefore_17 : decode cX6_wasBefore 17 = .ok (.iload_n 1, 1) := by decide +kernel
theorem dX6_wasBefore_18 : decode cX6_wasBefore 18 = .ok (.laload, 1) := by decide +kernel
theorem dX6_wasBefore_19 : decode cX6_wasBefore 19 = .ok (.lcmp, 1) := by decide +kernel
theorem dX6_wasBefore_20 : decode cX6_wasBefore 20 = .ok (.ifCond .ne 5, 3) := by decide +kernel
theorem dX6_wasBefore_23 : decode cX6_wasBefore 23 = .ok (.iconst 1, 1) := by decide +kernel
theorem dX6_wasBefore_24 : decode cX6_wasBefore 24 = .ok (.ireturn, 1) := by decide +kernel
theorem dX6_wasBefore_25 : decode cX6_wasBefore 25 = .ok (.iinc 2 1, 3) := by decide +kernel
theorem dX6_wasBefore_28 : decode cX6_wasBefore 28 = .ok (.goto (-26), 3) := by decide +kernel
theorem dX6_wasBefore_31 : decode cX6_wasBefore 31 = .ok (.iconst 0, 1) := by decide +kernel
theorem dX6_wasBefore_32 : decode cX6_wasBefore 32 = .ok (.ireturn, 1) := by decide +kernel
theorem dX10_init_0 : decode cX10_init 0 = .ok (.aload_n 0, 1) := by decide +kernel
theorem dX10_init_1 : decode cX10_init 1 = .ok (.invokespecial 1, 3) := by decide +kernel
theorem dX10_init_4 : decode cX10_init 4 = .ok (.aload_n 0, 1) := by decide +kernel
theorem dX10_init_5 : decode cX10_init 5 = .ok (.new 7, 3) := by decide +kernel
theorem dX10_init_8 : decode cX10_init 8 = .ok (.dup, 1) := by decide +kernel
theorem dX10_init_9 : decode cX10_init 9 = .ok (.invokespecial 9, 3) := by decide +kernel
theorem dX10_init_12 : decode cX10_init 12 = .ok (.putfield 10, 3) := by decide +kernel
theorem dX10_init_15 : decode cX10_init 15 = .ok (.aload_n 0, 1) := by decide +kernel
theorem dX10_init_16 : decode cX10_init 16 = .ok (.new 7, 3) := by decide +kernel
theorem dX10_init_19 : decode cX10_init 19 = .ok (.dup, 1) := by decide +kernel
theorem dX10_init_20 : decode cX10_init 20 = .ok (.invokespecial 9, 3) := by decide +kernel
theorem dX10_init_23 : decode cX10_init 23 = .ok (.putfield 16, 3) := by decide +kernel
theorem dX10_init_26 : decode cX10_init 26 = .ok (.aload_n 0, 1) := by decide +kernel
theorem dX10_init_27 : decode cX10_init 27 = .ok (.iconst 2, 1) := by decide +kernel
theorem dX10_init_28 : decode cX10_init 28 = .ok (.anewarray 7, 3) := by decide +kernel
theorem dX10_init_31 : decode cX10_init 31 = .ok (.putfield 19, 3) := by decide +kernel
theorem dX10_init_34 : decode cX10_init 34 = .ok (.aload_n 0, 1) := by decide +kernel
theorem dX10_init_35 : decode cX10_init 35 = .ok (.iconst 2, 1) := by decide +kernel
theorem dX10_init_36 : decode cX10_init 36 = .ok (.newarray .boolean, 2) := by decide +kernel
theorem dX10_init_38 : decode cX10_init 38 = .ok (.putfield 23, 3) := by decide +kernel
theorem dX10_init_41 : decode cX10_init 41 = .ok (.aload_n 0, 1) := by decide +kernel
theorem dX10_init_42 : decode cX10_init 42 = .ok (.new 27, 3) := by decide +kernel
theorem dX10_init_45 : decode cX10_init 45 = .ok (.dup, 1) := by decide +kernel
theorem dX10_init_46 : decode cX10_init 46 = .ok (.invokespecial 29, 3) := by decide +kernel
theorem dX10_init_49 : decode cX10_init 49 = .ok (.putfield 30, 3) := by decide +kernel
theorem dX10_init_52 : decode cX10_init 52 = .ok (.aload_n 0, 1) := by decide +kernel
theorem dX10_init_53 : decode cX10_init 53 = .ok (.new 34, 3) := by decide +kernel
theorem dX10_init_56 : decode cX10_init 56 = .ok (.dup, 1) := by decide +kernel
theorem dX10_init_57 : decode cX10_init 57 = .ok (.invokespecial 36, 3) := by decide +kernel
theorem dX10_init_60 : decode cX10_init 60 = .ok (.putfield 37, 3) := by decide +kernel
theorem dX10_init_63 : decode cX10_init 63 = .ok (.aload_n 0, 1) := by decide +kernel
theorem dX10_init_64 : decode cX10_init 64 = .ok (.new 41, 3) := by decide +kernel
theorem dX10_init_67 : decode cX10_init 67 = .ok (.dup, 1) := by decide +kernel
theorem dX10_init_68 : decode cX10_init 68 = .ok (.aload_n 0, 1) := by decide +kernel
theorem dX10_init_69 : decode cX10_init 69 = .ok (.getfield 37, 3) := by decide +kernel
theorem dX10_init_72 : decode cX10_init 72 = .ok (.invokespecial 43, 3) := by decide +kernel
theorem dX10_init_75 : decode cX10_init 75 = .ok (.putfield 46, 3) := by decide +kernel
theorem dX10_init_78 : decode cX10_init 78 = .ok (.aload_n 0, 1) := by decide +kernel
theorem dX10_init_79 : decode cX10_init 79 = .ok (.new 50, 3) := by decide +kernel
theorem dX10_init_82 : decode cX10_init 82 = .ok (.dup, 1) := by decide +kernel
theorem dX10_init_83 : decode cX10_init 83 = .ok (.aload_n 0, 1) := by decide +kernel
theorem dX10_init_84 : decode cX10_init 84 = .ok (.getfield 46, 3) := by decide +kernel
theorem dX10_init_87 : decode cX10_init 87 = .ok (.invokespecial 52, 3) := by decide +kernel
theorem dX10_init_90 : decode cX10_init 90 = .ok (.putfield 55, 3) := by decide +kernel
theorem dX10_init_93 : decode cX10_init 93 = .ok (.aload_n 0, 1) := by decide +kernel
theorem dX10_init_94 : decode cX10_init 94 = .ok (.new 59, 3) := by decide +kernel
theorem dX10_init_97 : decode cX10_init 97 = .ok (.dup, 1) := by decide +kernel
theorem dX10_init_98 : decode cX10_init 98 = .ok (.aload_n 0, 1) := by decide +kernel
theorem dX10_init_99 : decode cX10_init 99 = .ok (.getfield 55, 3) := by decide +kernel
theorem dX10_init_102 : decode cX10_init 102 = .ok (.invokespecial 61, 3) := by decide +kernel
theorem dX10_init_105 : decode cX10_init 105 = .ok (.putfield 64, 3) := by decide +kernel
theorem dX10_init_108 : decode cX10_init 108 = .ok (.aload_n 0, 1) := by decide +kernel
theorem dX10_init_109 : decode cX10_init 109 = .ok (.new 68, 3) := by decide +kernel
theorem dX10_init_112 : decode cX10_init 112 = .ok (.dup, 1) := by decide +kernel
theorem dX10_init_113 : decode cX10_init 113 = .ok (.invokespecial 70, 3) := by decide +kernel
theorem dX10_init_116 : decode cX10_init 116 = .ok (.putfield 71, 3) := by decide +kernel
theorem dX10_init_119 : decode cX10_init 119 = .ok (.aload_n 0, 1) := by decide +kernel
theorem dX10_init_120 : decode cX10_init 120 = .ok (.new 75, 3) := by decide +kernel
theorem dX10_init_123 : decode cX10_init 123 = .ok (.dup, 1) := by decide +kernel
theorem dX10_init_124 : decode cX10_init 124 = .ok (.aload_n 0, 1) := by decide +kernel
theorem dX10_init_125 : decode cX10_init 125 = .ok (.getfield 46, 3) := by decide +kernel
theorem dX10_init_128 : decode cX10_init 128 = .ok (.invokespecial 77, 3) := by decide +kernel
theorem dX10_init_131 : decode cX10_init 131 = .ok (.putfield 78, 3) := by decide +kernel
theorem dX10_init_134 : decode cX10_init 134 = .ok (.aload_n 0, 1) := by decide +kernel
theorem dX10_init_135 : decode cX10_init 135 = .ok (.new 82, 3) := by decide +kernel
theorem dX10_init_138 : decode cX10_init 138 = .ok (.dup, 1) := by decide +kernel
theorem dX10_init_139 : decode cX10_init 139 = .ok (.aload_n 0, 1) := by decide +kernel
theorem dX10_init_140 : decode cX10_init 140 = .ok (.getfield 37, 3) := by decide +kernel
theorem dX10_init_143 : decode cX10_init 143 = .ok (.invokespecial 84, 3) := by decide +kernel
theorem dX10_init_146 : decode cX10_init 146 = .ok (.putfield 85, 3) := by decide +kernel
theorem dX10_init_149 : decode cX10_init 149 = .ok (.iconst 0, 1) := by decide +kernel
theorem dX10_init_150 : decode cX10_init 150 = .ok (.istore_n 1, 1) := by decide +kernel
theorem dX10_init_151 : decode cX10_init 151 = .ok (.iload_n 1, 1) := by decide +kernel
theorem dX10_init_152 : decode cX10_init 152 = .ok (.iconst 2, 1) := by decide +kernel
theorem dX10_init_153 : decode cX10_init 153 = .ok (.if_icmp .ge 22, 3) := by decide +kernel
theorem dX10_init_156 : decode cX10_init 156 = .ok (.aload_n 0, 1) := by decide +kernel
theorem dX10_init_157 : decode cX10_init 157 = .ok (.getfield 19, 3) := by decide +kernel
theorem dX10_init_160 : decode cX10_init 160 = .ok (.iload_n 1, 1) := by decide +kernel
theorem dX10_init_161 : decode cX10_init 161 = .ok (.new 7, 3) := by decide +kernel
theorem dX10_init_164 : decode cX10_init 164 = .ok (.dup, 1) := by decide +kernel
theorem dX10_init_165 : decode cX10_init 165 = .ok (.invokespecial 9, 3) := by decide +kernel
theorem dX10_init_168 : decode cX10_init 168 = .ok (.aastore, 1) := by decide +kernel
theorem dX10_init_169 : decode cX10_init 169 = .ok (.iinc 1 1, 3) := by decide +kernel
theorem dX10_init_172 : decode cX10_init 172 = .ok (.goto (-21), 3) := by decide +kernel
theorem dX10_init_175 : decode cX10_init 175 = .ok (.return_, 1) := by decide +kernel
theorem dX10_giver_0 : decode cX10_giver 0 = .ok (.iload_n 1, 1) := by decide +kernel
theorem dX10_giver_1 : decode cX10_giver 1 = .ok (.bipush 12, 2) := by decide +kernel
theorem dX10_giver_3 : decode cX10_giver 3 = .ok (.invokestatic 89, 3) := by decide +kernel
theorem dX10_giver_6 : decode cX10_giver 6 = .ok (.ifCond .ne 6, 3) := by decide +kernel
theorem dX10_giver_9 : decode cX10_giver 9 = .ok (.bipush (-2), 2) := by decide +kernel
theorem dX10_giver_11 : decode cX10_giver 11 = .ok (.ireturn, 1) := by decide +kernel
theorem dX10_giver_12 : decode cX10_giver 12 = .ok (.aload_n 0, 1) := by decide +kernel
theorem dX10_giver_13 : decode cX10_giver 13 = .ok (.getfield 10, 3) := by decide +kernel
theorem dX10_giver_16 : decode cX10_giver 16 = .ok (.getfield 93, 3) := by decide +kernel
theorem dX10_giver_19 : decode cX10_giver 19 = .ok (.iconst 5, 1) := by decide +kernel
theorem dX10_giver_20 : decode cX10_giver 20 = .ok (.if_icmp .lt 6, 3) := by decide +kernel
theorem dX10_giver_23 : decode cX10_giver 23 = .ok (.bipush (-4), 2) := by decide +kernel
theorem dX10_giver_25 : decode cX10_giver 25 = .ok (.ireturn, 1) := by decide +kernel
theorem dX10_giver_26 : decode cX10_giver 26 = .ok (.aload_n 0, 1) := by decide +kernel
theorem dX10_giver_27 : decode cX10_giver 27 = .ok (.getfield 10, 3) := by decide +kernel
theorem dX10_giver_30 : decode cX10_giver 30 = .ok (.getfield 97, 3) := by decide +kernel
theorem dX10_giver_33 : decode cX10_giver 33 = .ok (.aload_n 0, 1) := by decide +kernel
theorem dX10_giver_34 : decode cX10_giver 34 = .ok (.getfield 10, 3) := by decide +kernel
theorem dX10_giver_37 : decode cX10_giver 37 = .ok (.getfield 93, 3) := by decide +kernel
theorem dX10_giver_40 : decode cX10_giver 40 = .ok (.iload_n 1, 1) := by decide +kernel
theorem dX10_giver_41 : decode cX10_giver 41 = .ok (.iastore, 1) := by decide +kernel
theorem dX10_giver_42 : decode cX10_giver 42 = .ok (.aload_n 0, 1) := by decide +kernel
theorem dX10_giver_43 : decode cX10_giver 43 = .ok (.getfield 10, 3) := by decide +kernel
theorem dX10_giver_46 : decode cX10_giver 46 = .ok (.dup, 1) := by decide +kernel
theorem dX10_giver_47 : decode cX10_giver 47 = .ok (.getfield 93, 3) := by decide +kernel
theorem dX10_giver_50 : decode cX10_giver 50 = .ok (.iconst 1, 1) := by decide +kernel
theorem dX10_giver_51 : decode cX10_giver 51 = .ok (.iadd, 1) := by decide +kernel
theorem dX10_giver_52 : decode cX10_giver 52 = .ok (.putfield 93, 3) := by decide +kernel
theorem dX10_giver_55 : decode cX10_giver 55 = .ok (.aload_n 0, 1) := by decide +kernel
theorem dX10_giver_56 : decode cX10_giver 56 = .ok (.getfield 10, 3) := by decide +kernel
theorem dX10_giver_59 : decode cX10_giver 59 = .ok (.getfield 93, 3) := by decide +kernel
theorem dX10_giver_62 : decode cX10_giver 62 = .ok (.iconst 1, 1) := by decide +kernel
theorem dX10_giver_63 : decode cX10_giver 63 = .ok (.isub, 1) := by decide +kernel
theorem dX10_giver_64 : decode cX10_giver 64 = .ok (.ireturn, 1) := by decide +kernel
theorem dX10_work_0 : decode cX10_work 0 = .ok (.iload_n 1, 1) := by decide +kernel
theorem dX10_work_1 : decode cX10_work 1 = .ok (.bipush 60, 2) := by decide +kernel
theorem dX10_work_3 : decode cX10_work 3 = .ok (.invokestatic 89, 3) := by decide +kernel
theorem dX10_work_6 : decode cX10_work 6 = .ok (.ifCond .ne 6, 3) := by decide +kernel
theorem dX10_work_9 : decode cX10_work 9 = .ok (.bipush (-2), 2) := by decide +kernel
theorem dX10_work_11 : decode cX10_work 11 = .ok (.ireturn, 1) := by decide +kernel
theorem dX10_work_12 : decode cX10_work 12 = .ok (.aload_n 0, 1) := by decide +kernel
theorem dX10_work_13 : decode cX10_work 13 = .ok (.getfield 10, 3) := by decide +kernel
theorem dX10_work_16 : decode cX10_work 16 = .ok (.getfield 101, 3) := by decide +kernel
theorem dX10_work_19 : decode cX10_work 19 = .ok (.iconst 3, 1) := by decide +kernel
theorem dX10_work_20 : decode cX10_work 20 = .ok (.if_icmp .lt 6, 3) := by decide +kernel
theorem dX10_work_23 : decode cX10_work 23 = .ok (.bipush (-4), 2) := by decide +kernel
theorem dX10_work_25 : decode cX10_work 25 = .ok (.ireturn, 1) := by decide +kernel
theorem dX10_work_26 : decode cX10_work 26 = .ok (.aload_n 0, 1) := by decide +kernel
theorem dX10_work_27 : decode cX10_work 27 = .ok (.getfield 10, 3) := by decide +kernel
theorem dX10_work_30 : decode cX10_work 30 = .ok (.getfield 104, 3) := by decide +kernel
theorem dX10_work_33 : decode cX10_work 33 = .ok (.aload_n 0, 1) := by decide +kernel
theorem dX10_work_34 : decode cX10_work 34 = .ok (.getfield 10, 3) := by decide +kernel
theorem dX10_work_37 : decode cX10_work 37 = .ok (.getfield 101, 3) := by decide +kernel
theorem dX10_work_40 : decode cX10_work 40 = .ok (.iload_n 1, 1) := by decide +kernel
theorem dX10_work_41 : decode cX10_work 41 = .ok (.iastore, 1) := by decide +kernel
theorem dX10_work_42 : decode cX10_work 42 = .ok (.aload_n 0, 1) := by decide +kernel
theorem dX10_work_43 : decode cX10_work 43 = .ok (.getfield 10, 3) := by decide +kernel
theorem dX10_work_46 : decode cX10_work 46 = .ok (.dup, 1) := by decide +kernel
theorem dX10_work_47 : decode cX10_work 47 = .ok (.getfield 101, 3) := by decide +kernel
theorem dX10_work_50 : decode cX10_work 50 = .ok (.iconst 1, 1) := by decide +kernel
theorem dX10_work_51 : decode cX10_work 51 = .ok (.iadd, 1) := by decide +kernel
theorem dX10_work_52 : decode cX10_work 52 = .ok (.putfield 101, 3) := by decide +kernel
