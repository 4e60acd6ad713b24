theorem dM_costOf_47 : decode prog_7_method_11_code 47 = .ok (.ireturn, 1) := by decide +kernel
theorem dM_better_0 : decode prog_7_method_14_code 0 = .ok (.iload_n 3, 1) := by decide +kernel
theorem dM_better_1 : decode prog_7_method_14_code 1 = .ok (.aload_n 0, 1) := by decide +kernel
theorem dM_better_2 : decode prog_7_method_14_code 2 = .ok (.getfield 34, 3) := by decide +kernel
theorem dM_better_5 : decode prog_7_method_14_code 5 = .ok (.bipush 41, 2) := by decide +kernel
theorem dM_better_7 : decode prog_7_method_14_code 7 = .ok (.iload_n 1, 1) := by decide +kernel
theorem dM_better_8 : decode prog_7_method_14_code 8 = .ok (.imul, 1) := by decide +kernel
theorem dM_better_9 : decode prog_7_method_14_code 9 = .ok (.iload_n 2, 1) := by decide +kernel
theorem dM_better_10 : decode prog_7_method_14_code 10 = .ok (.iadd, 1) := by decide +kernel
theorem dM_better_11 : decode prog_7_method_14_code 11 = .ok (.iaload, 1) := by decide +kernel
theorem dM_better_12 : decode prog_7_method_14_code 12 = .ok (.if_icmp .ge 15, 3) := by decide +kernel
theorem dM_better_15 : decode prog_7_method_14_code 15 = .ok (.aload_n 0, 1) := by decide +kernel
theorem dM_better_16 : decode prog_7_method_14_code 16 = .ok (.getfield 34, 3) := by decide +kernel
theorem dM_better_19 : decode prog_7_method_14_code 19 = .ok (.bipush 41, 2) := by decide +kernel
theorem dM_better_21 : decode prog_7_method_14_code 21 = .ok (.iload_n 1, 1) := by decide +kernel
theorem dM_better_22 : decode prog_7_method_14_code 22 = .ok (.imul, 1) := by decide +kernel
theorem dM_better_23 : decode prog_7_method_14_code 23 = .ok (.iload_n 2, 1) := by decide +kernel
theorem dM_better_24 : decode prog_7_method_14_code 24 = .ok (.iadd, 1) := by decide +kernel
theorem dM_better_25 : decode prog_7_method_14_code 25 = .ok (.iload_n 3, 1) := by decide +kernel
theorem dM_better_26 : decode prog_7_method_14_code 26 = .ok (.iastore, 1) := by decide +kernel
theorem dM_better_27 : decode prog_7_method_14_code 27 = .ok (.return_, 1) := by decide +kernel
theorem dM_sumOf_0 : decode prog_7_method_6_code 0 = .ok (.iconst 1, 1) := by decide +kernel
theorem dM_sumOf_1 : decode prog_7_method_6_code 1 = .ok (.istore_n 2, 1) := by decide +kernel
theorem dM_sumOf_2 : decode prog_7_method_6_code 2 = .ok (.iconst 0, 1) := by decide +kernel
theorem dM_sumOf_3 : decode prog_7_method_6_code 3 = .ok (.istore_n 3, 1) := by decide +kernel
theorem dM_sumOf_4 : decode prog_7_method_6_code 4 = .ok (.iload_n 3, 1) := by decide +kernel
theorem dM_sumOf_5 : decode prog_7_method_6_code 5 = .ok (.aload_n 0, 1) := by decide +kernel
theorem dM_sumOf_6 : decode prog_7_method_6_code 6 = .ok (.getfield 13, 3) := by decide +kernel
theorem dM_sumOf_9 : decode prog_7_method_6_code 9 = .ok (.iload_n 1, 1) := by decide +kernel
theorem dM_sumOf_10 : decode prog_7_method_6_code 10 = .ok (.iaload, 1) := by decide +kernel
theorem dM_sumOf_11 : decode prog_7_method_6_code 11 = .ok (.if_icmp .ge 24, 3) := by decide +kernel
theorem dM_sumOf_14 : decode prog_7_method_6_code 14 = .ok (.bipush 31, 2) := by decide +kernel
theorem dM_sumOf_16 : decode prog_7_method_6_code 16 = .ok (.iload_n 2, 1) := by decide +kernel
theorem dM_sumOf_17 : decode prog_7_method_6_code 17 = .ok (.imul, 1) := by decide +kernel
theorem dM_sumOf_18 : decode prog_7_method_6_code 18 = .ok (.aload_n 0, 1) := by decide +kernel
theorem dM_sumOf_19 : decode prog_7_method_6_code 19 = .ok (.iload_n 1, 1) := by decide +kernel
theorem dM_sumOf_20 : decode prog_7_method_6_code 20 = .ok (.iload_n 3, 1) := by decide +kernel
theorem dM_sumOf_21 : decode prog_7_method_6_code 21 = .ok (.invokevirtual 72, 3) := by decide +kernel
theorem dM_sumOf_24 : decode prog_7_method_6_code 24 = .ok (.iadd, 1) := by decide +kernel
theorem dM_sumOf_25 : decode prog_7_method_6_code 25 = .ok (.ldc 76, 2) := by decide +kernel
theorem dM_sumOf_27 : decode prog_7_method_6_code 27 = .ok (.irem, 1) := by decide +kernel
theorem dM_sumOf_28 : decode prog_7_method_6_code 28 = .ok (.istore_n 2, 1) := by decide +kernel
theorem dM_sumOf_29 : decode prog_7_method_6_code 29 = .ok (.iinc 3 1, 3) := by decide +kernel
theorem dM_sumOf_32 : decode prog_7_method_6_code 32 = .ok (.goto (-28), 3) := by decide +kernel
theorem dM_sumOf_35 : decode prog_7_method_6_code 35 = .ok (.iload_n 2, 1) := by decide +kernel
theorem dM_sumOf_36 : decode prog_7_method_6_code 36 = .ok (.ireturn, 1) := by decide +kernel
theorem dM_find_0 : decode prog_7_method_15_code 0 = .ok (.aload_n 0, 1) := by decide +kernel
theorem dM_find_1 : decode prog_7_method_15_code 1 = .ok (.getfield 34, 3) := by decide +kernel
theorem dM_find_4 : decode prog_7_method_15_code 4 = .ok (.bipush 41, 2) := by decide +kernel
theorem dM_find_6 : decode prog_7_method_15_code 6 = .ok (.iload_n 1, 1) := by decide +kernel
theorem dM_find_7 : decode prog_7_method_15_code 7 = .ok (.imul, 1) := by decide +kernel
theorem dM_find_8 : decode prog_7_method_15_code 8 = .ok (.iload_n 2, 1) := by decide +kernel
theorem dM_find_9 : decode prog_7_method_15_code 9 = .ok (.iadd, 1) := by decide +kernel
theorem dM_find_10 : decode prog_7_method_15_code 10 = .ok (.iaload, 1) := by decide +kernel
theorem dM_find_11 : decode prog_7_method_15_code 11 = .ok (.istore_n 3, 1) := by decide +kernel
theorem dM_find_12 : decode prog_7_method_15_code 12 = .ok (.iconst 0, 1) := by decide +kernel
theorem dM_find_13 : decode prog_7_method_15_code 13 = .ok (.istore 4, 2) := by decide +kernel
theorem dM_find_15 : decode prog_7_method_15_code 15 = .ok (.iload 4, 2) := by decide +kernel
theorem dM_find_17 : decode prog_7_method_15_code 17 = .ok (.iconst 2, 1) := by decide +kernel
theorem dM_find_18 : decode prog_7_method_15_code 18 = .ok (.if_icmp .gt 180, 3) := by decide +kernel
theorem dM_find_21 : decode prog_7_method_15_code 21 = .ok (.aload_n 0, 1) := by decide +kernel
theorem dM_find_22 : decode prog_7_method_15_code 22 = .ok (.getfield 13, 3) := by decide +kernel
theorem dM_find_25 : decode prog_7_method_15_code 25 = .ok (.iconst 1, 1) := by decide +kernel
theorem dM_find_26 : decode prog_7_method_15_code 26 = .ok (.iaload, 1) := by decide +kernel
theorem dM_find_27 : decode prog_7_method_15_code 27 = .ok (.iload_n 1, 1) := by decide +kernel
theorem dM_find_28 : decode prog_7_method_15_code 28 = .ok (.isub, 1) := by decide +kernel
theorem dM_find_29 : decode prog_7_method_15_code 29 = .ok (.istore 5, 2) := by decide +kernel
theorem dM_find_31 : decode prog_7_method_15_code 31 = .ok (.iload 5, 2) := by decide +kernel
theorem dM_find_33 : decode prog_7_method_15_code 33 = .ok (.ifCond .le 159, 3) := by decide +kernel
theorem dM_find_36 : decode prog_7_method_15_code 36 = .ok (.iload 4, 2) := by decide +kernel
theorem dM_find_38 : decode prog_7_method_15_code 38 = .ok (.ifCond .ne 12, 3) := by decide +kernel
theorem dM_find_41 : decode prog_7_method_15_code 41 = .ok (.aload_n 0, 1) := by decide +kernel
theorem dM_find_42 : decode prog_7_method_15_code 42 = .ok (.getfield 13, 3) := by decide +kernel
theorem dM_find_45 : decode prog_7_method_15_code 45 = .ok (.iconst 0, 1) := by decide +kernel
theorem dM_find_46 : decode prog_7_method_15_code 46 = .ok (.iaload, 1) := by decide +kernel
theorem dM_find_47 : decode prog_7_method_15_code 47 = .ok (.goto 14, 3) := by decide +kernel
theorem dM_find_50 : decode prog_7_method_15_code 50 = .ok (.iload 4, 2) := by decide +kernel
theorem dM_find_52 : decode prog_7_method_15_code 52 = .ok (.iconst 1, 1) := by decide +kernel
theorem dM_find_53 : decode prog_7_method_15_code 53 = .ok (.if_icmp .ne 7, 3) := by decide +kernel
theorem dM_find_56 : decode prog_7_method_15_code 56 = .ok (.iload_n 1, 1) := by decide +kernel
theorem dM_find_57 : decode prog_7_method_15_code 57 = .ok (.goto 4, 3) := by decide +kernel
theorem dM_find_60 : decode prog_7_method_15_code 60 = .ok (.iconst 1, 1) := by decide +kernel
theorem dM_find_61 : decode prog_7_method_15_code 61 = .ok (.istore 6, 2) := by decide +kernel
theorem dM_find_63 : decode prog_7_method_15_code 63 = .ok (.iconst 0, 1) := by decide +kernel
theorem dM_find_64 : decode prog_7_method_15_code 64 = .ok (.istore 7, 2) := by decide +kernel
theorem dM_find_66 : decode prog_7_method_15_code 66 = .ok (.iload 7, 2) := by decide +kernel
theorem dM_find_68 : decode prog_7_method_15_code 68 = .ok (.iload 6, 2) := by decide +kernel
theorem dM_find_70 : decode prog_7_method_15_code 70 = .ok (.if_icmp .ge 116, 3) := by decide +kernel
theorem dM_find_73 : decode prog_7_method_15_code 73 = .ok (.iload 4, 2) := by decide +kernel
theorem dM_find_75 : decode prog_7_method_15_code 75 = .ok (.iconst 2, 1) := by decide +kernel
theorem dM_find_76 : decode prog_7_method_15_code 76 = .ok (.if_icmp .eq 17, 3) := by decide +kernel
theorem dM_find_79 : decode prog_7_method_15_code 79 = .ok (.aload_n 0, 1) := by decide +kernel
theorem dM_find_80 : decode prog_7_method_15_code 80 = .ok (.iload 4, 2) := by decide +kernel
theorem dM_find_82 : decode prog_7_method_15_code 82 = .ok (.iload 7, 2) := by decide +kernel
theorem dM_find_84 : decode prog_7_method_15_code 84 = .ok (.iload_n 1, 1) := by decide +kernel
theorem dM_find_85 : decode prog_7_method_15_code 85 = .ok (.invokevirtual 82, 3) := by decide +kernel
theorem dM_find_88 : decode prog_7_method_15_code 88 = .ok (.iload 5, 2) := by decide +kernel
theorem dM_find_90 : decode prog_7_method_15_code 90 = .ok (.if_icmp .lt 7, 3) := by decide +kernel
theorem dM_find_93 : decode prog_7_method_15_code 93 = .ok (.iconst 1, 1) := by decide +kernel
theorem dM_find_94 : decode prog_7_method_15_code 94 = .ok (.goto 4, 3) := by decide +kernel
theorem dM_find_97 : decode prog_7_method_15_code 97 = .ok (.iconst 0, 1) := by decide +kernel
theorem dM_find_98 : decode prog_7_method_15_code 98 = .ok (.istore 8, 2) := by decide +kernel
theorem dM_find_100 : decode prog_7_method_15_code 100 = .ok (.iload 8, 2) := by decide +kernel
theorem dM_find_102 : decode prog_7_method_15_code 102 = .ok (.ifCond .eq 28, 3) := by decide +kernel
theorem dM_find_105 : decode prog_7_method_15_code 105 = .ok (.bipush 41, 2) := by decide +kernel
theorem dM_find_107 : decode prog_7_method_15_code 107 = .ok (.iload_n 1, 1) := by decide +kernel
theorem dM_find_108 : decode prog_7_method_15_code 108 = .ok (.iload 5, 2) := by decide +kernel
theorem dM_find_110 : decode prog_7_method_15_code 110 = .ok (.iadd, 1) := by decide +kernel
theorem dM_find_111 : decode prog_7_method_15_code 111 = .ok (.imul, 1) := by decide +kernel
theorem dM_find_112 : decode prog_7_method_15_code 112 = .ok (.iload 4, 2) := by decide +kernel
theorem dM_find_114 : decode prog_7_method_15_code 114 = .ok (.ifCond .ne 11, 3) := by decide +kernel
theorem dM_find_117 : decode prog_7_method_15_code 117 = .ok (.iload 7, 2) := by decide +kernel
theorem dM_find_119 : decode prog_7_method_15_code 119 = .ok (.iload 5, 2) := by decide +kernel
theorem dM_find_121 : decode prog_7_method_15_code 121 = .ok (.iadd, 1) := by decide +kernel
theorem dM_find_122 : decode prog_7_method_15_code 122 = .ok (.goto 4, 3) := by decide +kernel
theorem dM_find_125 : decode prog_7_method_15_code 125 = .ok (.iload_n 2, 1) := by decide +kernel
theorem dM_find_126 : decode prog_7_method_15_code 126 = .ok (.iadd, 1) := by decide +kernel
theorem dM_find_127 : decode prog_7_method_15_code 127 = .ok (.goto 4, 3) := by decide +kernel
theorem dM_find_130 : decode prog_7_method_15_code 130 = .ok (.iconst 0, 1) := by decide +kernel
theorem dM_find_131 : decode prog_7_method_15_code 131 = .ok (.istore 9, 2) := by decide +kernel
theorem dM_find_133 : decode prog_7_method_15_code 133 = .ok (.iload 8, 2) := by decide +kernel
theorem dM_find_135 : decode prog_7_method_15_code 135 = .ok (.ifCond .eq 45, 3) := by decide +kernel
theorem dM_find_138 : decode prog_7_method_15_code 138 = .ok (.aload_n 0, 1) := by decide +kernel
theorem dM_find_139 : decode prog_7_method_15_code 139 = .ok (.iload 4, 2) := by decide +kernel
theorem dM_find_141 : decode prog_7_method_15_code 141 = .ok (.iload 7, 2) := by decide +kernel
theorem dM_find_143 : decode prog_7_method_15_code 143 = .ok (.iload 5, 2) := by decide +kernel
theorem dM_find_145 : decode prog_7_method_15_code 145 = .ok (.iload_n 2, 1) := by decide +kernel
theorem dM_find_146 : decode prog_7_method_15_code 146 = .ok (.invokevirtual 86, 3) := by decide +kernel
theorem dM_find_149 : decode prog_7_method_15_code 149 = .ok (.aload_n 0, 1) := by decide +kernel
theorem dM_find_150 : decode prog_7_method_15_code 150 = .ok (.getfield 34, 3) := by decide +kernel
theorem dM_find_153 : decode prog_7_method_15_code 153 = .ok (.iload 9, 2) := by decide +kernel
theorem dM_find_155 : decode prog_7_method_15_code 155 = .ok (.iaload, 1) := by decide +kernel
theorem dM_find_156 : decode prog_7_method_15_code 156 = .ok (.iadd, 1) := by decide +kernel
theorem dM_find_157 : decode prog_7_method_15_code 157 = .ok (.iload_n 3, 1) := by decide +kernel
theorem dM_find_158 : decode prog_7_method_15_code 158 = .ok (.if_icmp .ne 22, 3) := by decide +kernel
theorem dM_find_161 : decode prog_7_method_15_code 161 = .ok (.aload_n 0, 1) := by decide +kernel
theorem dM_find_162 : decode prog_7_method_15_code 162 = .ok (.iload 4, 2) := by decide +kernel
theorem dM_find_164 : decode prog_7_method_15_code 164 = .ok (.putfield 94, 3) := by decide +kernel
theorem dM_find_167 : decode prog_7_method_15_code 167 = .ok (.aload_n 0, 1) := by decide +kernel
theorem dM_find_168 : decode prog_7_method_15_code 168 = .ok (.iload 7, 2) := by decide +kernel
theorem dM_find_170 : decode prog_7_method_15_code 170 = .ok (.putfield 97, 3) := by decide +kernel
theorem dM_find_173 : decode prog_7_method_15_code 173 = .ok (.aload_n 0, 1) := by decide +kernel
theorem dM_find_174 : decode prog_7_method_15_code 174 = .ok (.iload 5, 2) := by decide +kernel
theorem dM_find_176 : decode prog_7_method_15_code 176 = .ok (.putfield 100, 3) := by decide +kernel
theorem dM_find_179 : decode prog_7_method_15_code 179 = .ok (.return_, 1) := by decide +kernel
theorem dM_find_180 : decode prog_7_method_15_code 180 = .ok (.iinc 7 1, 3) := by decide +kernel
theorem dM_find_183 : decode prog_7_method_15_code 183 = .ok (.goto (-117), 3) := by decide +kernel
theorem dM_find_186 : decode prog_7_method_15_code 186 = .ok (.iinc 5 (-1), 3) := by decide +kernel
theorem dM_find_189 : decode prog_7_method_15_code 189 = .ok (.goto (-158), 3) := by decide +kernel
theorem dM_find_192 : decode prog_7_method_15_code 192 = .ok (.iinc 4 1, 3) := by decide +kernel
theorem dM_find_195 : decode prog_7_method_15_code 195 = .ok (.goto (-180), 3) := by decide +kernel
theorem dM_find_198 : decode prog_7_method_15_code 198 = .ok (.return_, 1) := by decide +kernel
theorem dM_cost_0 : decode prog_7_method_19_code 0 = .ok (.iconst 0, 1) := by decide +kernel
theorem dM_cost_1 : decode prog_7_method_19_code 1 = .ok (.istore_n 1, 1) := by decide +kernel
theorem dM_cost_2 : decode prog_7_method_19_code 2 = .ok (.iconst 0, 1) := by decide +kernel
theorem dM_cost_3 : decode prog_7_method_19_code 3 = .ok (.istore_n 2, 1) := by decide +kernel
theorem dM_cost_4 : decode prog_7_method_19_code 4 = .ok (.iload_n 2, 1) := by decide +kernel
theorem dM_cost_5 : decode prog_7_method_19_code 5 = .ok (.aload_n 0, 1) := by decide +kernel
theorem dM_cost_6 : decode prog_7_method_19_code 6 = .ok (.getfield 56, 3) := by decide +kernel
theorem dM_cost_9 : decode prog_7_method_19_code 9 = .ok (.if_icmp .ge 17, 3) := by decide +kernel
theorem dM_cost_12 : decode prog_7_method_19_code 12 = .ok (.iload_n 1, 1) := by decide +kernel
theorem dM_cost_13 : decode prog_7_method_19_code 13 = .ok (.aload_n 0, 1) := by decide +kernel
theorem dM_cost_14 : decode prog_7_method_19_code 14 = .ok (.iload_n 2, 1) := by decide +kernel
theorem dM_cost_15 : decode prog_7_method_19_code 15 = .ok (.invokevirtual 117, 3) := by decide +kernel
theorem dM_cost_18 : decode prog_7_method_19_code 18 = .ok (.iadd, 1) := by decide +kernel
theorem dM_cost_19 : decode prog_7_method_19_code 19 = .ok (.istore_n 1, 1) := by decide +kernel
theorem dM_cost_20 : decode prog_7_method_19_code 20 = .ok (.iinc 2 1, 3) := by decide +kernel
theorem dM_cost_23 : decode prog_7_method_19_code 23 = .ok (.goto (-19), 3) := by decide +kernel
theorem dM_cost_26 : decode prog_7_method_19_code 26 = .ok (.iload_n 1, 1) := by decide +kernel
theorem dM_cost_27 : decode prog_7_method_19_code 27 = .ok (.ireturn, 1) := by decide +kernel
theorem dM_costAt_0 : decode prog_7_method_18_code 0 = .ok (.aload_n 0, 1) := by decide +kernel
theorem dM_costAt_1 : decode prog_7_method_18_code 1 = .ok (.aload_n 0, 1) := by decide +kernel
theorem dM_costAt_2 : decode prog_7_method_18_code 2 = .ok (.getfield 16, 3) := by decide +kernel
theorem dM_costAt_5 : decode prog_7_method_18_code 5 = .ok (.iload_n 1, 1) := by decide +kernel
theorem dM_costAt_6 : decode prog_7_method_18_code 6 = .ok (.iaload, 1) := by decide +kernel
theorem dM_costAt_7 : decode prog_7_method_18_code 7 = .ok (.aload_n 0, 1) := by decide +kernel
theorem dM_costAt_8 : decode prog_7_method_18_code 8 = .ok (.getfield 19, 3) := by decide +kernel
theorem dM_costAt_11 : decode prog_7_method_18_code 11 = .ok (.iload_n 1, 1) := by decide +kernel
theorem dM_costAt_12 : decode prog_7_method_18_code 12 = .ok (.iaload, 1) := by decide +kernel
theorem dM_costAt_13 : decode prog_7_method_18_code 13 = .ok (.aload_n 0, 1) := by decide +kernel
theorem dM_costAt_14 : decode prog_7_method_18_code 14 = .ok (.getfield 22, 3) := by decide +kernel
theorem dM_costAt_17 : decode prog_7_method_18_code 17 = .ok (.iload_n 1, 1) := by decide +kernel
theorem dM_costAt_18 : decode prog_7_method_18_code 18 = .ok (.iaload, 1) := by decide +kernel
theorem dM_costAt_19 : decode prog_7_method_18_code 19 = .ok (.aload_n 0, 1) := by decide +kernel
theorem dM_costAt_20 : decode prog_7_method_18_code 20 = .ok (.iload_n 1, 1) := by decide +kernel
theorem dM_costAt_21 : decode prog_7_method_18_code 21 = .ok (.invokevirtual 114, 3) := by decide +kernel
theorem dM_costAt_24 : decode prog_7_method_18_code 24 = .ok (.invokevirtual 86, 3) := by decide +kernel
theorem dM_costAt_27 : decode prog_7_method_18_code 27 = .ok (.ireturn, 1) := by decide +kernel
theorem dM_spotOf_0 : decode prog_7_method_17_code 0 = .ok (.iconst 0, 1) := by decide +kernel
theorem dM_spotOf_1 : decode prog_7_method_17_code 1 = .ok (.istore_n 2, 1) := by decide +kernel
theorem dM_spotOf_2 : decode prog_7_method_17_code 2 = .ok (.iconst 0, 1) := by decide +kernel
theorem dM_spotOf_3 : decode prog_7_method_17_code 3 = .ok (.istore_n 3, 1) := by decide +kernel
theorem dM_spotOf_4 : decode prog_7_method_17_code 4 = .ok (.iload_n 3, 1) := by decide +kernel
theorem dM_spotOf_5 : decode prog_7_method_17_code 5 = .ok (.iload_n 1, 1) := by decide +kernel
theorem dM_spotOf_6 : decode prog_7_method_17_code 6 = .ok (.if_icmp .ge 36, 3) := by decide +kernel
theorem dM_spotOf_9 : decode prog_7_method_17_code 9 = .ok (.aload_n 0, 1) := by decide +kernel
theorem dM_spotOf_10 : decode prog_7_method_17_code 10 = .ok (.getfield 16, 3) := by decide +kernel
theorem dM_spotOf_13 : decode prog_7_method_17_code 13 = .ok (.iload_n 3, 1) := by decide +kernel
theorem dM_spotOf_14 : decode prog_7_method_17_code 14 = .ok (.iaload, 1) := by decide +kernel
theorem dM_spotOf_15 : decode prog_7_method_17_code 15 = .ok (.ifCond .ne 19, 3) := by decide +kernel
theorem dM_spotOf_18 : decode prog_7_method_17_code 18 = .ok (.aload_n 0, 1) := by decide +kernel
theorem dM_spotOf_19 : decode prog_7_method_17_code 19 = .ok (.getfield 19, 3) := by decide +kernel
theorem dM_spotOf_22 : decode prog_7_method_17_code 22 = .ok (.iload_n 3, 1) := by decide +kernel
theorem dM_spotOf_23 : decode prog_7_method_17_code 23 = .ok (.iaload, 1) := by decide +kernel
theorem dM_spotOf_24 : decode prog_7_method_17_code 24 = .ok (.aload_n 0, 1) := by decide +kernel
theorem dM_spotOf_25 : decode prog_7_method_17_code 25 = .ok (.getfield 22, 3) := by decide +kernel
theorem dM_spotOf_28 : decode prog_7_method_17_code 28 = .ok (.iload_n 3, 1) := by decide +kernel
theorem dM_spotOf_29 : decode prog_7_method_17_code 29 = .ok (.iaload, 1) := by decide +kernel
theorem dM_spotOf_30 : decode prog_7_method_17_code 30 = .ok (.iadd, 1) := by decide +kernel
theorem dM_spotOf_31 : decode prog_7_method_17_code 31 = .ok (.goto 4, 3) := by decide +kernel
theorem dM_spotOf_34 : decode prog_7_method_17_code 34 = .ok (.iload_n 2, 1) := by decide +kernel
theorem dM_spotOf_35 : decode prog_7_method_17_code 35 = .ok (.istore_n 2, 1) := by decide +kernel
theorem dM_spotOf_36 : decode prog_7_method_17_code 36 = .ok (.iinc 3 1, 3) := by decide +kernel
theorem dM_spotOf_39 : decode prog_7_method_17_code 39 = .ok (.goto (-35), 3) := by decide +kernel
theorem dM_spotOf_42 : decode prog_7_method_17_code 42 = .ok (.iload_n 2, 1) := by decide +kernel
theorem dM_spotOf_43 : decode prog_7_method_17_code 43 = .ok (.ireturn, 1) := by decide +kernel
theorem dM_rest_0 : decode prog_7_method_20_code 0 = .ok (.iload_n 1, 1) := by decide +kernel
theorem dM_rest_1 : decode prog_7_method_20_code 1 = .ok (.iconst 0, 1) := by decide +kernel
theorem dM_rest_2 : decode prog_7_method_20_code 2 = .ok (.aload_n 0, 1) := by decide +kernel
theorem dM_rest_3 : decode prog_7_method_20_code 3 = .ok (.getfield 13, 3) := by decide +kernel
theorem dM_rest_6 : decode prog_7_method_20_code 6 = .ok (.iconst 1, 1) := by decide +kernel
theorem dM_rest_7 : decode prog_7_method_20_code 7 = .ok (.iaload, 1) := by decide +kernel
theorem dM_rest_8 : decode prog_7_method_20_code 8 = .ok (.invokestatic 77, 3) := by decide +kernel
theorem dM_rest_11 : decode prog_7_method_20_code 11 = .ok (.ifCond .eq 17, 3) := by decide +kernel
theorem dM_rest_14 : decode prog_7_method_20_code 14 = .ok (.iload_n 2, 1) := by decide +kernel
theorem dM_rest_15 : decode prog_7_method_20_code 15 = .ok (.iconst 0, 1) := by decide +kernel
theorem dM_rest_16 : decode prog_7_method_20_code 16 = .ok (.aload_n 0, 1) := by decide +kernel
theorem dM_rest_17 : decode prog_7_method_20_code 17 = .ok (.getfield 13, 3) := by decide +kernel
theorem dM_rest_20 : decode prog_7_method_20_code 20 = .ok (.iconst 0, 1) := by decide +kernel
theorem dM_rest_21 : decode prog_7_method_20_code 21 = .ok (.iaload, 1) := by decide +kernel
theorem dM_rest_22 : decode prog_7_method_20_code 22 = .ok (.invokestatic 77, 3) := by decide +kernel
theorem dM_rest_25 : decode prog_7_method_20_code 25 = .ok (.ifCond .ne 6, 3) := by decide +kernel
theorem dM_rest_28 : decode prog_7_method_20_code 28 = .ok (.bipush (-2), 2) := by decide +kernel
theorem dM_rest_30 : decode prog_7_method_20_code 30 = .ok (.ireturn, 1) := by decide +kernel
theorem dM_rest_31 : decode prog_7_method_20_code 31 = .ok (.aload_n 0, 1) := by decide +kernel
theorem dM_rest_32 : decode prog_7_method_20_code 32 = .ok (.invokevirtual 103, 3) := by decide +kernel
theorem dM_rest_35 : decode prog_7_method_20_code 35 = .ok (.aload_n 0, 1) := by decide +kernel
theorem dM_rest_36 : decode prog_7_method_20_code 36 = .ok (.getfield 34, 3) := by decide +kernel
theorem dM_rest_39 : decode prog_7_method_20_code 39 = .ok (.bipush 41, 2) := by decide +kernel
theorem dM_rest_41 : decode prog_7_method_20_code 41 = .ok (.iload_n 1, 1) := by decide +kernel
theorem dM_rest_42 : decode prog_7_method_20_code 42 = .ok (.imul, 1) := by decide +kernel
theorem dM_rest_43 : decode prog_7_method_20_code 43 = .ok (.iload_n 2, 1) := by decide +kernel
theorem dM_rest_44 : decode prog_7_method_20_code 44 = .ok (.iadd, 1) := by decide +kernel
theorem dM_rest_45 : decode prog_7_method_20_code 45 = .ok (.iaload, 1) := by decide +kernel
theorem dM_rest_46 : decode prog_7_method_20_code 46 = .ok (.ireturn, 1) := by decide +kernel
theorem dM_match_0 : decode prog_7_method_21_code 0 = .ok (.iload_n 1, 1) := by decide +kernel
theorem dM_match_1 : decode prog_7_method_21_code 1 = .ok (.iconst 0, 1) := by decide +kernel
theorem dM_match_2 : decode prog_7_method_21_code 2 = .ok (.iconst 1, 1) := by decide +kernel
theorem dM_match_3 : decode prog_7_method_21_code 3 = .ok (.invokestatic 77, 3) := by decide +kernel
theorem dM_match_6 : decode prog_7_method_21_code 6 = .ok (.ifCond .eq 35, 3) := by decide +kernel
theorem dM_match_9 : decode prog_7_method_21_code 9 = .ok (.iload_n 2, 1) := by decide +kernel
theorem dM_match_10 : decode prog_7_method_21_code 10 = .ok (.iconst 0, 1) := by decide +kernel
theorem dM_match_11 : decode prog_7_method_21_code 11 = .ok (.aload_n 0, 1) := by decide +kernel
theorem dM_match_12 : decode prog_7_method_21_code 12 = .ok (.getfield 13, 3) := by decide +kernel
theorem dM_match_15 : decode prog_7_method_21_code 15 = .ok (.iload_n 1, 1) := by decide +kernel
theorem dM_match_16 : decode prog_7_method_21_code 16 = .ok (.iaload, 1) := by decide +kernel
theorem dM_match_17 : decode prog_7_method_21_code 17 = .ok (.iconst 1, 1) := by decide +kernel
theorem dM_match_18 : decode prog_7_method_21_code 18 = .ok (.isub, 1) := by decide +kernel
theorem dM_match_19 : decode prog_7_method_21_code 19 = .ok (.invokestatic 77, 3) := by decide +kernel
theorem dM_match_22 : decode prog_7_method_21_code 22 = .ok (.ifCond .eq 19, 3) := by decide +kernel
theorem dM_match_25 : decode prog_7_method_21_code 25 = .ok (.iload_n 3, 1) := by decide +kernel
theorem dM_match_26 : decode prog_7_method_21_code 26 = .ok (.iconst 0, 1) := by decide +kernel
theorem dM_match_27 : decode prog_7_method_21_code 27 = .ok (.aload_n 0, 1) := by decide +kernel
theorem dM_match_28 : decode prog_7_method_21_code 28 = .ok (.getfield 13, 3) := by decide +kernel
theorem dM_match_31 : decode prog_7_method_21_code 31 = .ok (.iconst 1, 1) := by decide +kernel
theorem dM_match_32 : decode prog_7_method_21_code 32 = .ok (.iaload, 1) := by decide +kernel
theorem dM_match_33 : decode prog_7_method_21_code 33 = .ok (.iconst 1, 1) := by decide +kernel
theorem dM_match_34 : decode prog_7_method_21_code 34 = .ok (.isub, 1) := by decide +kernel
theorem dM_match_35 : decode prog_7_method_21_code 35 = .ok (.invokestatic 77, 3) := by decide +kernel
theorem dM_match_38 : decode prog_7_method_21_code 38 = .ok (.ifCond .ne 6, 3) := by decide +kernel
theorem dM_match_41 : decode prog_7_method_21_code 41 = .ok (.bipush (-2), 2) := by decide +kernel
theorem dM_match_43 : decode prog_7_method_21_code 43 = .ok (.ireturn, 1) := by decide +kernel
theorem dM_match_44 : decode prog_7_method_21_code 44 = .ok (.aload_n 0, 1) := by decide +kernel
theorem dM_match_45 : decode prog_7_method_21_code 45 = .ok (.iload_n 1, 1) := by decide +kernel
theorem dM_match_46 : decode prog_7_method_21_code 46 = .ok (.iload_n 2, 1) := by decide +kernel
theorem dM_match_47 : decode prog_7_method_21_code 47 = .ok (.iload_n 3, 1) := by decide +kernel
theorem dM_match_48 : decode prog_7_method_21_code 48 = .ok (.invokevirtual 82, 3) := by decide +kernel
theorem dM_match_51 : decode prog_7_method_21_code 51 = .ok (.ireturn, 1) := by decide +kernel
theorem dM_act_0 : decode prog_7_method_22_code 0 = .ok (.iload_n 1, 1) := by decide +kernel
theorem dM_act_1 : decode prog_7_method_22_code 1 = .ok (.iconst 0, 1) := by decide +kernel
theorem dM_act_2 : decode prog_7_method_22_code 2 = .ok (.aload_n 0, 1) := by decide +kernel
theorem dM_act_3 : decode prog_7_method_22_code 3 = .ok (.getfield 56, 3) := by decide +kernel
theorem dM_act_6 : decode prog_7_method_22_code 6 = .ok (.iconst 1, 1) := by decide +kernel
theorem dM_act_7 : decode prog_7_method_22_code 7 = .ok (.isub, 1) := by decide +kernel
theorem dM_act_8 : decode prog_7_method_22_code 8 = .ok (.invokestatic 77, 3) := by decide +kernel
theorem dM_act_11 : decode prog_7_method_22_code 11 = .ok (.ifCond .eq 12, 3) := by decide +kernel
theorem dM_act_14 : decode prog_7_method_22_code 14 = .ok (.iload_n 2, 1) := by decide +kernel
theorem dM_act_15 : decode prog_7_method_22_code 15 = .ok (.iconst 0, 1) := by decide +kernel
theorem dM_act_16 : decode prog_7_method_22_code 16 = .ok (.iconst 4, 1) := by decide +kernel
theorem dM_act_17 : decode prog_7_method_22_code 17 = .ok (.invokestatic 77, 3) := by decide +kernel
theorem dM_act_20 : decode prog_7_method_22_code 20 = .ok (.ifCond .ne 6, 3) := by decide +kernel
theorem dM_act_23 : decode prog_7_method_22_code 23 = .ok (.bipush (-2), 2) := by decide +kernel
theorem dM_act_25 : decode prog_7_method_22_code 25 = .ok (.ireturn, 1) := by decide +kernel
theorem dM_act_26 : decode prog_7_method_22_code 26 = .ok (.iload_n 2, 1) := by decide +kernel
theorem dM_act_27 : decode prog_7_method_22_code 27 = .ok (.tableswitch 70 0 3 #[29, 36, 43, 64], 29) := by decide +kernel
theorem dM_act_56 : decode prog_7_method_22_code 56 = .ok (.aload_n 0, 1) := by decide +kernel
theorem dM_act_57 : decode prog_7_method_22_code 57 = .ok (.getfield 16, 3) := by decide +kernel
theorem dM_act_60 : decode prog_7_method_22_code 60 = .ok (.iload_n 1, 1) := by decide +kernel
theorem dM_act_61 : decode prog_7_method_22_code 61 = .ok (.iaload, 1) := by decide +kernel
theorem dM_act_62 : decode prog_7_method_22_code 62 = .ok (.ireturn, 1) := by decide +kernel
theorem dM_act_63 : decode prog_7_method_22_code 63 = .ok (.aload_n 0, 1) := by decide +kernel
theorem dM_act_64 : decode prog_7_method_22_code 64 = .ok (.getfield 22, 3) := by decide +kernel
theorem dM_act_67 : decode prog_7_method_22_code 67 = .ok (.iload_n 1, 1) := by decide +kernel
theorem dM_act_68 : decode prog_7_method_22_code 68 = .ok (.iaload, 1) := by decide +kernel
theorem dM_act_69 : decode prog_7_method_22_code 69 = .ok (.ireturn, 1) := by decide +kernel
theorem dM_act_70 : decode prog_7_method_22_code 70 = .ok (.aload_n 0, 1) := by decide +kernel
theorem dM_act_71 : decode prog_7_method_22_code 71 = .ok (.getfield 16, 3) := by decide +kernel
theorem dM_act_74 : decode prog_7_method_22_code 74 = .ok (.iload_n 1, 1) := by decide +kernel
theorem dM_act_75 : decode prog_7_method_22_code 75 = .ok (.iaload, 1) := by decide +kernel
theorem dM_act_76 : decode prog_7_method_22_code 76 = .ok (.iconst 2, 1) := by decide +kernel
theorem dM_act_77 : decode prog_7_method_22_code 77 = .ok (.if_icmp .ne 7, 3) := by decide +kernel
theorem dM_act_80 : decode prog_7_method_22_code 80 = .ok (.iconst (-1), 1) := by decide +kernel
theorem dM_act_81 : decode prog_7_method_22_code 81 = .ok (.goto 9, 3) := by decide +kernel
theorem dM_act_84 : decode prog_7_method_22_code 84 = .ok (.aload_n 0, 1) := by decide +kernel
theorem dM_act_85 : decode prog_7_method_22_code 85 = .ok (.getfield 19, 3) := by decide +kernel
theorem dM_act_88 : decode prog_7_method_22_code 88 = .ok (.iload_n 1, 1) := by decide +kernel
theorem dM_act_89 : decode prog_7_method_22_code 89 = .ok (.iaload, 1) := by decide +kernel
theorem dM_act_90 : decode prog_7_method_22_code 90 = .ok (.ireturn, 1) := by decide +kernel
theorem dM_act_91 : decode prog_7_method_22_code 91 = .ok (.aload_n 0, 1) := by decide +kernel
theorem dM_act_92 : decode prog_7_method_22_code 92 = .ok (.iload_n 1, 1) := by decide +kernel
theorem dM_act_93 : decode prog_7_method_22_code 93 = .ok (.invokevirtual 114, 3) := by decide +kernel
theorem dM_act_96 : decode prog_7_method_22_code 96 = .ok (.ireturn, 1) := by decide +kernel
theorem dM_act_97 : decode prog_7_method_22_code 97 = .ok (.aload_n 0, 1) := by decide +kernel
theorem dM_act_98 : decode prog_7_method_22_code 98 = .ok (.iload_n 1, 1) := by decide +kernel
theorem dM_act_99 : decode prog_7_method_22_code 99 = .ok (.invokevirtual 117, 3) := by decide +kernel
theorem dM_act_102 : decode prog_7_method_22_code 102 = .ok (.ireturn, 1) := by decide +kernel
theorem dM_laid_0 : decode prog_7_method_23_code 0 = .ok (.iload_n 1, 1) := by decide +kernel
theorem dM_laid_1 : decode prog_7_method_23_code 1 = .ok (.iconst 0, 1) := by decide +kernel
theorem dM_laid_2 : decode prog_7_method_23_code 2 = .ok (.aload_n 0, 1) := by decide +kernel
theorem dM_laid_3 : decode prog_7_method_23_code 3 = .ok (.getfield 56, 3) := by decide +kernel
theorem dM_laid_6 : decode prog_7_method_23_code 6 = .ok (.iconst 1, 1) := by decide +kernel
theorem dM_laid_7 : decode prog_7_method_23_code 7 = .ok (.isub, 1) := by decide +kernel
theorem dM_laid_8 : decode prog_7_method_23_code 8 = .ok (.invokestatic 77, 3) := by decide +kernel
theorem dM_laid_11 : decode prog_7_method_23_code 11 = .ok (.ifCond .eq 43, 3) := by decide +kernel
theorem dM_laid_14 : decode prog_7_method_23_code 14 = .ok (.aload_n 0, 1) := by decide +kernel
theorem dM_laid_15 : decode prog_7_method_23_code 15 = .ok (.getfield 16, 3) := by decide +kernel
theorem dM_laid_18 : decode prog_7_method_23_code 18 = .ok (.iload_n 1, 1) := by decide +kernel
theorem dM_laid_19 : decode prog_7_method_23_code 19 = .ok (.iaload, 1) := by decide +kernel
theorem dM_laid_20 : decode prog_7_method_23_code 20 = .ok (.iconst 2, 1) := by decide +kernel
theorem dM_laid_21 : decode prog_7_method_23_code 21 = .ok (.if_icmp .ne 33, 3) := by decide +kernel
theorem dM_laid_24 : decode prog_7_method_23_code 24 = .ok (.iload_n 2, 1) := by decide +kernel
theorem dM_laid_25 : decode prog_7_method_23_code 25 = .ok (.iconst 0, 1) := by decide +kernel
theorem dM_laid_26 : decode prog_7_method_23_code 26 = .ok (.aload_n 0, 1) := by decide +kernel
theorem dM_laid_27 : decode prog_7_method_23_code 27 = .ok (.getfield 22, 3) := by decide +kernel
theorem dM_laid_30 : decode prog_7_method_23_code 30 = .ok (.iload_n 1, 1) := by decide +kernel
theorem dM_laid_31 : decode prog_7_method_23_code 31 = .ok (.iaload, 1) := by decide +kernel
theorem dM_laid_32 : decode prog_7_method_23_code 32 = .ok (.iconst 1, 1) := by decide +kernel
theorem dM_laid_33 : decode prog_7_method_23_code 33 = .ok (.isub, 1) := by decide +kernel
theorem dM_laid_34 : decode prog_7_method_23_code 34 = .ok (.invokestatic 77, 3) := by decide +kernel
theorem dM_laid_37 : decode prog_7_method_23_code 37 = .ok (.ifCond .eq 17, 3) := by decide +kernel
theorem dM_laid_40 : decode prog_7_method_23_code 40 = .ok (.aload_n 0, 1) := by decide +kernel
theorem dM_laid_41 : decode prog_7_method_23_code 41 = .ok (.getfield 25, 3) := by decide +kernel
theorem dM_laid_44 : decode prog_7_method_23_code 44 = .ok (.bipush 40, 2) := by decide +kernel
theorem dM_laid_46 : decode prog_7_method_23_code 46 = .ok (.iload_n 1, 1) := by decide +kernel
theorem dM_laid_47 : decode prog_7_method_23_code 47 = .ok (.imul, 1) := by decide +kernel
theorem dM_laid_48 : decode prog_7_method_23_code 48 = .ok (.iload_n 2, 1) := by decide +kernel
theorem dM_laid_49 : decode prog_7_method_23_code 49 = .ok (.iadd, 1) := by decide +kernel
theorem dM_laid_50 : decode prog_7_method_23_code 50 = .ok (.iaload, 1) := by decide +kernel
theorem dM_laid_51 : decode prog_7_method_23_code 51 = .ok (.goto 5, 3) := by decide +kernel
theorem dM_laid_54 : decode prog_7_method_23_code 54 = .ok (.bipush (-2), 2) := by decide +kernel
theorem dM_laid_56 : decode prog_7_method_23_code 56 = .ok (.ireturn, 1) := by decide +kernel
theorem dM_empty_0 : decode prog_7_method_24_code 0 = .ok (.aload_n 0, 1) := by decide +kernel
theorem dM_empty_1 : decode prog_7_method_24_code 1 = .ok (.getfield 56, 3) := by decide +kernel
theorem dM_empty_4 : decode prog_7_method_24_code 4 = .ok (.istore_n 1, 1) := by decide +kernel
theorem dM_empty_5 : decode prog_7_method_24_code 5 = .ok (.aload_n 0, 1) := by decide +kernel
theorem dM_empty_6 : decode prog_7_method_24_code 6 = .ok (.iconst 0, 1) := by decide +kernel
theorem dM_empty_7 : decode prog_7_method_24_code 7 = .ok (.putfield 56, 3) := by decide +kernel
theorem dM_empty_10 : decode prog_7_method_24_code 10 = .ok (.aload_n 0, 1) := by decide +kernel
theorem dM_empty_11 : decode prog_7_method_24_code 11 = .ok (.aload_n 0, 1) := by decide +kernel
theorem dM_empty_12 : decode prog_7_method_24_code 12 = .ok (.iconst 0, 1) := by decide +kernel
theorem dM_empty_13 : decode prog_7_method_24_code 13 = .ok (.invokevirtual 106, 3) := by decide +kernel
theorem dM_empty_16 : decode prog_7_method_24_code 16 = .ok (.putfield 59, 3) := by decide +kernel
theorem dM_empty_19 : decode prog_7_method_24_code 19 = .ok (.iload_n 1, 1) := by decide +kernel
theorem dM_empty_20 : decode prog_7_method_24_code 20 = .ok (.ireturn, 1) := by decide +kernel
theorem dM_add_0 : decode prog_7_method_25_code 0 = .ok (.iload_n 1, 1) := by decide +kernel
theorem dM_add_1 : decode prog_7_method_25_code 1 = .ok (.iconst 0, 1) := by decide +kernel
theorem dM_add_2 : decode prog_7_method_25_code 2 = .ok (.iconst 1, 1) := by decide +kernel
theorem dM_add_3 : decode prog_7_method_25_code 3 = .ok (.invokestatic 77, 3) := by decide +kernel
theorem dM_add_6 : decode prog_7_method_25_code 6 = .ok (.ifCond .eq 23, 3) := by decide +kernel
theorem dM_add_9 : decode prog_7_method_25_code 9 = .ok (.iload_n 2, 1) := by decide +kernel
theorem dM_add_10 : decode prog_7_method_25_code 10 = .ok (.iconst 0, 1) := by decide +kernel
theorem dM_add_11 : decode prog_7_method_25_code 11 = .ok (.bipush 79, 2) := by decide +kernel
theorem dM_add_13 : decode prog_7_method_25_code 13 = .ok (.invokestatic 77, 3) := by decide +kernel
theorem dM_add_16 : decode prog_7_method_25_code 16 = .ok (.ifCond .eq 13, 3) := by decide +kernel
theorem dM_add_19 : decode prog_7_method_25_code 19 = .ok (.iload_n 3, 1) := by decide +kernel
theorem dM_add_20 : decode prog_7_method_25_code 20 = .ok (.iconst 1, 1) := by decide +kernel
theorem dM_add_21 : decode prog_7_method_25_code 21 = .ok (.bipush 40, 2) := by decide +kernel
theorem dM_add_23 : decode prog_7_method_25_code 23 = .ok (.invokestatic 77, 3) := by decide +kernel
theorem dM_add_26 : decode prog_7_method_25_code 26 = .ok (.ifCond .ne 6, 3) := by decide +kernel
theorem dM_add_29 : decode prog_7_method_25_code 29 = .ok (.bipush (-2), 2) := by decide +kernel
theorem dM_add_31 : decode prog_7_method_25_code 31 = .ok (.ireturn, 1) := by decide +kernel
theorem dM_add_32 : decode prog_7_method_25_code 32 = .ok (.aload_n 0, 1) := by decide +kernel
theorem dM_add_33 : decode prog_7_method_25_code 33 = .ok (.getfield 56, 3) := by decide +kernel
theorem dM_add_36 : decode prog_7_method_25_code 36 = .ok (.bipush 100, 2) := by decide +kernel
theorem dM_add_38 : decode prog_7_method_25_code 38 = .ok (.if_icmp .ne 6, 3) := by decide +kernel
theorem dM_add_41 : decode prog_7_method_25_code 41 = .ok (.bipush (-3), 2) := by decide +kernel
theorem dM_add_43 : decode prog_7_method_25_code 43 = .ok (.ireturn, 1) := by decide +kernel
theorem dM_add_44 : decode prog_7_method_25_code 44 = .ok (.aload_n 0, 1) := by decide +kernel
theorem dM_add_45 : decode prog_7_method_25_code 45 = .ok (.getfield 16, 3) := by decide +kernel
theorem dM_add_48 : decode prog_7_method_25_code 48 = .ok (.aload_n 0, 1) := by decide +kernel
theorem dM_add_49 : decode prog_7_method_25_code 49 = .ok (.getfield 56, 3) := by decide +kernel
theorem dM_add_52 : decode prog_7_method_25_code 52 = .ok (.iload_n 1, 1) := by decide +kernel
theorem dM_add_53 : decode prog_7_method_25_code 53 = .ok (.iastore, 1) := by decide +kernel
theorem dM_add_54 : decode prog_7_method_25_code 54 = .ok (.aload_n 0, 1) := by decide +kernel
theorem dM_add_55 : decode prog_7_method_25_code 55 = .ok (.getfield 19, 3) := by decide +kernel
theorem dM_add_58 : decode prog_7_method_25_code 58 = .ok (.aload_n 0, 1) := by decide +kernel
theorem dM_add_59 : decode prog_7_method_25_code 59 = .ok (.getfield 56, 3) := by decide +kernel
theorem dM_add_62 : decode prog_7_method_25_code 62 = .ok (.iload_n 2, 1) := by decide +kernel
theorem dM_add_63 : decode prog_7_method_25_code 63 = .ok (.iastore, 1) := by decide +kernel
theorem dM_add_64 : decode prog_7_method_25_code 64 = .ok (.aload_n 0, 1) := by decide +kernel
theorem dM_add_65 : decode prog_7_method_25_code 65 = .ok (.getfield 22, 3) := by decide +kernel
theorem dM_add_68 : decode prog_7_method_25_code 68 = .ok (.aload_n 0, 1) := by decide +kernel
theorem dM_add_69 : decode prog_7_method_25_code 69 = .ok (.getfield 56, 3) := by decide +kernel
theorem dM_add_72 : decode prog_7_method_25_code 72 = .ok (.iload_n 3, 1) := by decide +kernel
theorem dM_add_73 : decode prog_7_method_25_code 73 = .ok (.iastore, 1) := by decide +kernel
theorem dM_add_74 : decode prog_7_method_25_code 74 = .ok (.aload_n 0, 1) := by decide +kernel
theorem dM_add_75 : decode prog_7_method_25_code 75 = .ok (.dup, 1) := by decide +kernel
theorem dM_add_76 : decode prog_7_method_25_code 76 = .ok (.getfield 56, 3) := by decide +kernel
theorem dM_add_79 : decode prog_7_method_25_code 79 = .ok (.iconst 1, 1) := by decide +kernel
theorem dM_add_80 : decode prog_7_method_25_code 80 = .ok (.iadd, 1) := by decide +kernel
theorem dM_add_81 : decode prog_7_method_25_code 81 = .ok (.putfield 56, 3) := by decide +kernel
theorem dM_add_84 : decode prog_7_method_25_code 84 = .ok (.aload_n 0, 1) := by decide +kernel
theorem dM_add_85 : decode prog_7_method_25_code 85 = .ok (.getfield 56, 3) := by decide +kernel
theorem dM_add_88 : decode prog_7_method_25_code 88 = .ok (.ireturn, 1) := by decide +kernel
theorem dM_lay_0 : decode prog_7_method_26_code 0 = .ok (.iload_n 1, 1) := by decide +kernel
theorem dM_lay_1 : decode prog_7_method_26_code 1 = .ok (.iconst 0, 1) := by decide +kernel
theorem dM_lay_2 : decode prog_7_method_26_code 2 = .ok (.sipush 255, 3) := by decide +kernel
theorem dM_lay_5 : decode prog_7_method_26_code 5 = .ok (.invokestatic 77, 3) := by decide +kernel
theorem dM_lay_8 : decode prog_7_method_26_code 8 = .ok (.ifCond .ne 6, 3) := by decide +kernel
theorem dM_lay_11 : decode prog_7_method_26_code 11 = .ok (.bipush (-2), 2) := by decide +kernel
theorem dM_lay_13 : decode prog_7_method_26_code 13 = .ok (.ireturn, 1) := by decide +kernel
theorem dM_lay_14 : decode prog_7_method_26_code 14 = .ok (.aload_n 0, 1) := by decide +kernel
theorem dM_lay_15 : decode prog_7_method_26_code 15 = .ok (.getfield 56, 3) := by decide +kernel
theorem dM_lay_18 : decode prog_7_method_26_code 18 = .ok (.ifCond .le 38, 3) := by decide +kernel
theorem dM_lay_21 : decode prog_7_method_26_code 21 = .ok (.aload_n 0, 1) := by decide +kernel
theorem dM_lay_22 : decode prog_7_method_26_code 22 = .ok (.getfield 16, 3) := by decide +kernel
theorem dM_lay_25 : decode prog_7_method_26_code 25 = .ok (.aload_n 0, 1) := by decide +kernel
theorem dM_lay_26 : decode prog_7_method_26_code 26 = .ok (.getfield 56, 3) := by decide +kernel
theorem dM_lay_29 : decode prog_7_method_26_code 29 = .ok (.iconst 1, 1) := by decide +kernel
theorem dM_lay_30 : decode prog_7_method_26_code 30 = .ok (.isub, 1) := by decide +kernel
theorem dM_lay_31 : decode prog_7_method_26_code 31 = .ok (.iaload, 1) := by decide +kernel
theorem dM_lay_32 : decode prog_7_method_26_code 32 = .ok (.iconst 2, 1) := by decide +kernel
theorem dM_lay_33 : decode prog_7_method_26_code 33 = .ok (.if_icmp .ne 23, 3) := by decide +kernel
theorem dM_lay_36 : decode prog_7_method_26_code 36 = .ok (.aload_n 0, 1) := by decide +kernel
theorem dM_lay_37 : decode prog_7_method_26_code 37 = .ok (.getfield 22, 3) := by decide +kernel
theorem dM_lay_40 : decode prog_7_method_26_code 40 = .ok (.aload_n 0, 1) := by decide +kernel
theorem dM_lay_41 : decode prog_7_method_26_code 41 = .ok (.getfield 56, 3) := by decide +kernel
theorem dM_lay_44 : decode prog_7_method_26_code 44 = .ok (.iconst 1, 1) := by decide +kernel
theorem dM_lay_45 : decode prog_7_method_26_code 45 = .ok (.isub, 1) := by decide +kernel
theorem dM_lay_46 : decode prog_7_method_26_code 46 = .ok (.iaload, 1) := by decide +kernel
theorem dM_lay_47 : decode prog_7_method_26_code 47 = .ok (.bipush 40, 2) := by decide +kernel
theorem dM_lay_49 : decode prog_7_method_26_code 49 = .ok (.if_icmp .ge 7, 3) := by decide +kernel
theorem dM_lay_52 : decode prog_7_method_26_code 52 = .ok (.iconst 1, 1) := by decide +kernel
theorem dM_lay_53 : decode prog_7_method_26_code 53 = .ok (.goto 4, 3) := by decide +kernel
theorem dM_lay_56 : decode prog_7_method_26_code 56 = .ok (.iconst 0, 1) := by decide +kernel
theorem dM_lay_57 : decode prog_7_method_26_code 57 = .ok (.istore_n 2, 1) := by decide +kernel
theorem dM_lay_58 : decode prog_7_method_26_code 58 = .ok (.iload_n 2, 1) := by decide +kernel
theorem dM_lay_59 : decode prog_7_method_26_code 59 = .ok (.ifCond .ne 55, 3) := by decide +kernel
theorem dM_lay_62 : decode prog_7_method_26_code 62 = .ok (.aload_n 0, 1) := by decide +kernel
theorem dM_lay_63 : decode prog_7_method_26_code 63 = .ok (.getfield 56, 3) := by decide +kernel
theorem dM_lay_66 : decode prog_7_method_26_code 66 = .ok (.bipush 100, 2) := by decide +kernel
theorem dM_lay_68 : decode prog_7_method_26_code 68 = .ok (.if_icmp .ne 6, 3) := by decide +kernel
theorem dM_lay_71 : decode prog_7_method_26_code 71 = .ok (.bipush (-3), 2) := by decide +kernel
theorem dM_lay_73 : decode prog_7_method_26_code 73 = .ok (.ireturn, 1) := by decide +kernel
theorem dM_lay_74 : decode prog_7_method_26_code 74 = .ok (.aload_n 0, 1) := by decide +kernel
theorem dM_lay_75 : decode prog_7_method_26_code 75 = .ok (.getfield 16, 3) := by decide +kernel
theorem dM_lay_78 : decode prog_7_method_26_code 78 = .ok (.aload_n 0, 1) := by decide +kernel
theorem dM_lay_79 : decode prog_7_method_26_code 79 = .ok (.getfield 56, 3) := by decide +kernel
theorem dM_lay_82 : decode prog_7_method_26_code 82 = .ok (.iconst 2, 1) := by decide +kernel
theorem dM_lay_83 : decode prog_7_method_26_code 83 = .ok (.iastore, 1) := by decide +kernel
theorem dM_lay_84 : decode prog_7_method_26_code 84 = .ok (.aload_n 0, 1) := by decide +kernel
theorem dM_lay_85 : decode prog_7_method_26_code 85 = .ok (.getfield 19, 3) := by decide +kernel
theorem dM_lay_88 : decode prog_7_method_26_code 88 = .ok (.aload_n 0, 1) := by decide +kernel
theorem dM_lay_89 : decode prog_7_method_26_code 89 = .ok (.getfield 56, 3) := by decide +kernel
theorem dM_lay_92 : decode prog_7_method_26_code 92 = .ok (.iconst 0, 1) := by decide +kernel
theorem dM_lay_93 : decode prog_7_method_26_code 93 = .ok (.iastore, 1) := by decide +kernel
theorem dM_lay_94 : decode prog_7_method_26_code 94 = .ok (.aload_n 0, 1) := by decide +kernel
theorem dM_lay_95 : decode prog_7_method_26_code 95 = .ok (.getfield 22, 3) := by decide +kernel
theorem dM_lay_98 : decode prog_7_method_26_code 98 = .ok (.aload_n 0, 1) := by decide +kernel
theorem dM_lay_99 : decode prog_7_method_26_code 99 = .ok (.getfield 56, 3) := by decide +kernel
theorem dM_lay_102 : decode prog_7_method_26_code 102 = .ok (.iconst 0, 1) := by decide +kernel
theorem dM_lay_103 : decode prog_7_method_26_code 103 = .ok (.iastore, 1) := by decide +kernel
theorem dM_lay_104 : decode prog_7_method_26_code 104 = .ok (.aload_n 0, 1) := by decide +kernel
theorem dM_lay_105 : decode prog_7_method_26_code 105 = .ok (.dup, 1) := by decide +kernel
theorem dM_lay_106 : decode prog_7_method_26_code 106 = .ok (.getfield 56, 3) := by decide +kernel
theorem dM_lay_109 : decode prog_7_method_26_code 109 = .ok (.iconst 1, 1) := by decide +kernel
theorem dM_lay_110 : decode prog_7_method_26_code 110 = .ok (.iadd, 1) := by decide +kernel
theorem dM_lay_111 : decode prog_7_method_26_code 111 = .ok (.putfield 56, 3) := by decide +kernel
theorem dM_lay_114 : decode prog_7_method_26_code 114 = .ok (.aload_n 0, 1) := by decide +kernel
theorem dM_lay_115 : decode prog_7_method_26_code 115 = .ok (.getfield 25, 3) := by decide +kernel
theorem dM_lay_118 : decode prog_7_method_26_code 118 = .ok (.bipush 40, 2) := by decide +kernel
theorem dM_lay_120 : decode prog_7_method_26_code 120 = .ok (.aload_n 0, 1) := by decide +kernel
theorem dM_lay_121 : decode prog_7_method_26_code 121 = .ok (.getfield 56, 3) := by decide +kernel
theorem dM_lay_124 : decode prog_7_method_26_code 124 = .ok (.iconst 1, 1) := by decide +kernel
theorem dM_lay_125 : decode prog_7_method_26_code 125 = .ok (.isub, 1) := by decide +kernel
theorem dM_lay_126 : decode prog_7_method_26_code 126 = .ok (.imul, 1) := by decide +kernel
theorem dM_lay_127 : decode prog_7_method_26_code 127 = .ok (.aload_n 0, 1) := by decide +kernel
theorem dM_lay_128 : decode prog_7_method_26_code 128 = .ok (.getfield 22, 3) := by decide +kernel
theorem dM_lay_131 : decode prog_7_method_26_code 131 = .ok (.aload_n 0, 1) := by decide +kernel
theorem dM_lay_132 : decode prog_7_method_26_code 132 = .ok (.getfield 56, 3) := by decide +kernel
theorem dM_lay_135 : decode prog_7_method_26_code 135 = .ok (.iconst 1, 1) := by decide +kernel
theorem dM_lay_136 : decode prog_7_method_26_code 136 = .ok (.isub, 1) := by decide +kernel
theorem dM_lay_137 : decode prog_7_method_26_code 137 = .ok (.iaload, 1) := by decide +kernel
theorem dM_lay_138 : decode prog_7_method_26_code 138 = .ok (.iadd, 1) := by decide +kernel
theorem dM_lay_139 : decode prog_7_method_26_code 139 = .ok (.iload_n 1, 1) := by decide +kernel
theorem dM_lay_140 : decode prog_7_method_26_code 140 = .ok (.iastore, 1) := by decide +kernel
theorem dM_lay_141 : decode prog_7_method_26_code 141 = .ok (.aload_n 0, 1) := by decide +kernel
theorem dM_lay_142 : decode prog_7_method_26_code 142 = .ok (.getfield 22, 3) := by decide +kernel
theorem dM_lay_145 : decode prog_7_method_26_code 145 = .ok (.aload_n 0, 1) := by decide +kernel
theorem dM_lay_146 : decode prog_7_method_26_code 146 = .ok (.getfield 56, 3) := by decide +kernel
theorem dM_lay_149 : decode prog_7_method_26_code 149 = .ok (.iconst 1, 1) := by decide +kernel
theorem dM_lay_150 : decode prog_7_method_26_code 150 = .ok (.isub, 1) := by decide +kernel
theorem dM_lay_151 : decode prog_7_method_26_code 151 = .ok (.dup2, 1) := by decide +kernel
theorem dM_lay_152 : decode prog_7_method_26_code 152 = .ok (.iaload, 1) := by decide +kernel
theorem dM_lay_153 : decode prog_7_method_26_code 153 = .ok (.iconst 1, 1) := by decide +kernel
theorem dM_lay_154 : decode prog_7_method_26_code 154 = .ok (.iadd, 1) := by decide +kernel
theorem dM_lay_155 : decode prog_7_method_26_code 155 = .ok (.iastore, 1) := by decide +kernel
theorem dM_lay_156 : decode prog_7_method_26_code 156 = .ok (.aload_n 0, 1) := by decide +kernel
theorem dM_lay_157 : decode prog_7_method_26_code 157 = .ok (.getfield 56, 3) := by decide +kernel
theorem dM_lay_160 : decode prog_7_method_26_code 160 = .ok (.ireturn, 1) := by decide +kernel
theorem dM_make_0 : decode prog_7_method_27_code 0 = .ok (.aload_n 0, 1) := by decide +kernel
theorem dM_make_1 : decode prog_7_method_27_code 1 = .ok (.getfield 59, 3) := by decide +kernel
theorem dM_make_4 : decode prog_7_method_27_code 4 = .ok (.aload_n 0, 1) := by decide +kernel
theorem dM_make_5 : decode prog_7_method_27_code 5 = .ok (.iconst 0, 1) := by decide +kernel
theorem dM_make_6 : decode prog_7_method_27_code 6 = .ok (.invokevirtual 106, 3) := by decide +kernel
theorem dM_make_9 : decode prog_7_method_27_code 9 = .ok (.if_icmp .eq 6, 3) := by decide +kernel
theorem dM_make_12 : decode prog_7_method_27_code 12 = .ok (.bipush (-4), 2) := by decide +kernel
theorem dM_make_14 : decode prog_7_method_27_code 14 = .ok (.ireturn, 1) := by decide +kernel
theorem dM_make_15 : decode prog_7_method_27_code 15 = .ok (.aload_n 0, 1) := by decide +kernel
theorem dM_make_16 : decode prog_7_method_27_code 16 = .ok (.iconst 0, 1) := by decide +kernel
theorem dM_make_17 : decode prog_7_method_27_code 17 = .ok (.putfield 65, 3) := by decide +kernel
theorem dM_make_20 : decode prog_7_method_27_code 20 = .ok (.iconst 0, 1) := by decide +kernel
theorem dM_make_21 : decode prog_7_method_27_code 21 = .ok (.istore_n 1, 1) := by decide +kernel
theorem dM_make_22 : decode prog_7_method_27_code 22 = .ok (.iload_n 1, 1) := by decide +kernel
theorem dM_make_23 : decode prog_7_method_27_code 23 = .ok (.aload_n 0, 1) := by decide +kernel
theorem dM_make_24 : decode prog_7_method_27_code 24 = .ok (.getfield 56, 3) := by decide +kernel
theorem dM_make_27 : decode prog_7_method_27_code 27 = .ok (.if_icmp .ge 180, 3) := by decide +kernel
theorem dM_make_30 : decode prog_7_method_27_code 30 = .ok (.aload_n 0, 1) := by decide +kernel
theorem dM_make_31 : decode prog_7_method_27_code 31 = .ok (.getfield 19, 3) := by decide +kernel
theorem dM_make_34 : decode prog_7_method_27_code 34 = .ok (.iload_n 1, 1) := by decide +kernel
theorem dM_make_35 : decode prog_7_method_27_code 35 = .ok (.iaload, 1) := by decide +kernel
theorem dM_make_36 : decode prog_7_method_27_code 36 = .ok (.istore_n 2, 1) := by decide +kernel
theorem dM_make_37 : decode prog_7_method_27_code 37 = .ok (.aload_n 0, 1) := by decide +kernel
theorem dM_make_38 : decode prog_7_method_27_code 38 = .ok (.getfield 22, 3) := by decide +kernel
theorem dM_make_41 : decode prog_7_method_27_code 41 = .ok (.iload_n 1, 1) := by decide +kernel
theorem dM_make_42 : decode prog_7_method_27_code 42 = .ok (.iaload, 1) := by decide +kernel
theorem dM_make_43 : decode prog_7_method_27_code 43 = .ok (.istore_n 3, 1) := by decide +kernel
theorem dM_make_44 : decode prog_7_method_27_code 44 = .ok (.aload_n 0, 1) := by decide +kernel
theorem dM_make_45 : decode prog_7_method_27_code 45 = .ok (.getfield 65, 3) := by decide +kernel
theorem dM_make_48 : decode prog_7_method_27_code 48 = .ok (.iload_n 3, 1) := by decide +kernel
theorem dM_make_49 : decode prog_7_method_27_code 49 = .ok (.iadd, 1) := by decide +kernel
theorem dM_make_50 : decode prog_7_method_27_code 50 = .ok (.bipush 80, 2) := by decide +kernel
theorem dM_make_52 : decode prog_7_method_27_code 52 = .ok (.if_icmp .gt 42, 3) := by decide +kernel
theorem dM_make_55 : decode prog_7_method_27_code 55 = .ok (.aload_n 0, 1) := by decide +kernel
theorem dM_make_56 : decode prog_7_method_27_code 56 = .ok (.getfield 16, 3) := by decide +kernel
theorem dM_make_59 : decode prog_7_method_27_code 59 = .ok (.iload_n 1, 1) := by decide +kernel
theorem dM_make_60 : decode prog_7_method_27_code 60 = .ok (.iaload, 1) := by decide +kernel
theorem dM_make_61 : decode prog_7_method_27_code 61 = .ok (.ifCond .ne 15, 3) := by decide +kernel
theorem dM_make_64 : decode prog_7_method_27_code 64 = .ok (.iload_n 2, 1) := by decide +kernel
theorem dM_make_65 : decode prog_7_method_27_code 65 = .ok (.iload_n 3, 1) := by decide +kernel
theorem dM_make_66 : decode prog_7_method_27_code 66 = .ok (.iadd, 1) := by decide +kernel
theorem dM_make_67 : decode prog_7_method_27_code 67 = .ok (.aload_n 0, 1) := by decide +kernel
theorem dM_make_68 : decode prog_7_method_27_code 68 = .ok (.getfield 13, 3) := by decide +kernel
theorem dM_make_71 : decode prog_7_method_27_code 71 = .ok (.iconst 0, 1) := by decide +kernel
theorem dM_make_72 : decode prog_7_method_27_code 72 = .ok (.iaload, 1) := by decide +kernel
theorem dM_make_73 : decode prog_7_method_27_code 73 = .ok (.if_icmp .gt 21, 3) := by decide +kernel
theorem dM_make_76 : decode prog_7_method_27_code 76 = .ok (.aload_n 0, 1) := by decide +kernel
theorem dM_make_77 : decode prog_7_method_27_code 77 = .ok (.getfield 16, 3) := by decide +kernel
theorem dM_make_80 : decode prog_7_method_27_code 80 = .ok (.iload_n 1, 1) := by decide +kernel
theorem dM_make_81 : decode prog_7_method_27_code 81 = .ok (.iaload, 1) := by decide +kernel
theorem dM_make_82 : decode prog_7_method_27_code 82 = .ok (.iconst 1, 1) := by decide +kernel
theorem dM_make_83 : decode prog_7_method_27_code 83 = .ok (.if_icmp .ne 15, 3) := by decide +kernel
theorem dM_make_86 : decode prog_7_method_27_code 86 = .ok (.iload_n 2, 1) := by decide +kernel
theorem dM_make_87 : decode prog_7_method_27_code 87 = .ok (.aload_n 0, 1) := by decide +kernel
theorem dM_make_88 : decode prog_7_method_27_code 88 = .ok (.getfield 65, 3) := by decide +kernel
theorem dM_make_91 : decode prog_7_method_27_code 91 = .ok (.if_icmp .lt 7, 3) := by decide +kernel
theorem dM_make_94 : decode prog_7_method_27_code 94 = .ok (.iconst 1, 1) := by decide +kernel
theorem dM_make_95 : decode prog_7_method_27_code 95 = .ok (.goto 4, 3) := by decide +kernel
theorem dM_make_98 : decode prog_7_method_27_code 98 = .ok (.iconst 0, 1) := by decide +kernel
theorem dM_make_99 : decode prog_7_method_27_code 99 = .ok (.istore 4, 2) := by decide +kernel
theorem dM_make_101 : decode prog_7_method_27_code 101 = .ok (.iload 4, 2) := by decide +kernel
theorem dM_make_103 : decode prog_7_method_27_code 103 = .ok (.ifCond .eq 9, 3) := by decide +kernel
theorem dM_make_106 : decode prog_7_method_27_code 106 = .ok (.sipush (-1000), 3) := by decide +kernel
theorem dM_make_109 : decode prog_7_method_27_code 109 = .ok (.iload_n 1, 1) := by decide +kernel
theorem dM_make_110 : decode prog_7_method_27_code 110 = .ok (.isub, 1) := by decide +kernel
theorem dM_make_111 : decode prog_7_method_27_code 111 = .ok (.ireturn, 1) := by decide +kernel
theorem dM_make_112 : decode prog_7_method_27_code 112 = .ok (.iconst 0, 1) := by decide +kernel
theorem dM_make_113 : decode prog_7_method_27_code 113 = .ok (.istore 5, 2) := by decide +kernel
theorem dM_make_115 : decode prog_7_method_27_code 115 = .ok (.iload 5, 2) := by decide +kernel
theorem dM_make_117 : decode prog_7_method_27_code 117 = .ok (.iload_n 3, 1) := by decide +kernel
theorem dM_make_118 : decode prog_7_method_27_code 118 = .ok (.if_icmp .ge 83, 3) := by decide +kernel
theorem dM_make_121 : decode prog_7_method_27_code 121 = .ok (.aload_n 0, 1) := by decide +kernel
theorem dM_make_122 : decode prog_7_method_27_code 122 = .ok (.getfield 31, 3) := by decide +kernel
theorem dM_make_125 : decode prog_7_method_27_code 125 = .ok (.aload_n 0, 1) := by decide +kernel
theorem dM_make_126 : decode prog_7_method_27_code 126 = .ok (.getfield 65, 3) := by decide +kernel
theorem dM_make_129 : decode prog_7_method_27_code 129 = .ok (.aload_n 0, 1) := by decide +kernel
theorem dM_make_130 : decode prog_7_method_27_code 130 = .ok (.getfield 16, 3) := by decide +kernel
theorem dM_make_133 : decode prog_7_method_27_code 133 = .ok (.iload_n 1, 1) := by decide +kernel
theorem dM_make_134 : decode prog_7_method_27_code 134 = .ok (.iaload, 1) := by decide +kernel
theorem dM_make_135 : decode prog_7_method_27_code 135 = .ok (.ifCond .ne 15, 3) := by decide +kernel
theorem dM_make_138 : decode prog_7_method_27_code 138 = .ok (.aload_n 0, 1) := by decide +kernel
theorem dM_make_139 : decode prog_7_method_27_code 139 = .ok (.iconst 0, 1) := by decide +kernel
theorem dM_make_140 : decode prog_7_method_27_code 140 = .ok (.iload_n 2, 1) := by decide +kernel
theorem dM_make_141 : decode prog_7_method_27_code 141 = .ok (.iload 5, 2) := by decide +kernel
theorem dM_make_143 : decode prog_7_method_27_code 143 = .ok (.iadd, 1) := by decide +kernel
theorem dM_make_144 : decode prog_7_method_27_code 144 = .ok (.invokevirtual 72, 3) := by decide +kernel
theorem dM_make_147 : decode prog_7_method_27_code 147 = .ok (.goto 37, 3) := by decide +kernel
theorem dM_make_150 : decode prog_7_method_27_code 150 = .ok (.aload_n 0, 1) := by decide +kernel
theorem dM_make_151 : decode prog_7_method_27_code 151 = .ok (.getfield 16, 3) := by decide +kernel
theorem dM_make_154 : decode prog_7_method_27_code 154 = .ok (.iload_n 1, 1) := by decide +kernel
theorem dM_make_155 : decode prog_7_method_27_code 155 = .ok (.iaload, 1) := by decide +kernel
theorem dM_make_156 : decode prog_7_method_27_code 156 = .ok (.iconst 1, 1) := by decide +kernel
theorem dM_make_157 : decode prog_7_method_27_code 157 = .ok (.if_icmp .ne 15, 3) := by decide +kernel
theorem dM_make_160 : decode prog_7_method_27_code 160 = .ok (.aload_n 0, 1) := by decide +kernel
theorem dM_make_161 : decode prog_7_method_27_code 161 = .ok (.getfield 31, 3) := by decide +kernel
theorem dM_make_164 : decode prog_7_method_27_code 164 = .ok (.iload_n 2, 1) := by decide +kernel
theorem dM_make_165 : decode prog_7_method_27_code 165 = .ok (.iload 5, 2) := by decide +kernel
theorem dM_make_167 : decode prog_7_method_27_code 167 = .ok (.iadd, 1) := by decide +kernel
theorem dM_make_168 : decode prog_7_method_27_code 168 = .ok (.iaload, 1) := by decide +kernel
theorem dM_make_169 : decode prog_7_method_27_code 169 = .ok (.goto 15, 3) := by decide +kernel
theorem dM_make_172 : decode prog_7_method_27_code 172 = .ok (.aload_n 0, 1) := by decide +kernel
theorem dM_make_173 : decode prog_7_method_27_code 173 = .ok (.getfield 25, 3) := by decide +kernel
theorem dM_make_176 : decode prog_7_method_27_code 176 = .ok (.bipush 40, 2) := by decide +kernel
theorem dM_make_178 : decode prog_7_method_27_code 178 = .ok (.iload_n 1, 1) := by decide +kernel
theorem dM_make_179 : decode prog_7_method_27_code 179 = .ok (.imul, 1) := by decide +kernel
theorem dM_make_180 : decode prog_7_method_27_code 180 = .ok (.iload 5, 2) := by decide +kernel
theorem dM_make_182 : decode prog_7_method_27_code 182 = .ok (.iadd, 1) := by decide +kernel
theorem dM_make_183 : decode prog_7_method_27_code 183 = .ok (.iaload, 1) := by decide +kernel
theorem dM_make_184 : decode prog_7_method_27_code 184 = .ok (.iastore, 1) := by decide +kernel
theorem dM_make_185 : decode prog_7_method_27_code 185 = .ok (.aload_n 0, 1) := by decide +kernel
theorem dM_make_186 : decode prog_7_method_27_code 186 = .ok (.dup, 1) := by decide +kernel
theorem dM_make_187 : decode prog_7_method_27_code 187 = .ok (.getfield 65, 3) := by decide +kernel
theorem dM_make_190 : decode prog_7_method_27_code 190 = .ok (.iconst 1, 1) := by decide +kernel
theorem dM_make_191 : decode prog_7_method_27_code 191 = .ok (.iadd, 1) := by decide +kernel
theorem dM_make_192 : decode prog_7_method_27_code 192 = .ok (.putfield 65, 3) := by decide +kernel
theorem dM_make_195 : decode prog_7_method_27_code 195 = .ok (.iinc 5 1, 3) := by decide +kernel
theorem dM_make_198 : decode prog_7_method_27_code 198 = .ok (.goto (-83), 3) := by decide +kernel
theorem dM_make_201 : decode prog_7_method_27_code 201 = .ok (.iinc 1 1, 3) := by decide +kernel
theorem dM_make_204 : decode prog_7_method_27_code 204 = .ok (.goto (-182), 3) := by decide +kernel
theorem dM_make_207 : decode prog_7_method_27_code 207 = .ok (.aload_n 0, 1) := by decide +kernel
theorem dM_make_208 : decode prog_7_method_27_code 208 = .ok (.getfield 65, 3) := by decide +kernel
theorem dM_make_211 : decode prog_7_method_27_code 211 = .ok (.ireturn, 1) := by decide +kernel
theorem dM_made_0 : decode prog_7_method_28_code 0 = .ok (.iload_n 1, 1) := by decide +kernel
theorem dM_made_1 : decode prog_7_method_28_code 1 = .ok (.iconst 0, 1) := by decide +kernel
theorem dM_made_2 : decode prog_7_method_28_code 2 = .ok (.aload_n 0, 1) := by decide +kernel
theorem dM_made_3 : decode prog_7_method_28_code 3 = .ok (.getfield 65, 3) := by decide +kernel
theorem dM_made_6 : decode prog_7_method_28_code 6 = .ok (.iconst 1, 1) := by decide +kernel
theorem dM_made_7 : decode prog_7_method_28_code 7 = .ok (.isub, 1) := by decide +kernel
theorem dM_made_8 : decode prog_7_method_28_code 8 = .ok (.invokestatic 77, 3) := by decide +kernel
theorem dM_made_11 : decode prog_7_method_28_code 11 = .ok (.ifCond .eq 12, 3) := by decide +kernel
theorem dM_made_14 : decode prog_7_method_28_code 14 = .ok (.aload_n 0, 1) := by decide +kernel
theorem dM_made_15 : decode prog_7_method_28_code 15 = .ok (.getfield 31, 3) := by decide +kernel
theorem dM_made_18 : decode prog_7_method_28_code 18 = .ok (.iload_n 1, 1) := by decide +kernel
theorem dM_made_19 : decode prog_7_method_28_code 19 = .ok (.iaload, 1) := by decide +kernel
theorem dM_made_20 : decode prog_7_method_28_code 20 = .ok (.goto 4, 3) := by decide +kernel
theorem dM_made_23 : decode prog_7_method_28_code 23 = .ok (.iconst (-1), 1) := by decide +kernel
theorem dM_made_24 : decode prog_7_method_28_code 24 = .ok (.ireturn, 1) := by decide +kernel
theorem dM_isNew_0 : decode prog_7_method_29_code 0 = .ok (.aload_n 0, 1) := by decide +kernel
theorem dM_isNew_1 : decode prog_7_method_29_code 1 = .ok (.getfield 65, 3) := by decide +kernel
theorem dM_isNew_4 : decode prog_7_method_29_code 4 = .ok (.aload_n 0, 1) := by decide +kernel
theorem dM_isNew_5 : decode prog_7_method_29_code 5 = .ok (.getfield 13, 3) := by decide +kernel
theorem dM_isNew_8 : decode prog_7_method_29_code 8 = .ok (.iconst 1, 1) := by decide +kernel
theorem dM_isNew_9 : decode prog_7_method_29_code 9 = .ok (.iaload, 1) := by decide +kernel
theorem dM_isNew_10 : decode prog_7_method_29_code 10 = .ok (.if_icmp .eq 5, 3) := by decide +kernel
theorem dM_isNew_13 : decode prog_7_method_29_code 13 = .ok (.iconst 0, 1) := by decide +kernel
theorem dM_isNew_14 : decode prog_7_method_29_code 14 = .ok (.ireturn, 1) := by decide +kernel
theorem dM_isNew_15 : decode prog_7_method_29_code 15 = .ok (.iconst 1, 1) := by decide +kernel
theorem dM_isNew_16 : decode prog_7_method_29_code 16 = .ok (.istore_n 1, 1) := by decide +kernel
theorem dM_isNew_17 : decode prog_7_method_29_code 17 = .ok (.iconst 0, 1) := by decide +kernel
theorem dM_isNew_18 : decode prog_7_method_29_code 18 = .ok (.istore_n 2, 1) := by decide +kernel
theorem dM_isNew_19 : decode prog_7_method_29_code 19 = .ok (.iload_n 2, 1) := by decide +kernel
theorem dM_isNew_20 : decode prog_7_method_29_code 20 = .ok (.aload_n 0, 1) := by decide +kernel
theorem dM_isNew_21 : decode prog_7_method_29_code 21 = .ok (.getfield 65, 3) := by decide +kernel
theorem dM_isNew_24 : decode prog_7_method_29_code 24 = .ok (.if_icmp .ge 30, 3) := by decide +kernel
theorem dM_isNew_27 : decode prog_7_method_29_code 27 = .ok (.aload_n 0, 1) := by decide +kernel
theorem dM_isNew_28 : decode prog_7_method_29_code 28 = .ok (.getfield 31, 3) := by decide +kernel
theorem dM_isNew_31 : decode prog_7_method_29_code 31 = .ok (.iload_n 2, 1) := by decide +kernel
theorem dM_isNew_32 : decode prog_7_method_29_code 32 = .ok (.iaload, 1) := by decide +kernel
theorem dM_isNew_33 : decode prog_7_method_29_code 33 = .ok (.aload_n 0, 1) := by decide +kernel
theorem dM_isNew_34 : decode prog_7_method_29_code 34 = .ok (.iconst 1, 1) := by decide +kernel
theorem dM_isNew_35 : decode prog_7_method_29_code 35 = .ok (.iload_n 2, 1) := by decide +kernel
theorem dM_isNew_36 : decode prog_7_method_29_code 36 = .ok (.invokevirtual 72, 3) := by decide +kernel
theorem dM_isNew_39 : decode prog_7_method_29_code 39 = .ok (.if_icmp .ne 7, 3) := by decide +kernel
theorem dM_isNew_42 : decode prog_7_method_29_code 42 = .ok (.iload_n 1, 1) := by decide +kernel
theorem dM_isNew_43 : decode prog_7_method_29_code 43 = .ok (.goto 4, 3) := by decide +kernel
theorem dM_isNew_46 : decode prog_7_method_29_code 46 = .ok (.iconst 0, 1) := by decide +kernel
theorem dM_isNew_47 : decode prog_7_method_29_code 47 = .ok (.istore_n 1, 1) := by decide +kernel
theorem dM_isNew_48 : decode prog_7_method_29_code 48 = .ok (.iinc 2 1, 3) := by decide +kernel
theorem dM_isNew_51 : decode prog_7_method_29_code 51 = .ok (.goto (-32), 3) := by decide +kernel
theorem dM_isNew_54 : decode prog_7_method_29_code 54 = .ok (.iload_n 1, 1) := by decide +kernel
theorem dM_isNew_55 : decode prog_7_method_29_code 55 = .ok (.ireturn, 1) := by decide +kernel
theorem dM_write_0 : decode prog_7_method_31_code 0 = .ok (.aload_n 0, 1) := by decide +kernel
theorem dM_write_1 : decode prog_7_method_31_code 1 = .ok (.iconst 0, 1) := by decide +kernel
theorem dM_write_2 : decode prog_7_method_31_code 2 = .ok (.putfield 62, 3) := by decide +kernel
theorem dM_write_5 : decode prog_7_method_31_code 5 = .ok (.aload_n 0, 1) := by decide +kernel
theorem dM_write_6 : decode prog_7_method_31_code 6 = .ok (.aload_n 0, 1) := by decide +kernel
theorem dM_write_7 : decode prog_7_method_31_code 7 = .ok (.getfield 59, 3) := by decide +kernel
theorem dM_write_10 : decode prog_7_method_31_code 10 = .ok (.sipush 256, 3) := by decide +kernel
theorem dM_write_13 : decode prog_7_method_31_code 13 = .ok (.idiv, 1) := by decide +kernel
theorem dM_write_14 : decode prog_7_method_31_code 14 = .ok (.invokevirtual 120, 3) := by decide +kernel
