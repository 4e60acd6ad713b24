theorem dS_init_0 : decode prog_5_method_1_code 0 = .ok (.aload_n 0, 1) := by decide +kernel
theorem dS_init_1 : decode prog_5_method_1_code 1 = .ok (.invokespecial 3, 3) := by decide +kernel
theorem dS_init_4 : decode prog_5_method_1_code 4 = .ok (.aload_n 0, 1) := by decide +kernel
theorem dS_init_5 : decode prog_5_method_1_code 5 = .ok (.sipush 1681, 3) := by decide +kernel
theorem dS_init_8 : decode prog_5_method_1_code 8 = .ok (.newarray .int, 2) := by decide +kernel
theorem dS_init_10 : decode prog_5_method_1_code 10 = .ok (.putfield 11, 3) := by decide +kernel
theorem dS_init_13 : decode prog_5_method_1_code 13 = .ok (.aload_n 0, 1) := by decide +kernel
theorem dS_init_14 : decode prog_5_method_1_code 14 = .ok (.bipush 41, 2) := by decide +kernel
theorem dS_init_16 : decode prog_5_method_1_code 16 = .ok (.newarray .int, 2) := by decide +kernel
theorem dS_init_18 : decode prog_5_method_1_code 18 = .ok (.putfield 15, 3) := by decide +kernel
theorem dS_init_21 : decode prog_5_method_1_code 21 = .ok (.aload_n 0, 1) := by decide +kernel
theorem dS_init_22 : decode prog_5_method_1_code 22 = .ok (.bipush 41, 2) := by decide +kernel
theorem dS_init_24 : decode prog_5_method_1_code 24 = .ok (.newarray .int, 2) := by decide +kernel
theorem dS_init_26 : decode prog_5_method_1_code 26 = .ok (.putfield 18, 3) := by decide +kernel
theorem dS_init_29 : decode prog_5_method_1_code 29 = .ok (.aload_n 0, 1) := by decide +kernel
theorem dS_init_30 : decode prog_5_method_1_code 30 = .ok (.aload_n 1, 1) := by decide +kernel
theorem dS_init_31 : decode prog_5_method_1_code 31 = .ok (.putfield 21, 3) := by decide +kernel
theorem dS_init_34 : decode prog_5_method_1_code 34 = .ok (.aload_n 0, 1) := by decide +kernel
theorem dS_init_35 : decode prog_5_method_1_code 35 = .ok (.aload_n 2, 1) := by decide +kernel
theorem dS_init_36 : decode prog_5_method_1_code 36 = .ok (.putfield 25, 3) := by decide +kernel
theorem dS_init_39 : decode prog_5_method_1_code 39 = .ok (.aload_n 0, 1) := by decide +kernel
theorem dS_init_40 : decode prog_5_method_1_code 40 = .ok (.aload_n 3, 1) := by decide +kernel
theorem dS_init_41 : decode prog_5_method_1_code 41 = .ok (.putfield 28, 3) := by decide +kernel
theorem dS_init_44 : decode prog_5_method_1_code 44 = .ok (.return_, 1) := by decide +kernel
theorem dS_forget_0 : decode prog_5_method_2_code 0 = .ok (.aload_n 0, 1) := by decide +kernel
theorem dS_forget_1 : decode prog_5_method_2_code 1 = .ok (.iconst 0, 1) := by decide +kernel
theorem dS_forget_2 : decode prog_5_method_2_code 2 = .ok (.putfield 32, 3) := by decide +kernel
theorem dS_forget_5 : decode prog_5_method_2_code 5 = .ok (.return_, 1) := by decide +kernel
theorem dS_begin_0 : decode prog_5_method_9_code 0 = .ok (.aload_n 0, 1) := by decide +kernel
theorem dS_begin_1 : decode prog_5_method_9_code 1 = .ok (.invokevirtual 95, 3) := by decide +kernel
theorem dS_begin_4 : decode prog_5_method_9_code 4 = .ok (.aload_n 0, 1) := by decide +kernel
theorem dS_begin_5 : decode prog_5_method_9_code 5 = .ok (.iconst 0, 1) := by decide +kernel
theorem dS_begin_6 : decode prog_5_method_9_code 6 = .ok (.putfield 98, 3) := by decide +kernel
theorem dS_begin_9 : decode prog_5_method_9_code 9 = .ok (.aload_n 0, 1) := by decide +kernel
theorem dS_begin_10 : decode prog_5_method_9_code 10 = .ok (.iconst 0, 1) := by decide +kernel
theorem dS_begin_11 : decode prog_5_method_9_code 11 = .ok (.putfield 101, 3) := by decide +kernel
theorem dS_begin_14 : decode prog_5_method_9_code 14 = .ok (.return_, 1) := by decide +kernel
theorem dS_workOut_0 : decode prog_5_method_4_code 0 = .ok (.aload_n 0, 1) := by decide +kernel
theorem dS_workOut_1 : decode prog_5_method_4_code 1 = .ok (.getfield 32, 3) := by decide +kernel
theorem dS_workOut_4 : decode prog_5_method_4_code 4 = .ok (.ifCond .eq 4, 3) := by decide +kernel
theorem dS_workOut_7 : decode prog_5_method_4_code 7 = .ok (.return_, 1) := by decide +kernel
theorem dS_workOut_8 : decode prog_5_method_4_code 8 = .ok (.aload_n 0, 1) := by decide +kernel
theorem dS_workOut_9 : decode prog_5_method_4_code 9 = .ok (.getfield 25, 3) := by decide +kernel
theorem dS_workOut_12 : decode prog_5_method_4_code 12 = .ok (.invokevirtual 37, 3) := by decide +kernel
theorem dS_workOut_15 : decode prog_5_method_4_code 15 = .ok (.bipush 40, 2) := by decide +kernel
theorem dS_workOut_17 : decode prog_5_method_4_code 17 = .ok (.invokestatic 43, 3) := by decide +kernel
theorem dS_workOut_20 : decode prog_5_method_4_code 20 = .ok (.istore_n 1, 1) := by decide +kernel
theorem dS_workOut_21 : decode prog_5_method_4_code 21 = .ok (.iconst 0, 1) := by decide +kernel
theorem dS_workOut_22 : decode prog_5_method_4_code 22 = .ok (.istore_n 2, 1) := by decide +kernel
theorem dS_workOut_23 : decode prog_5_method_4_code 23 = .ok (.iload_n 2, 1) := by decide +kernel
theorem dS_workOut_24 : decode prog_5_method_4_code 24 = .ok (.bipush 41, 2) := by decide +kernel
theorem dS_workOut_26 : decode prog_5_method_4_code 26 = .ok (.if_icmp .ge 37, 3) := by decide +kernel
theorem dS_workOut_29 : decode prog_5_method_4_code 29 = .ok (.aload_n 0, 1) := by decide +kernel
theorem dS_workOut_30 : decode prog_5_method_4_code 30 = .ok (.getfield 11, 3) := by decide +kernel
theorem dS_workOut_33 : decode prog_5_method_4_code 33 = .ok (.iload_n 1, 1) := by decide +kernel
theorem dS_workOut_34 : decode prog_5_method_4_code 34 = .ok (.bipush 41, 2) := by decide +kernel
theorem dS_workOut_36 : decode prog_5_method_4_code 36 = .ok (.imul, 1) := by decide +kernel
theorem dS_workOut_37 : decode prog_5_method_4_code 37 = .ok (.iload_n 2, 1) := by decide +kernel
theorem dS_workOut_38 : decode prog_5_method_4_code 38 = .ok (.iadd, 1) := by decide +kernel
theorem dS_workOut_39 : decode prog_5_method_4_code 39 = .ok (.iconst 0, 1) := by decide +kernel
theorem dS_workOut_40 : decode prog_5_method_4_code 40 = .ok (.iastore, 1) := by decide +kernel
theorem dS_workOut_41 : decode prog_5_method_4_code 41 = .ok (.aload_n 0, 1) := by decide +kernel
theorem dS_workOut_42 : decode prog_5_method_4_code 42 = .ok (.getfield 15, 3) := by decide +kernel
theorem dS_workOut_45 : decode prog_5_method_4_code 45 = .ok (.iload_n 2, 1) := by decide +kernel
theorem dS_workOut_46 : decode prog_5_method_4_code 46 = .ok (.ldc 36, 2) := by decide +kernel
theorem dS_workOut_48 : decode prog_5_method_4_code 48 = .ok (.iastore, 1) := by decide +kernel
theorem dS_workOut_49 : decode prog_5_method_4_code 49 = .ok (.aload_n 0, 1) := by decide +kernel
theorem dS_workOut_50 : decode prog_5_method_4_code 50 = .ok (.getfield 18, 3) := by decide +kernel
theorem dS_workOut_53 : decode prog_5_method_4_code 53 = .ok (.iload_n 2, 1) := by decide +kernel
theorem dS_workOut_54 : decode prog_5_method_4_code 54 = .ok (.ldc 36, 2) := by decide +kernel
theorem dS_workOut_56 : decode prog_5_method_4_code 56 = .ok (.iastore, 1) := by decide +kernel
theorem dS_workOut_57 : decode prog_5_method_4_code 57 = .ok (.iinc 2 1, 3) := by decide +kernel
theorem dS_workOut_60 : decode prog_5_method_4_code 60 = .ok (.goto (-37), 3) := by decide +kernel
theorem dS_workOut_63 : decode prog_5_method_4_code 63 = .ok (.iload_n 1, 1) := by decide +kernel
theorem dS_workOut_64 : decode prog_5_method_4_code 64 = .ok (.iconst 1, 1) := by decide +kernel
theorem dS_workOut_65 : decode prog_5_method_4_code 65 = .ok (.isub, 1) := by decide +kernel
theorem dS_workOut_66 : decode prog_5_method_4_code 66 = .ok (.istore_n 2, 1) := by decide +kernel
theorem dS_workOut_67 : decode prog_5_method_4_code 67 = .ok (.iload_n 2, 1) := by decide +kernel
theorem dS_workOut_68 : decode prog_5_method_4_code 68 = .ok (.ifCond .lt 14, 3) := by decide +kernel
theorem dS_workOut_71 : decode prog_5_method_4_code 71 = .ok (.aload_n 0, 1) := by decide +kernel
theorem dS_workOut_72 : decode prog_5_method_4_code 72 = .ok (.iload_n 2, 1) := by decide +kernel
theorem dS_workOut_73 : decode prog_5_method_4_code 73 = .ok (.invokevirtual 49, 3) := by decide +kernel
theorem dS_workOut_76 : decode prog_5_method_4_code 76 = .ok (.iinc 2 (-1), 3) := by decide +kernel
theorem dS_workOut_79 : decode prog_5_method_4_code 79 = .ok (.goto (-12), 3) := by decide +kernel
theorem dS_workOut_82 : decode prog_5_method_4_code 82 = .ok (.aload_n 0, 1) := by decide +kernel
theorem dS_workOut_83 : decode prog_5_method_4_code 83 = .ok (.iconst 1, 1) := by decide +kernel
theorem dS_workOut_84 : decode prog_5_method_4_code 84 = .ok (.putfield 32, 3) := by decide +kernel
theorem dS_workOut_87 : decode prog_5_method_4_code 87 = .ok (.return_, 1) := by decide +kernel
theorem dS_workOutPlace_0 : decode prog_5_method_5_code 0 = .ok (.aload_n 0, 1) := by decide +kernel
theorem dS_workOutPlace_1 : decode prog_5_method_5_code 1 = .ok (.iload_n 1, 1) := by decide +kernel
theorem dS_workOutPlace_2 : decode prog_5_method_5_code 2 = .ok (.invokevirtual 53, 3) := by decide +kernel
theorem dS_workOutPlace_5 : decode prog_5_method_5_code 5 = .ok (.istore_n 2, 1) := by decide +kernel
theorem dS_workOutPlace_6 : decode prog_5_method_5_code 6 = .ok (.aload_n 0, 1) := by decide +kernel
theorem dS_workOutPlace_7 : decode prog_5_method_5_code 7 = .ok (.iload_n 1, 1) := by decide +kernel
theorem dS_workOutPlace_8 : decode prog_5_method_5_code 8 = .ok (.invokevirtual 57, 3) := by decide +kernel
theorem dS_workOutPlace_11 : decode prog_5_method_5_code 11 = .ok (.istore_n 3, 1) := by decide +kernel
theorem dS_workOutPlace_12 : decode prog_5_method_5_code 12 = .ok (.aload_n 0, 1) := by decide +kernel
theorem dS_workOutPlace_13 : decode prog_5_method_5_code 13 = .ok (.getfield 21, 3) := by decide +kernel
theorem dS_workOutPlace_16 : decode prog_5_method_5_code 16 = .ok (.invokevirtual 37, 3) := by decide +kernel
theorem dS_workOutPlace_19 : decode prog_5_method_5_code 19 = .ok (.bipush 40, 2) := by decide +kernel
theorem dS_workOutPlace_21 : decode prog_5_method_5_code 21 = .ok (.invokestatic 43, 3) := by decide +kernel
theorem dS_workOutPlace_24 : decode prog_5_method_5_code 24 = .ok (.istore 4, 2) := by decide +kernel
theorem dS_workOutPlace_26 : decode prog_5_method_5_code 26 = .ok (.iconst 0, 1) := by decide +kernel
theorem dS_workOutPlace_27 : decode prog_5_method_5_code 27 = .ok (.istore 5, 2) := by decide +kernel
theorem dS_workOutPlace_29 : decode prog_5_method_5_code 29 = .ok (.iload 5, 2) := by decide +kernel
theorem dS_workOutPlace_31 : decode prog_5_method_5_code 31 = .ok (.iload 4, 2) := by decide +kernel
theorem dS_workOutPlace_33 : decode prog_5_method_5_code 33 = .ok (.if_icmp .gt 143, 3) := by decide +kernel
theorem dS_workOutPlace_36 : decode prog_5_method_5_code 36 = .ok (.aload_n 0, 1) := by decide +kernel
theorem dS_workOutPlace_37 : decode prog_5_method_5_code 37 = .ok (.getfield 18, 3) := by decide +kernel
theorem dS_workOutPlace_40 : decode prog_5_method_5_code 40 = .ok (.iload 5, 2) := by decide +kernel
theorem dS_workOutPlace_42 : decode prog_5_method_5_code 42 = .ok (.aload_n 0, 1) := by decide +kernel
theorem dS_workOutPlace_43 : decode prog_5_method_5_code 43 = .ok (.getfield 28, 3) := by decide +kernel
theorem dS_workOutPlace_46 : decode prog_5_method_5_code 46 = .ok (.getfield 60, 3) := by decide +kernel
theorem dS_workOutPlace_49 : decode prog_5_method_5_code 49 = .ok (.aload_n 0, 1) := by decide +kernel
theorem dS_workOutPlace_50 : decode prog_5_method_5_code 50 = .ok (.iload_n 1, 1) := by decide +kernel
theorem dS_workOutPlace_51 : decode prog_5_method_5_code 51 = .ok (.iconst 1, 1) := by decide +kernel
theorem dS_workOutPlace_52 : decode prog_5_method_5_code 52 = .ok (.iadd, 1) := by decide +kernel
theorem dS_workOutPlace_53 : decode prog_5_method_5_code 53 = .ok (.iload 5, 2) := by decide +kernel
theorem dS_workOutPlace_55 : decode prog_5_method_5_code 55 = .ok (.invokevirtual 66, 3) := by decide +kernel
theorem dS_workOutPlace_58 : decode prog_5_method_5_code 58 = .ok (.aload_n 0, 1) := by decide +kernel
theorem dS_workOutPlace_59 : decode prog_5_method_5_code 59 = .ok (.getfield 18, 3) := by decide +kernel
theorem dS_workOutPlace_62 : decode prog_5_method_5_code 62 = .ok (.iload 5, 2) := by decide +kernel
theorem dS_workOutPlace_64 : decode prog_5_method_5_code 64 = .ok (.iaload, 1) := by decide +kernel
theorem dS_workOutPlace_65 : decode prog_5_method_5_code 65 = .ok (.invokestatic 43, 3) := by decide +kernel
theorem dS_workOutPlace_68 : decode prog_5_method_5_code 68 = .ok (.iadd, 1) := by decide +kernel
theorem dS_workOutPlace_69 : decode prog_5_method_5_code 69 = .ok (.iastore, 1) := by decide +kernel
theorem dS_workOutPlace_70 : decode prog_5_method_5_code 70 = .ok (.aload_n 0, 1) := by decide +kernel
theorem dS_workOutPlace_71 : decode prog_5_method_5_code 71 = .ok (.getfield 28, 3) := by decide +kernel
theorem dS_workOutPlace_74 : decode prog_5_method_5_code 74 = .ok (.getfield 69, 3) := by decide +kernel
theorem dS_workOutPlace_77 : decode prog_5_method_5_code 77 = .ok (.aload_n 0, 1) := by decide +kernel
theorem dS_workOutPlace_78 : decode prog_5_method_5_code 78 = .ok (.getfield 18, 3) := by decide +kernel
theorem dS_workOutPlace_81 : decode prog_5_method_5_code 81 = .ok (.iload 5, 2) := by decide +kernel
theorem dS_workOutPlace_83 : decode prog_5_method_5_code 83 = .ok (.iaload, 1) := by decide +kernel
theorem dS_workOutPlace_84 : decode prog_5_method_5_code 84 = .ok (.iadd, 1) := by decide +kernel
theorem dS_workOutPlace_85 : decode prog_5_method_5_code 85 = .ok (.istore 6, 2) := by decide +kernel
theorem dS_workOutPlace_87 : decode prog_5_method_5_code 87 = .ok (.iload 6, 2) := by decide +kernel
theorem dS_workOutPlace_89 : decode prog_5_method_5_code 89 = .ok (.aload_n 0, 1) := by decide +kernel
theorem dS_workOutPlace_90 : decode prog_5_method_5_code 90 = .ok (.getfield 28, 3) := by decide +kernel
theorem dS_workOutPlace_93 : decode prog_5_method_5_code 93 = .ok (.getfield 72, 3) := by decide +kernel
theorem dS_workOutPlace_96 : decode prog_5_method_5_code 96 = .ok (.aload_n 0, 1) := by decide +kernel
theorem dS_workOutPlace_97 : decode prog_5_method_5_code 97 = .ok (.getfield 15, 3) := by decide +kernel
theorem dS_workOutPlace_100 : decode prog_5_method_5_code 100 = .ok (.iload 5, 2) := by decide +kernel
theorem dS_workOutPlace_102 : decode prog_5_method_5_code 102 = .ok (.iaload, 1) := by decide +kernel
theorem dS_workOutPlace_103 : decode prog_5_method_5_code 103 = .ok (.iadd, 1) := by decide +kernel
theorem dS_workOutPlace_104 : decode prog_5_method_5_code 104 = .ok (.invokestatic 43, 3) := by decide +kernel
theorem dS_workOutPlace_107 : decode prog_5_method_5_code 107 = .ok (.istore 6, 2) := by decide +kernel
theorem dS_workOutPlace_109 : decode prog_5_method_5_code 109 = .ok (.iload 6, 2) := by decide +kernel
theorem dS_workOutPlace_111 : decode prog_5_method_5_code 111 = .ok (.aload_n 0, 1) := by decide +kernel
theorem dS_workOutPlace_112 : decode prog_5_method_5_code 112 = .ok (.getfield 28, 3) := by decide +kernel
theorem dS_workOutPlace_115 : decode prog_5_method_5_code 115 = .ok (.getfield 72, 3) := by decide +kernel
theorem dS_workOutPlace_118 : decode prog_5_method_5_code 118 = .ok (.aload_n 0, 1) := by decide +kernel
theorem dS_workOutPlace_119 : decode prog_5_method_5_code 119 = .ok (.getfield 28, 3) := by decide +kernel
theorem dS_workOutPlace_122 : decode prog_5_method_5_code 122 = .ok (.getfield 75, 3) := by decide +kernel
theorem dS_workOutPlace_125 : decode prog_5_method_5_code 125 = .ok (.iadd, 1) := by decide +kernel
theorem dS_workOutPlace_126 : decode prog_5_method_5_code 126 = .ok (.iload_n 2, 1) := by decide +kernel
theorem dS_workOutPlace_127 : decode prog_5_method_5_code 127 = .ok (.iadd, 1) := by decide +kernel
theorem dS_workOutPlace_128 : decode prog_5_method_5_code 128 = .ok (.invokestatic 43, 3) := by decide +kernel
theorem dS_workOutPlace_131 : decode prog_5_method_5_code 131 = .ok (.istore 6, 2) := by decide +kernel
theorem dS_workOutPlace_133 : decode prog_5_method_5_code 133 = .ok (.iload 6, 2) := by decide +kernel
theorem dS_workOutPlace_135 : decode prog_5_method_5_code 135 = .ok (.aload_n 0, 1) := by decide +kernel
theorem dS_workOutPlace_136 : decode prog_5_method_5_code 136 = .ok (.getfield 28, 3) := by decide +kernel
theorem dS_workOutPlace_139 : decode prog_5_method_5_code 139 = .ok (.getfield 78, 3) := by decide +kernel
theorem dS_workOutPlace_142 : decode prog_5_method_5_code 142 = .ok (.aload_n 0, 1) := by decide +kernel
theorem dS_workOutPlace_143 : decode prog_5_method_5_code 143 = .ok (.iload_n 1, 1) := by decide +kernel
theorem dS_workOutPlace_144 : decode prog_5_method_5_code 144 = .ok (.iload 5, 2) := by decide +kernel
theorem dS_workOutPlace_146 : decode prog_5_method_5_code 146 = .ok (.iload_n 3, 1) := by decide +kernel
theorem dS_workOutPlace_147 : decode prog_5_method_5_code 147 = .ok (.invokevirtual 81, 3) := by decide +kernel
theorem dS_workOutPlace_150 : decode prog_5_method_5_code 150 = .ok (.iadd, 1) := by decide +kernel
theorem dS_workOutPlace_151 : decode prog_5_method_5_code 151 = .ok (.invokestatic 43, 3) := by decide +kernel
theorem dS_workOutPlace_154 : decode prog_5_method_5_code 154 = .ok (.istore 6, 2) := by decide +kernel
theorem dS_workOutPlace_156 : decode prog_5_method_5_code 156 = .ok (.aload_n 0, 1) := by decide +kernel
theorem dS_workOutPlace_157 : decode prog_5_method_5_code 157 = .ok (.getfield 11, 3) := by decide +kernel
theorem dS_workOutPlace_160 : decode prog_5_method_5_code 160 = .ok (.iload_n 1, 1) := by decide +kernel
theorem dS_workOutPlace_161 : decode prog_5_method_5_code 161 = .ok (.bipush 41, 2) := by decide +kernel
theorem dS_workOutPlace_163 : decode prog_5_method_5_code 163 = .ok (.imul, 1) := by decide +kernel
theorem dS_workOutPlace_164 : decode prog_5_method_5_code 164 = .ok (.iload 5, 2) := by decide +kernel
theorem dS_workOutPlace_166 : decode prog_5_method_5_code 166 = .ok (.iadd, 1) := by decide +kernel
theorem dS_workOutPlace_167 : decode prog_5_method_5_code 167 = .ok (.iload 6, 2) := by decide +kernel
theorem dS_workOutPlace_169 : decode prog_5_method_5_code 169 = .ok (.iastore, 1) := by decide +kernel
theorem dS_workOutPlace_170 : decode prog_5_method_5_code 170 = .ok (.iinc 5 1, 3) := by decide +kernel
theorem dS_workOutPlace_173 : decode prog_5_method_5_code 173 = .ok (.goto (-144), 3) := by decide +kernel
theorem dS_workOutPlace_176 : decode prog_5_method_5_code 176 = .ok (.return_, 1) := by decide +kernel
theorem dS_lengthenCopies_0 : decode prog_5_method_6_code 0 = .ok (.ldc 36, 2) := by decide +kernel
theorem dS_lengthenCopies_2 : decode prog_5_method_6_code 2 = .ok (.istore_n 2, 1) := by decide +kernel
theorem dS_lengthenCopies_3 : decode prog_5_method_6_code 3 = .ok (.aload_n 0, 1) := by decide +kernel
theorem dS_lengthenCopies_4 : decode prog_5_method_6_code 4 = .ok (.getfield 21, 3) := by decide +kernel
theorem dS_lengthenCopies_7 : decode prog_5_method_6_code 7 = .ok (.invokevirtual 37, 3) := by decide +kernel
theorem dS_lengthenCopies_10 : decode prog_5_method_6_code 10 = .ok (.bipush 40, 2) := by decide +kernel
theorem dS_lengthenCopies_12 : decode prog_5_method_6_code 12 = .ok (.invokestatic 43, 3) := by decide +kernel
theorem dS_lengthenCopies_15 : decode prog_5_method_6_code 15 = .ok (.istore_n 3, 1) := by decide +kernel
theorem dS_lengthenCopies_16 : decode prog_5_method_6_code 16 = .ok (.iconst 0, 1) := by decide +kernel
theorem dS_lengthenCopies_17 : decode prog_5_method_6_code 17 = .ok (.istore 4, 2) := by decide +kernel
theorem dS_lengthenCopies_19 : decode prog_5_method_6_code 19 = .ok (.iload 4, 2) := by decide +kernel
theorem dS_lengthenCopies_21 : decode prog_5_method_6_code 21 = .ok (.iload_n 3, 1) := by decide +kernel
theorem dS_lengthenCopies_22 : decode prog_5_method_6_code 22 = .ok (.if_icmp .ge 76, 3) := by decide +kernel
theorem dS_lengthenCopies_25 : decode prog_5_method_6_code 25 = .ok (.aload_n 0, 1) := by decide +kernel
theorem dS_lengthenCopies_26 : decode prog_5_method_6_code 26 = .ok (.getfield 15, 3) := by decide +kernel
theorem dS_lengthenCopies_29 : decode prog_5_method_6_code 29 = .ok (.iload 4, 2) := by decide +kernel
theorem dS_lengthenCopies_31 : decode prog_5_method_6_code 31 = .ok (.aload_n 0, 1) := by decide +kernel
theorem dS_lengthenCopies_32 : decode prog_5_method_6_code 32 = .ok (.getfield 21, 3) := by decide +kernel
theorem dS_lengthenCopies_35 : decode prog_5_method_6_code 35 = .ok (.iload 4, 2) := by decide +kernel
theorem dS_lengthenCopies_37 : decode prog_5_method_6_code 37 = .ok (.invokevirtual 85, 3) := by decide +kernel
theorem dS_lengthenCopies_40 : decode prog_5_method_6_code 40 = .ok (.aload_n 0, 1) := by decide +kernel
theorem dS_lengthenCopies_41 : decode prog_5_method_6_code 41 = .ok (.getfield 25, 3) := by decide +kernel
theorem dS_lengthenCopies_44 : decode prog_5_method_6_code 44 = .ok (.iload_n 1, 1) := by decide +kernel
theorem dS_lengthenCopies_45 : decode prog_5_method_6_code 45 = .ok (.invokevirtual 85, 3) := by decide +kernel
theorem dS_lengthenCopies_48 : decode prog_5_method_6_code 48 = .ok (.if_icmp .ne 29, 3) := by decide +kernel
theorem dS_lengthenCopies_51 : decode prog_5_method_6_code 51 = .ok (.aload_n 0, 1) := by decide +kernel
theorem dS_lengthenCopies_52 : decode prog_5_method_6_code 52 = .ok (.iload_n 1, 1) := by decide +kernel
theorem dS_lengthenCopies_53 : decode prog_5_method_6_code 53 = .ok (.iconst 1, 1) := by decide +kernel
theorem dS_lengthenCopies_54 : decode prog_5_method_6_code 54 = .ok (.iadd, 1) := by decide +kernel
theorem dS_lengthenCopies_55 : decode prog_5_method_6_code 55 = .ok (.iload 4, 2) := by decide +kernel
theorem dS_lengthenCopies_57 : decode prog_5_method_6_code 57 = .ok (.iconst 1, 1) := by decide +kernel
theorem dS_lengthenCopies_58 : decode prog_5_method_6_code 58 = .ok (.iadd, 1) := by decide +kernel
theorem dS_lengthenCopies_59 : decode prog_5_method_6_code 59 = .ok (.invokevirtual 66, 3) := by decide +kernel
theorem dS_lengthenCopies_62 : decode prog_5_method_6_code 62 = .ok (.aload_n 0, 1) := by decide +kernel
theorem dS_lengthenCopies_63 : decode prog_5_method_6_code 63 = .ok (.getfield 15, 3) := by decide +kernel
theorem dS_lengthenCopies_66 : decode prog_5_method_6_code 66 = .ok (.iload 4, 2) := by decide +kernel
theorem dS_lengthenCopies_68 : decode prog_5_method_6_code 68 = .ok (.iconst 1, 1) := by decide +kernel
theorem dS_lengthenCopies_69 : decode prog_5_method_6_code 69 = .ok (.iadd, 1) := by decide +kernel
theorem dS_lengthenCopies_70 : decode prog_5_method_6_code 70 = .ok (.iaload, 1) := by decide +kernel
theorem dS_lengthenCopies_71 : decode prog_5_method_6_code 71 = .ok (.invokestatic 43, 3) := by decide +kernel
theorem dS_lengthenCopies_74 : decode prog_5_method_6_code 74 = .ok (.goto 5, 3) := by decide +kernel
theorem dS_lengthenCopies_77 : decode prog_5_method_6_code 77 = .ok (.ldc 36, 2) := by decide +kernel
theorem dS_lengthenCopies_79 : decode prog_5_method_6_code 79 = .ok (.iastore, 1) := by decide +kernel
theorem dS_lengthenCopies_80 : decode prog_5_method_6_code 80 = .ok (.iload_n 2, 1) := by decide +kernel
theorem dS_lengthenCopies_81 : decode prog_5_method_6_code 81 = .ok (.aload_n 0, 1) := by decide +kernel
theorem dS_lengthenCopies_82 : decode prog_5_method_6_code 82 = .ok (.getfield 15, 3) := by decide +kernel
theorem dS_lengthenCopies_85 : decode prog_5_method_6_code 85 = .ok (.iload 4, 2) := by decide +kernel
theorem dS_lengthenCopies_87 : decode prog_5_method_6_code 87 = .ok (.iaload, 1) := by decide +kernel
theorem dS_lengthenCopies_88 : decode prog_5_method_6_code 88 = .ok (.invokestatic 43, 3) := by decide +kernel
theorem dS_lengthenCopies_91 : decode prog_5_method_6_code 91 = .ok (.istore_n 2, 1) := by decide +kernel
theorem dS_lengthenCopies_92 : decode prog_5_method_6_code 92 = .ok (.iinc 4 1, 3) := by decide +kernel
theorem dS_lengthenCopies_95 : decode prog_5_method_6_code 95 = .ok (.goto (-76), 3) := by decide +kernel
theorem dS_lengthenCopies_98 : decode prog_5_method_6_code 98 = .ok (.iload_n 2, 1) := by decide +kernel
theorem dS_lengthenCopies_99 : decode prog_5_method_6_code 99 = .ok (.ireturn, 1) := by decide +kernel
theorem dS_leastFrom_0 : decode prog_5_method_3_code 0 = .ok (.iload_n 1, 1) := by decide +kernel
theorem dS_leastFrom_1 : decode prog_5_method_3_code 1 = .ok (.ifCond .lt 23, 3) := by decide +kernel
theorem dS_leastFrom_4 : decode prog_5_method_3_code 4 = .ok (.iload_n 1, 1) := by decide +kernel
theorem dS_leastFrom_5 : decode prog_5_method_3_code 5 = .ok (.bipush 41, 2) := by decide +kernel
theorem dS_leastFrom_7 : decode prog_5_method_3_code 7 = .ok (.if_icmp .ge 17, 3) := by decide +kernel
theorem dS_leastFrom_10 : decode prog_5_method_3_code 10 = .ok (.iload_n 2, 1) := by decide +kernel
theorem dS_leastFrom_11 : decode prog_5_method_3_code 11 = .ok (.ifCond .lt 13, 3) := by decide +kernel
theorem dS_leastFrom_14 : decode prog_5_method_3_code 14 = .ok (.iload_n 2, 1) := by decide +kernel
theorem dS_leastFrom_15 : decode prog_5_method_3_code 15 = .ok (.bipush 41, 2) := by decide +kernel
theorem dS_leastFrom_17 : decode prog_5_method_3_code 17 = .ok (.if_icmp .ge 7, 3) := by decide +kernel
theorem dS_leastFrom_20 : decode prog_5_method_3_code 20 = .ok (.iconst 1, 1) := by decide +kernel
theorem dS_leastFrom_21 : decode prog_5_method_3_code 21 = .ok (.goto 4, 3) := by decide +kernel
theorem dS_leastFrom_24 : decode prog_5_method_3_code 24 = .ok (.iconst 0, 1) := by decide +kernel
theorem dS_leastFrom_25 : decode prog_5_method_3_code 25 = .ok (.istore_n 3, 1) := by decide +kernel
theorem dS_leastFrom_26 : decode prog_5_method_3_code 26 = .ok (.iload_n 3, 1) := by decide +kernel
theorem dS_leastFrom_27 : decode prog_5_method_3_code 27 = .ok (.ifCond .eq 17, 3) := by decide +kernel
theorem dS_leastFrom_30 : decode prog_5_method_3_code 30 = .ok (.aload_n 0, 1) := by decide +kernel
theorem dS_leastFrom_31 : decode prog_5_method_3_code 31 = .ok (.getfield 11, 3) := by decide +kernel
theorem dS_leastFrom_34 : decode prog_5_method_3_code 34 = .ok (.iload_n 1, 1) := by decide +kernel
theorem dS_leastFrom_35 : decode prog_5_method_3_code 35 = .ok (.bipush 41, 2) := by decide +kernel
theorem dS_leastFrom_37 : decode prog_5_method_3_code 37 = .ok (.imul, 1) := by decide +kernel
theorem dS_leastFrom_38 : decode prog_5_method_3_code 38 = .ok (.iload_n 2, 1) := by decide +kernel
theorem dS_leastFrom_39 : decode prog_5_method_3_code 39 = .ok (.iadd, 1) := by decide +kernel
theorem dS_leastFrom_40 : decode prog_5_method_3_code 40 = .ok (.iaload, 1) := by decide +kernel
theorem dS_leastFrom_41 : decode prog_5_method_3_code 41 = .ok (.goto 5, 3) := by decide +kernel
theorem dS_leastFrom_44 : decode prog_5_method_3_code 44 = .ok (.ldc 36, 2) := by decide +kernel
theorem dS_leastFrom_46 : decode prog_5_method_3_code 46 = .ok (.ireturn, 1) := by decide +kernel
theorem dS_longestAgain_0 : decode prog_5_method_7_code 0 = .ok (.iconst 0, 1) := by decide +kernel
theorem dS_longestAgain_1 : decode prog_5_method_7_code 1 = .ok (.istore_n 2, 1) := by decide +kernel
theorem dS_longestAgain_2 : decode prog_5_method_7_code 2 = .ok (.iconst 0, 1) := by decide +kernel
theorem dS_longestAgain_3 : decode prog_5_method_7_code 3 = .ok (.istore_n 3, 1) := by decide +kernel
theorem dS_longestAgain_4 : decode prog_5_method_7_code 4 = .ok (.iload_n 3, 1) := by decide +kernel
theorem dS_longestAgain_5 : decode prog_5_method_7_code 5 = .ok (.iload_n 1, 1) := by decide +kernel
theorem dS_longestAgain_6 : decode prog_5_method_7_code 6 = .ok (.if_icmp .ge 27, 3) := by decide +kernel
theorem dS_longestAgain_9 : decode prog_5_method_7_code 9 = .ok (.iload_n 2, 1) := by decide +kernel
theorem dS_longestAgain_10 : decode prog_5_method_7_code 10 = .ok (.aload_n 0, 1) := by decide +kernel
theorem dS_longestAgain_11 : decode prog_5_method_7_code 11 = .ok (.getfield 25, 3) := by decide +kernel
theorem dS_longestAgain_14 : decode prog_5_method_7_code 14 = .ok (.iload_n 3, 1) := by decide +kernel
theorem dS_longestAgain_15 : decode prog_5_method_7_code 15 = .ok (.aload_n 0, 1) := by decide +kernel
theorem dS_longestAgain_16 : decode prog_5_method_7_code 16 = .ok (.getfield 25, 3) := by decide +kernel
theorem dS_longestAgain_19 : decode prog_5_method_7_code 19 = .ok (.iload_n 1, 1) := by decide +kernel
theorem dS_longestAgain_20 : decode prog_5_method_7_code 20 = .ok (.invokevirtual 88, 3) := by decide +kernel
theorem dS_longestAgain_23 : decode prog_5_method_7_code 23 = .ok (.invokestatic 92, 3) := by decide +kernel
theorem dS_longestAgain_26 : decode prog_5_method_7_code 26 = .ok (.istore_n 2, 1) := by decide +kernel
theorem dS_longestAgain_27 : decode prog_5_method_7_code 27 = .ok (.iinc 3 1, 3) := by decide +kernel
theorem dS_longestAgain_30 : decode prog_5_method_7_code 30 = .ok (.goto (-26), 3) := by decide +kernel
theorem dS_longestAgain_33 : decode prog_5_method_7_code 33 = .ok (.iload_n 2, 1) := by decide +kernel
theorem dS_longestAgain_34 : decode prog_5_method_7_code 34 = .ok (.ireturn, 1) := by decide +kernel
theorem dS_leastBehindSelf_0 : decode prog_5_method_8_code 0 = .ok (.ldc 36, 2) := by decide +kernel
theorem dS_leastBehindSelf_2 : decode prog_5_method_8_code 2 = .ok (.istore 4, 2) := by decide +kernel
theorem dS_leastBehindSelf_4 : decode prog_5_method_8_code 4 = .ok (.iconst 1, 1) := by decide +kernel
theorem dS_leastBehindSelf_5 : decode prog_5_method_8_code 5 = .ok (.istore 5, 2) := by decide +kernel
theorem dS_leastBehindSelf_7 : decode prog_5_method_8_code 7 = .ok (.iload 5, 2) := by decide +kernel
theorem dS_leastBehindSelf_9 : decode prog_5_method_8_code 9 = .ok (.iload_n 3, 1) := by decide +kernel
theorem dS_leastBehindSelf_10 : decode prog_5_method_8_code 10 = .ok (.if_icmp .gt 25, 3) := by decide +kernel
theorem dS_leastBehindSelf_13 : decode prog_5_method_8_code 13 = .ok (.iload 4, 2) := by decide +kernel
theorem dS_leastBehindSelf_15 : decode prog_5_method_8_code 15 = .ok (.aload_n 0, 1) := by decide +kernel
theorem dS_leastBehindSelf_16 : decode prog_5_method_8_code 16 = .ok (.iload_n 1, 1) := by decide +kernel
theorem dS_leastBehindSelf_17 : decode prog_5_method_8_code 17 = .ok (.iload 5, 2) := by decide +kernel
theorem dS_leastBehindSelf_19 : decode prog_5_method_8_code 19 = .ok (.iadd, 1) := by decide +kernel
theorem dS_leastBehindSelf_20 : decode prog_5_method_8_code 20 = .ok (.iload_n 2, 1) := by decide +kernel
theorem dS_leastBehindSelf_21 : decode prog_5_method_8_code 21 = .ok (.invokevirtual 66, 3) := by decide +kernel
theorem dS_leastBehindSelf_24 : decode prog_5_method_8_code 24 = .ok (.invokestatic 43, 3) := by decide +kernel
theorem dS_leastBehindSelf_27 : decode prog_5_method_8_code 27 = .ok (.istore 4, 2) := by decide +kernel
theorem dS_leastBehindSelf_29 : decode prog_5_method_8_code 29 = .ok (.iinc 5 1, 3) := by decide +kernel
theorem dS_leastBehindSelf_32 : decode prog_5_method_8_code 32 = .ok (.goto (-25), 3) := by decide +kernel
theorem dS_leastBehindSelf_35 : decode prog_5_method_8_code 35 = .ok (.iload 4, 2) := by decide +kernel
theorem dS_leastBehindSelf_37 : decode prog_5_method_8_code 37 = .ok (.ireturn, 1) := by decide +kernel
theorem dS_findNext_0 : decode prog_5_method_10_code 0 = .ok (.aload_n 0, 1) := by decide +kernel
theorem dS_findNext_1 : decode prog_5_method_10_code 1 = .ok (.getfield 98, 3) := by decide +kernel
theorem dS_findNext_4 : decode prog_5_method_10_code 4 = .ok (.aload_n 0, 1) := by decide +kernel
theorem dS_findNext_5 : decode prog_5_method_10_code 5 = .ok (.getfield 25, 3) := by decide +kernel
theorem dS_findNext_8 : decode prog_5_method_10_code 8 = .ok (.invokevirtual 37, 3) := by decide +kernel
theorem dS_findNext_11 : decode prog_5_method_10_code 11 = .ok (.if_icmp .lt 5, 3) := by decide +kernel
theorem dS_findNext_14 : decode prog_5_method_10_code 14 = .ok (.iconst 0, 1) := by decide +kernel
theorem dS_findNext_15 : decode prog_5_method_10_code 15 = .ok (.ireturn, 1) := by decide +kernel
theorem dS_findNext_16 : decode prog_5_method_10_code 16 = .ok (.aload_n 0, 1) := by decide +kernel
theorem dS_findNext_17 : decode prog_5_method_10_code 17 = .ok (.aload_n 0, 1) := by decide +kernel
theorem dS_findNext_18 : decode prog_5_method_10_code 18 = .ok (.getfield 101, 3) := by decide +kernel
theorem dS_findNext_21 : decode prog_5_method_10_code 21 = .ok (.putfield 104, 3) := by decide +kernel
theorem dS_findNext_24 : decode prog_5_method_10_code 24 = .ok (.aload_n 0, 1) := by decide +kernel
theorem dS_findNext_25 : decode prog_5_method_10_code 25 = .ok (.aload_n 0, 1) := by decide +kernel
theorem dS_findNext_26 : decode prog_5_method_10_code 26 = .ok (.getfield 98, 3) := by decide +kernel
theorem dS_findNext_29 : decode prog_5_method_10_code 29 = .ok (.aload_n 0, 1) := by decide +kernel
theorem dS_findNext_30 : decode prog_5_method_10_code 30 = .ok (.getfield 101, 3) := by decide +kernel
theorem dS_findNext_33 : decode prog_5_method_10_code 33 = .ok (.invokevirtual 107, 3) := by decide +kernel
theorem dS_findNext_36 : decode prog_5_method_10_code 36 = .ok (.aload_n 0, 1) := by decide +kernel
theorem dS_findNext_37 : decode prog_5_method_10_code 37 = .ok (.dup, 1) := by decide +kernel
theorem dS_findNext_38 : decode prog_5_method_10_code 38 = .ok (.getfield 98, 3) := by decide +kernel
theorem dS_findNext_41 : decode prog_5_method_10_code 41 = .ok (.aload_n 0, 1) := by decide +kernel
theorem dS_findNext_42 : decode prog_5_method_10_code 42 = .ok (.getfield 111, 3) := by decide +kernel
theorem dS_findNext_45 : decode prog_5_method_10_code 45 = .ok (.iadd, 1) := by decide +kernel
theorem dS_findNext_46 : decode prog_5_method_10_code 46 = .ok (.putfield 98, 3) := by decide +kernel
theorem dS_findNext_49 : decode prog_5_method_10_code 49 = .ok (.aload_n 0, 1) := by decide +kernel
theorem dS_findNext_50 : decode prog_5_method_10_code 50 = .ok (.getfield 114, 3) := by decide +kernel
theorem dS_findNext_53 : decode prog_5_method_10_code 53 = .ok (.ifCond .ne 16, 3) := by decide +kernel
theorem dS_findNext_56 : decode prog_5_method_10_code 56 = .ok (.aload_n 0, 1) := by decide +kernel
theorem dS_findNext_57 : decode prog_5_method_10_code 57 = .ok (.aload_n 0, 1) := by decide +kernel
theorem dS_findNext_58 : decode prog_5_method_10_code 58 = .ok (.getfield 117, 3) := by decide +kernel
theorem dS_findNext_61 : decode prog_5_method_10_code 61 = .ok (.aload_n 0, 1) := by decide +kernel
theorem dS_findNext_62 : decode prog_5_method_10_code 62 = .ok (.getfield 111, 3) := by decide +kernel
theorem dS_findNext_65 : decode prog_5_method_10_code 65 = .ok (.iadd, 1) := by decide +kernel
theorem dS_findNext_66 : decode prog_5_method_10_code 66 = .ok (.putfield 101, 3) := by decide +kernel
theorem dS_findNext_69 : decode prog_5_method_10_code 69 = .ok (.aload_n 0, 1) := by decide +kernel
theorem dS_findNext_70 : decode prog_5_method_10_code 70 = .ok (.getfield 111, 3) := by decide +kernel
theorem dS_findNext_73 : decode prog_5_method_10_code 73 = .ok (.ifCond .le 7, 3) := by decide +kernel
theorem dS_findNext_76 : decode prog_5_method_10_code 76 = .ok (.iconst 1, 1) := by decide +kernel
theorem dS_findNext_77 : decode prog_5_method_10_code 77 = .ok (.goto 4, 3) := by decide +kernel
theorem dS_findNext_80 : decode prog_5_method_10_code 80 = .ok (.iconst 0, 1) := by decide +kernel
theorem dS_findNext_81 : decode prog_5_method_10_code 81 = .ok (.ireturn, 1) := by decide +kernel
theorem dS_choose_0 : decode prog_5_method_16_code 0 = .ok (.aload_n 0, 1) := by decide +kernel
theorem dS_choose_1 : decode prog_5_method_16_code 1 = .ok (.iload_n 1, 1) := by decide +kernel
theorem dS_choose_2 : decode prog_5_method_16_code 2 = .ok (.iload_n 2, 1) := by decide +kernel
theorem dS_choose_3 : decode prog_5_method_16_code 3 = .ok (.invokevirtual 66, 3) := by decide +kernel
theorem dS_choose_6 : decode prog_5_method_16_code 6 = .ok (.istore_n 3, 1) := by decide +kernel
theorem dS_choose_7 : decode prog_5_method_16_code 7 = .ok (.aload_n 0, 1) := by decide +kernel
theorem dS_choose_8 : decode prog_5_method_16_code 8 = .ok (.iconst 0, 1) := by decide +kernel
theorem dS_choose_9 : decode prog_5_method_16_code 9 = .ok (.putfield 111, 3) := by decide +kernel
theorem dS_choose_12 : decode prog_5_method_16_code 12 = .ok (.aload_n 0, 1) := by decide +kernel
theorem dS_choose_13 : decode prog_5_method_16_code 13 = .ok (.iload_n 1, 1) := by decide +kernel
theorem dS_choose_14 : decode prog_5_method_16_code 14 = .ok (.iload_n 2, 1) := by decide +kernel
theorem dS_choose_15 : decode prog_5_method_16_code 15 = .ok (.iload_n 3, 1) := by decide +kernel
theorem dS_choose_16 : decode prog_5_method_16_code 16 = .ok (.invokevirtual 125, 3) := by decide +kernel
theorem dS_choose_19 : decode prog_5_method_16_code 19 = .ok (.aload_n 0, 1) := by decide +kernel
theorem dS_choose_20 : decode prog_5_method_16_code 20 = .ok (.getfield 111, 3) := by decide +kernel
theorem dS_choose_23 : decode prog_5_method_16_code 23 = .ok (.ifCond .ne 10, 3) := by decide +kernel
theorem dS_choose_26 : decode prog_5_method_16_code 26 = .ok (.aload_n 0, 1) := by decide +kernel
theorem dS_choose_27 : decode prog_5_method_16_code 27 = .ok (.iload_n 1, 1) := by decide +kernel
theorem dS_choose_28 : decode prog_5_method_16_code 28 = .ok (.iload_n 2, 1) := by decide +kernel
theorem dS_choose_29 : decode prog_5_method_16_code 29 = .ok (.iload_n 3, 1) := by decide +kernel
theorem dS_choose_30 : decode prog_5_method_16_code 30 = .ok (.invokevirtual 129, 3) := by decide +kernel
theorem dS_choose_33 : decode prog_5_method_16_code 33 = .ok (.aload_n 0, 1) := by decide +kernel
theorem dS_choose_34 : decode prog_5_method_16_code 34 = .ok (.getfield 111, 3) := by decide +kernel
theorem dS_choose_37 : decode prog_5_method_16_code 37 = .ok (.ifCond .ne 10, 3) := by decide +kernel
theorem dS_choose_40 : decode prog_5_method_16_code 40 = .ok (.aload_n 0, 1) := by decide +kernel
theorem dS_choose_41 : decode prog_5_method_16_code 41 = .ok (.iload_n 1, 1) := by decide +kernel
theorem dS_choose_42 : decode prog_5_method_16_code 42 = .ok (.iload_n 2, 1) := by decide +kernel
theorem dS_choose_43 : decode prog_5_method_16_code 43 = .ok (.iload_n 3, 1) := by decide +kernel
theorem dS_choose_44 : decode prog_5_method_16_code 44 = .ok (.invokevirtual 132, 3) := by decide +kernel
theorem dS_choose_47 : decode prog_5_method_16_code 47 = .ok (.return_, 1) := by decide +kernel
theorem dS_chooseCopy_0 : decode prog_5_method_17_code 0 = .ok (.iconst 0, 1) := by decide +kernel
theorem dS_chooseCopy_1 : decode prog_5_method_17_code 1 = .ok (.istore 4, 2) := by decide +kernel
theorem dS_chooseCopy_3 : decode prog_5_method_17_code 3 = .ok (.iload 4, 2) := by decide +kernel
theorem dS_chooseCopy_5 : decode prog_5_method_17_code 5 = .ok (.aload_n 0, 1) := by decide +kernel
theorem dS_chooseCopy_6 : decode prog_5_method_17_code 6 = .ok (.getfield 21, 3) := by decide +kernel
theorem dS_chooseCopy_9 : decode prog_5_method_17_code 9 = .ok (.invokevirtual 37, 3) := by decide +kernel
theorem dS_chooseCopy_12 : decode prog_5_method_17_code 12 = .ok (.if_icmp .ge 81, 3) := by decide +kernel
theorem dS_chooseCopy_15 : decode prog_5_method_17_code 15 = .ok (.iload_n 3, 1) := by decide +kernel
theorem dS_chooseCopy_16 : decode prog_5_method_17_code 16 = .ok (.aload_n 0, 1) := by decide +kernel
theorem dS_chooseCopy_17 : decode prog_5_method_17_code 17 = .ok (.getfield 28, 3) := by decide +kernel
theorem dS_chooseCopy_20 : decode prog_5_method_17_code 20 = .ok (.iload 4, 2) := by decide +kernel
theorem dS_chooseCopy_22 : decode prog_5_method_17_code 22 = .ok (.iload_n 2, 1) := by decide +kernel
theorem dS_chooseCopy_23 : decode prog_5_method_17_code 23 = .ok (.invokevirtual 135, 3) := by decide +kernel
theorem dS_chooseCopy_26 : decode prog_5_method_17_code 26 = .ok (.isub, 1) := by decide +kernel
theorem dS_chooseCopy_27 : decode prog_5_method_17_code 27 = .ok (.istore 5, 2) := by decide +kernel
theorem dS_chooseCopy_29 : decode prog_5_method_17_code 29 = .ok (.aload_n 0, 1) := by decide +kernel
theorem dS_chooseCopy_30 : decode prog_5_method_17_code 30 = .ok (.getfield 21, 3) := by decide +kernel
theorem dS_chooseCopy_33 : decode prog_5_method_17_code 33 = .ok (.iload 4, 2) := by decide +kernel
theorem dS_chooseCopy_35 : decode prog_5_method_17_code 35 = .ok (.aload_n 0, 1) := by decide +kernel
theorem dS_chooseCopy_36 : decode prog_5_method_17_code 36 = .ok (.getfield 25, 3) := by decide +kernel
theorem dS_chooseCopy_39 : decode prog_5_method_17_code 39 = .ok (.iload_n 1, 1) := by decide +kernel
theorem dS_chooseCopy_40 : decode prog_5_method_17_code 40 = .ok (.invokevirtual 88, 3) := by decide +kernel
theorem dS_chooseCopy_43 : decode prog_5_method_17_code 43 = .ok (.istore 6, 2) := by decide +kernel
theorem dS_chooseCopy_45 : decode prog_5_method_17_code 45 = .ok (.iload 6, 2) := by decide +kernel
theorem dS_chooseCopy_47 : decode prog_5_method_17_code 47 = .ok (.aload_n 0, 1) := by decide +kernel
theorem dS_chooseCopy_48 : decode prog_5_method_17_code 48 = .ok (.getfield 111, 3) := by decide +kernel
theorem dS_chooseCopy_51 : decode prog_5_method_17_code 51 = .ok (.if_icmp .le 36, 3) := by decide +kernel
theorem dS_chooseCopy_54 : decode prog_5_method_17_code 54 = .ok (.aload_n 0, 1) := by decide +kernel
theorem dS_chooseCopy_55 : decode prog_5_method_17_code 55 = .ok (.iload_n 1, 1) := by decide +kernel
theorem dS_chooseCopy_56 : decode prog_5_method_17_code 56 = .ok (.iload 6, 2) := by decide +kernel
theorem dS_chooseCopy_58 : decode prog_5_method_17_code 58 = .ok (.iadd, 1) := by decide +kernel
theorem dS_chooseCopy_59 : decode prog_5_method_17_code 59 = .ok (.iload 4, 2) := by decide +kernel
theorem dS_chooseCopy_61 : decode prog_5_method_17_code 61 = .ok (.iload 6, 2) := by decide +kernel
theorem dS_chooseCopy_63 : decode prog_5_method_17_code 63 = .ok (.iadd, 1) := by decide +kernel
theorem dS_chooseCopy_64 : decode prog_5_method_17_code 64 = .ok (.invokevirtual 66, 3) := by decide +kernel
theorem dS_chooseCopy_67 : decode prog_5_method_17_code 67 = .ok (.iload 5, 2) := by decide +kernel
theorem dS_chooseCopy_69 : decode prog_5_method_17_code 69 = .ok (.if_icmp .ne 12, 3) := by decide +kernel
theorem dS_chooseCopy_72 : decode prog_5_method_17_code 72 = .ok (.aload_n 0, 1) := by decide +kernel
theorem dS_chooseCopy_73 : decode prog_5_method_17_code 73 = .ok (.iconst 0, 1) := by decide +kernel
theorem dS_chooseCopy_74 : decode prog_5_method_17_code 74 = .ok (.iload 4, 2) := by decide +kernel
theorem dS_chooseCopy_76 : decode prog_5_method_17_code 76 = .ok (.iload 6, 2) := by decide +kernel
theorem dS_chooseCopy_78 : decode prog_5_method_17_code 78 = .ok (.invokevirtual 138, 3) := by decide +kernel
theorem dS_chooseCopy_81 : decode prog_5_method_17_code 81 = .ok (.iinc 6 (-1), 3) := by decide +kernel
theorem dS_chooseCopy_84 : decode prog_5_method_17_code 84 = .ok (.goto (-39), 3) := by decide +kernel
theorem dS_chooseCopy_87 : decode prog_5_method_17_code 87 = .ok (.iinc 4 1, 3) := by decide +kernel
theorem dS_chooseCopy_90 : decode prog_5_method_17_code 90 = .ok (.goto (-87), 3) := by decide +kernel
theorem dS_chooseCopy_93 : decode prog_5_method_17_code 93 = .ok (.return_, 1) := by decide +kernel
theorem dS_keep_0 : decode prog_5_method_20_code 0 = .ok (.aload_n 0, 1) := by decide +kernel
theorem dS_keep_1 : decode prog_5_method_20_code 1 = .ok (.iload_n 1, 1) := by decide +kernel
theorem dS_keep_2 : decode prog_5_method_20_code 2 = .ok (.putfield 114, 3) := by decide +kernel
theorem dS_keep_5 : decode prog_5_method_20_code 5 = .ok (.aload_n 0, 1) := by decide +kernel
theorem dS_keep_6 : decode prog_5_method_20_code 6 = .ok (.iload_n 2, 1) := by decide +kernel
theorem dS_keep_7 : decode prog_5_method_20_code 7 = .ok (.putfield 117, 3) := by decide +kernel
theorem dS_keep_10 : decode prog_5_method_20_code 10 = .ok (.aload_n 0, 1) := by decide +kernel
theorem dS_keep_11 : decode prog_5_method_20_code 11 = .ok (.iload_n 3, 1) := by decide +kernel
theorem dS_keep_12 : decode prog_5_method_20_code 12 = .ok (.putfield 111, 3) := by decide +kernel
theorem dS_keep_15 : decode prog_5_method_20_code 15 = .ok (.return_, 1) := by decide +kernel
theorem dS_chooseSelf_0 : decode prog_5_method_18_code 0 = .ok (.iload_n 3, 1) := by decide +kernel
theorem dS_chooseSelf_1 : decode prog_5_method_18_code 1 = .ok (.aload_n 0, 1) := by decide +kernel
theorem dS_chooseSelf_2 : decode prog_5_method_18_code 2 = .ok (.getfield 28, 3) := by decide +kernel
theorem dS_chooseSelf_5 : decode prog_5_method_18_code 5 = .ok (.invokevirtual 141, 3) := by decide +kernel
theorem dS_chooseSelf_8 : decode prog_5_method_18_code 8 = .ok (.isub, 1) := by decide +kernel
theorem dS_chooseSelf_9 : decode prog_5_method_18_code 9 = .ok (.istore 4, 2) := by decide +kernel
theorem dS_chooseSelf_11 : decode prog_5_method_18_code 11 = .ok (.iconst 0, 1) := by decide +kernel
theorem dS_chooseSelf_12 : decode prog_5_method_18_code 12 = .ok (.istore 5, 2) := by decide +kernel
theorem dS_chooseSelf_14 : decode prog_5_method_18_code 14 = .ok (.iload 5, 2) := by decide +kernel
theorem dS_chooseSelf_16 : decode prog_5_method_18_code 16 = .ok (.iload_n 1, 1) := by decide +kernel
theorem dS_chooseSelf_17 : decode prog_5_method_18_code 17 = .ok (.if_icmp .ge 63, 3) := by decide +kernel
theorem dS_chooseSelf_20 : decode prog_5_method_18_code 20 = .ok (.aload_n 0, 1) := by decide +kernel
theorem dS_chooseSelf_21 : decode prog_5_method_18_code 21 = .ok (.getfield 25, 3) := by decide +kernel
theorem dS_chooseSelf_24 : decode prog_5_method_18_code 24 = .ok (.iload 5, 2) := by decide +kernel
theorem dS_chooseSelf_26 : decode prog_5_method_18_code 26 = .ok (.aload_n 0, 1) := by decide +kernel
theorem dS_chooseSelf_27 : decode prog_5_method_18_code 27 = .ok (.getfield 25, 3) := by decide +kernel
theorem dS_chooseSelf_30 : decode prog_5_method_18_code 30 = .ok (.iload_n 1, 1) := by decide +kernel
theorem dS_chooseSelf_31 : decode prog_5_method_18_code 31 = .ok (.invokevirtual 88, 3) := by decide +kernel
theorem dS_chooseSelf_34 : decode prog_5_method_18_code 34 = .ok (.istore 6, 2) := by decide +kernel
theorem dS_chooseSelf_36 : decode prog_5_method_18_code 36 = .ok (.iload 6, 2) := by decide +kernel
theorem dS_chooseSelf_38 : decode prog_5_method_18_code 38 = .ok (.aload_n 0, 1) := by decide +kernel
theorem dS_chooseSelf_39 : decode prog_5_method_18_code 39 = .ok (.getfield 111, 3) := by decide +kernel
theorem dS_chooseSelf_42 : decode prog_5_method_18_code 42 = .ok (.if_icmp .le 32, 3) := by decide +kernel
theorem dS_chooseSelf_45 : decode prog_5_method_18_code 45 = .ok (.aload_n 0, 1) := by decide +kernel
theorem dS_chooseSelf_46 : decode prog_5_method_18_code 46 = .ok (.iload_n 1, 1) := by decide +kernel
theorem dS_chooseSelf_47 : decode prog_5_method_18_code 47 = .ok (.iload 6, 2) := by decide +kernel
theorem dS_chooseSelf_49 : decode prog_5_method_18_code 49 = .ok (.iadd, 1) := by decide +kernel
theorem dS_chooseSelf_50 : decode prog_5_method_18_code 50 = .ok (.iload_n 2, 1) := by decide +kernel
theorem dS_chooseSelf_51 : decode prog_5_method_18_code 51 = .ok (.invokevirtual 66, 3) := by decide +kernel
theorem dS_chooseSelf_54 : decode prog_5_method_18_code 54 = .ok (.iload 4, 2) := by decide +kernel
theorem dS_chooseSelf_56 : decode prog_5_method_18_code 56 = .ok (.if_icmp .ne 12, 3) := by decide +kernel
theorem dS_chooseSelf_59 : decode prog_5_method_18_code 59 = .ok (.aload_n 0, 1) := by decide +kernel
theorem dS_chooseSelf_60 : decode prog_5_method_18_code 60 = .ok (.iconst 1, 1) := by decide +kernel
theorem dS_chooseSelf_61 : decode prog_5_method_18_code 61 = .ok (.iload 5, 2) := by decide +kernel
theorem dS_chooseSelf_63 : decode prog_5_method_18_code 63 = .ok (.iload 6, 2) := by decide +kernel
theorem dS_chooseSelf_65 : decode prog_5_method_18_code 65 = .ok (.invokevirtual 138, 3) := by decide +kernel
theorem dS_chooseSelf_68 : decode prog_5_method_18_code 68 = .ok (.iinc 6 (-1), 3) := by decide +kernel
theorem dS_chooseSelf_71 : decode prog_5_method_18_code 71 = .ok (.goto (-35), 3) := by decide +kernel
theorem dS_chooseSelf_74 : decode prog_5_method_18_code 74 = .ok (.iinc 5 1, 3) := by decide +kernel
theorem dS_chooseSelf_77 : decode prog_5_method_18_code 77 = .ok (.goto (-63), 3) := by decide +kernel
theorem dS_chooseSelf_80 : decode prog_5_method_18_code 80 = .ok (.return_, 1) := by decide +kernel
theorem dS_chooseLay_0 : decode prog_5_method_19_code 0 = .ok (.aload_n 0, 1) := by decide +kernel
theorem dS_chooseLay_1 : decode prog_5_method_19_code 1 = .ok (.getfield 25, 3) := by decide +kernel
theorem dS_chooseLay_4 : decode prog_5_method_19_code 4 = .ok (.invokevirtual 37, 3) := by decide +kernel
theorem dS_chooseLay_7 : decode prog_5_method_19_code 7 = .ok (.iload_n 1, 1) := by decide +kernel
theorem dS_chooseLay_8 : decode prog_5_method_19_code 8 = .ok (.isub, 1) := by decide +kernel
theorem dS_chooseLay_9 : decode prog_5_method_19_code 9 = .ok (.istore 4, 2) := by decide +kernel
theorem dS_chooseLay_11 : decode prog_5_method_19_code 11 = .ok (.iload 4, 2) := by decide +kernel
theorem dS_chooseLay_13 : decode prog_5_method_19_code 13 = .ok (.aload_n 0, 1) := by decide +kernel
theorem dS_chooseLay_14 : decode prog_5_method_19_code 14 = .ok (.getfield 111, 3) := by decide +kernel
theorem dS_chooseLay_17 : decode prog_5_method_19_code 17 = .ok (.if_icmp .le 40, 3) := by decide +kernel
theorem dS_chooseLay_20 : decode prog_5_method_19_code 20 = .ok (.aload_n 0, 1) := by decide +kernel
theorem dS_chooseLay_21 : decode prog_5_method_19_code 21 = .ok (.iload_n 1, 1) := by decide +kernel
theorem dS_chooseLay_22 : decode prog_5_method_19_code 22 = .ok (.iload 4, 2) := by decide +kernel
theorem dS_chooseLay_24 : decode prog_5_method_19_code 24 = .ok (.iadd, 1) := by decide +kernel
theorem dS_chooseLay_25 : decode prog_5_method_19_code 25 = .ok (.iload_n 2, 1) := by decide +kernel
theorem dS_chooseLay_26 : decode prog_5_method_19_code 26 = .ok (.invokevirtual 66, 3) := by decide +kernel
theorem dS_chooseLay_29 : decode prog_5_method_19_code 29 = .ok (.iload_n 3, 1) := by decide +kernel
theorem dS_chooseLay_30 : decode prog_5_method_19_code 30 = .ok (.aload_n 0, 1) := by decide +kernel
theorem dS_chooseLay_31 : decode prog_5_method_19_code 31 = .ok (.getfield 28, 3) := by decide +kernel
theorem dS_chooseLay_34 : decode prog_5_method_19_code 34 = .ok (.iload 4, 2) := by decide +kernel
theorem dS_chooseLay_36 : decode prog_5_method_19_code 36 = .ok (.invokevirtual 144, 3) := by decide +kernel
theorem dS_chooseLay_39 : decode prog_5_method_19_code 39 = .ok (.isub, 1) := by decide +kernel
theorem dS_chooseLay_40 : decode prog_5_method_19_code 40 = .ok (.if_icmp .ne 11, 3) := by decide +kernel
theorem dS_chooseLay_43 : decode prog_5_method_19_code 43 = .ok (.aload_n 0, 1) := by decide +kernel
theorem dS_chooseLay_44 : decode prog_5_method_19_code 44 = .ok (.iconst 2, 1) := by decide +kernel
theorem dS_chooseLay_45 : decode prog_5_method_19_code 45 = .ok (.iconst (-1), 1) := by decide +kernel
theorem dS_chooseLay_46 : decode prog_5_method_19_code 46 = .ok (.iload 4, 2) := by decide +kernel
theorem dS_chooseLay_48 : decode prog_5_method_19_code 48 = .ok (.invokevirtual 138, 3) := by decide +kernel
theorem dS_chooseLay_51 : decode prog_5_method_19_code 51 = .ok (.iinc 4 (-1), 3) := by decide +kernel
theorem dS_chooseLay_54 : decode prog_5_method_19_code 54 = .ok (.goto (-43), 3) := by decide +kernel
theorem dS_chooseLay_57 : decode prog_5_method_19_code 57 = .ok (.return_, 1) := by decide +kernel
theorem dS_foundKind_0 : decode prog_5_method_11_code 0 = .ok (.aload_n 0, 1) := by decide +kernel
theorem dS_foundKind_1 : decode prog_5_method_11_code 1 = .ok (.getfield 114, 3) := by decide +kernel
theorem dS_foundKind_4 : decode prog_5_method_11_code 4 = .ok (.ireturn, 1) := by decide +kernel
theorem dS_foundPlace_0 : decode prog_5_method_12_code 0 = .ok (.aload_n 0, 1) := by decide +kernel
theorem dS_foundPlace_1 : decode prog_5_method_12_code 1 = .ok (.getfield 117, 3) := by decide +kernel
theorem dS_foundPlace_4 : decode prog_5_method_12_code 4 = .ok (.ireturn, 1) := by decide +kernel
theorem dS_foundCount_0 : decode prog_5_method_13_code 0 = .ok (.aload_n 0, 1) := by decide +kernel
theorem dS_foundCount_1 : decode prog_5_method_13_code 1 = .ok (.getfield 111, 3) := by decide +kernel
theorem dS_foundCount_4 : decode prog_5_method_13_code 4 = .ok (.ireturn, 1) := by decide +kernel
theorem dS_foundAt_0 : decode prog_5_method_14_code 0 = .ok (.aload_n 0, 1) := by decide +kernel
theorem dS_foundAt_1 : decode prog_5_method_14_code 1 = .ok (.getfield 98, 3) := by decide +kernel
theorem dS_foundAt_4 : decode prog_5_method_14_code 4 = .ok (.aload_n 0, 1) := by decide +kernel
theorem dS_foundAt_5 : decode prog_5_method_14_code 5 = .ok (.getfield 111, 3) := by decide +kernel
theorem dS_foundAt_8 : decode prog_5_method_14_code 8 = .ok (.isub, 1) := by decide +kernel
theorem dS_foundAt_9 : decode prog_5_method_14_code 9 = .ok (.ireturn, 1) := by decide +kernel
theorem dS_wayOfFound_0 : decode prog_5_method_15_code 0 = .ok (.aload_n 0, 1) := by decide +kernel
theorem dS_wayOfFound_1 : decode prog_5_method_15_code 1 = .ok (.getfield 114, 3) := by decide +kernel
theorem dS_wayOfFound_4 : decode prog_5_method_15_code 4 = .ok (.ifCond .ne 17, 3) := by decide +kernel
theorem dS_wayOfFound_7 : decode prog_5_method_15_code 7 = .ok (.iconst 1, 1) := by decide +kernel
theorem dS_wayOfFound_8 : decode prog_5_method_15_code 8 = .ok (.aload_n 0, 1) := by decide +kernel
theorem dS_wayOfFound_9 : decode prog_5_method_15_code 9 = .ok (.getfield 117, 3) := by decide +kernel
theorem dS_wayOfFound_12 : decode prog_5_method_15_code 12 = .ok (.aload_n 0, 1) := by decide +kernel
theorem dS_wayOfFound_13 : decode prog_5_method_15_code 13 = .ok (.getfield 104, 3) := by decide +kernel
theorem dS_wayOfFound_16 : decode prog_5_method_15_code 16 = .ok (.invokestatic 120, 3) := by decide +kernel
theorem dS_wayOfFound_19 : decode prog_5_method_15_code 19 = .ok (.iadd, 1) := by decide +kernel
theorem dS_wayOfFound_20 : decode prog_5_method_15_code 20 = .ok (.ireturn, 1) := by decide +kernel
theorem dS_wayOfFound_21 : decode prog_5_method_15_code 21 = .ok (.aload_n 0, 1) := by decide +kernel
theorem dS_wayOfFound_22 : decode prog_5_method_15_code 22 = .ok (.getfield 114, 3) := by decide +kernel
theorem dS_wayOfFound_25 : decode prog_5_method_15_code 25 = .ok (.iconst 1, 1) := by decide +kernel
theorem dS_wayOfFound_26 : decode prog_5_method_15_code 26 = .ok (.if_icmp .ne 7, 3) := by decide +kernel
theorem dS_wayOfFound_29 : decode prog_5_method_15_code 29 = .ok (.iconst 3, 1) := by decide +kernel
theorem dS_wayOfFound_30 : decode prog_5_method_15_code 30 = .ok (.goto 4, 3) := by decide +kernel
theorem dS_wayOfFound_33 : decode prog_5_method_15_code 33 = .ok (.iconst 4, 1) := by decide +kernel
theorem dS_wayOfFound_34 : decode prog_5_method_15_code 34 = .ok (.ireturn, 1) := by decide +kernel
