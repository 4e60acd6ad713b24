theorem dM_write_17 : decode prog_7_method_31_code 17 = .ok (.aload_n 0, 1) := by decide +kernel
theorem dM_write_18 : decode prog_7_method_31_code 18 = .ok (.aload_n 0, 1) := by decide +kernel
theorem dM_write_19 : decode prog_7_method_31_code 19 = .ok (.getfield 59, 3) := by decide +kernel
theorem dM_write_22 : decode prog_7_method_31_code 22 = .ok (.sipush 256, 3) := by decide +kernel
theorem dM_write_25 : decode prog_7_method_31_code 25 = .ok (.irem, 1) := by decide +kernel
theorem dM_write_26 : decode prog_7_method_31_code 26 = .ok (.invokevirtual 120, 3) := by decide +kernel
theorem dM_write_29 : decode prog_7_method_31_code 29 = .ok (.iconst 0, 1) := by decide +kernel
theorem dM_write_30 : decode prog_7_method_31_code 30 = .ok (.istore_n 1, 1) := by decide +kernel
theorem dM_write_31 : decode prog_7_method_31_code 31 = .ok (.iload_n 1, 1) := by decide +kernel
theorem dM_write_32 : decode prog_7_method_31_code 32 = .ok (.aload_n 0, 1) := by decide +kernel
theorem dM_write_33 : decode prog_7_method_31_code 33 = .ok (.getfield 56, 3) := by decide +kernel
theorem dM_write_36 : decode prog_7_method_31_code 36 = .ok (.if_icmp .ge 85, 3) := by decide +kernel
theorem dM_write_39 : decode prog_7_method_31_code 39 = .ok (.aload_n 0, 1) := by decide +kernel
theorem dM_write_40 : decode prog_7_method_31_code 40 = .ok (.bipush 64, 2) := by decide +kernel
theorem dM_write_42 : decode prog_7_method_31_code 42 = .ok (.aload_n 0, 1) := by decide +kernel
theorem dM_write_43 : decode prog_7_method_31_code 43 = .ok (.getfield 16, 3) := by decide +kernel
theorem dM_write_46 : decode prog_7_method_31_code 46 = .ok (.iload_n 1, 1) := by decide +kernel
theorem dM_write_47 : decode prog_7_method_31_code 47 = .ok (.iaload, 1) := by decide +kernel
theorem dM_write_48 : decode prog_7_method_31_code 48 = .ok (.imul, 1) := by decide +kernel
theorem dM_write_49 : decode prog_7_method_31_code 49 = .ok (.aload_n 0, 1) := by decide +kernel
theorem dM_write_50 : decode prog_7_method_31_code 50 = .ok (.getfield 22, 3) := by decide +kernel
theorem dM_write_53 : decode prog_7_method_31_code 53 = .ok (.iload_n 1, 1) := by decide +kernel
theorem dM_write_54 : decode prog_7_method_31_code 54 = .ok (.iaload, 1) := by decide +kernel
theorem dM_write_55 : decode prog_7_method_31_code 55 = .ok (.iadd, 1) := by decide +kernel
theorem dM_write_56 : decode prog_7_method_31_code 56 = .ok (.invokevirtual 120, 3) := by decide +kernel
theorem dM_write_59 : decode prog_7_method_31_code 59 = .ok (.aload_n 0, 1) := by decide +kernel
theorem dM_write_60 : decode prog_7_method_31_code 60 = .ok (.getfield 16, 3) := by decide +kernel
theorem dM_write_63 : decode prog_7_method_31_code 63 = .ok (.iload_n 1, 1) := by decide +kernel
theorem dM_write_64 : decode prog_7_method_31_code 64 = .ok (.iaload, 1) := by decide +kernel
theorem dM_write_65 : decode prog_7_method_31_code 65 = .ok (.iconst 2, 1) := by decide +kernel
theorem dM_write_66 : decode prog_7_method_31_code 66 = .ok (.if_icmp .ne 39, 3) := by decide +kernel
theorem dM_write_69 : decode prog_7_method_31_code 69 = .ok (.iconst 0, 1) := by decide +kernel
theorem dM_write_70 : decode prog_7_method_31_code 70 = .ok (.istore_n 2, 1) := by decide +kernel
theorem dM_write_71 : decode prog_7_method_31_code 71 = .ok (.iload_n 2, 1) := by decide +kernel
theorem dM_write_72 : decode prog_7_method_31_code 72 = .ok (.aload_n 0, 1) := by decide +kernel
theorem dM_write_73 : decode prog_7_method_31_code 73 = .ok (.getfield 22, 3) := by decide +kernel
theorem dM_write_76 : decode prog_7_method_31_code 76 = .ok (.iload_n 1, 1) := by decide +kernel
theorem dM_write_77 : decode prog_7_method_31_code 77 = .ok (.iaload, 1) := by decide +kernel
theorem dM_write_78 : decode prog_7_method_31_code 78 = .ok (.if_icmp .ge 24, 3) := by decide +kernel
theorem dM_write_81 : decode prog_7_method_31_code 81 = .ok (.aload_n 0, 1) := by decide +kernel
theorem dM_write_82 : decode prog_7_method_31_code 82 = .ok (.aload_n 0, 1) := by decide +kernel
theorem dM_write_83 : decode prog_7_method_31_code 83 = .ok (.getfield 25, 3) := by decide +kernel
theorem dM_write_86 : decode prog_7_method_31_code 86 = .ok (.bipush 40, 2) := by decide +kernel
theorem dM_write_88 : decode prog_7_method_31_code 88 = .ok (.iload_n 1, 1) := by decide +kernel
theorem dM_write_89 : decode prog_7_method_31_code 89 = .ok (.imul, 1) := by decide +kernel
theorem dM_write_90 : decode prog_7_method_31_code 90 = .ok (.iload_n 2, 1) := by decide +kernel
theorem dM_write_91 : decode prog_7_method_31_code 91 = .ok (.iadd, 1) := by decide +kernel
theorem dM_write_92 : decode prog_7_method_31_code 92 = .ok (.iaload, 1) := by decide +kernel
theorem dM_write_93 : decode prog_7_method_31_code 93 = .ok (.invokevirtual 120, 3) := by decide +kernel
theorem dM_write_96 : decode prog_7_method_31_code 96 = .ok (.iinc 2 1, 3) := by decide +kernel
theorem dM_write_99 : decode prog_7_method_31_code 99 = .ok (.goto (-28), 3) := by decide +kernel
theorem dM_write_102 : decode prog_7_method_31_code 102 = .ok (.goto 13, 3) := by decide +kernel
theorem dM_write_105 : decode prog_7_method_31_code 105 = .ok (.aload_n 0, 1) := by decide +kernel
theorem dM_write_106 : decode prog_7_method_31_code 106 = .ok (.aload_n 0, 1) := by decide +kernel
theorem dM_write_107 : decode prog_7_method_31_code 107 = .ok (.getfield 19, 3) := by decide +kernel
theorem dM_write_110 : decode prog_7_method_31_code 110 = .ok (.iload_n 1, 1) := by decide +kernel
theorem dM_write_111 : decode prog_7_method_31_code 111 = .ok (.iaload, 1) := by decide +kernel
theorem dM_write_112 : decode prog_7_method_31_code 112 = .ok (.invokevirtual 120, 3) := by decide +kernel
theorem dM_write_115 : decode prog_7_method_31_code 115 = .ok (.iinc 1 1, 3) := by decide +kernel
theorem dM_write_118 : decode prog_7_method_31_code 118 = .ok (.goto (-87), 3) := by decide +kernel
theorem dM_write_121 : decode prog_7_method_31_code 121 = .ok (.aload_n 0, 1) := by decide +kernel
theorem dM_write_122 : decode prog_7_method_31_code 122 = .ok (.getfield 62, 3) := by decide +kernel
theorem dM_write_125 : decode prog_7_method_31_code 125 = .ok (.ireturn, 1) := by decide +kernel
theorem dM_code1_0 : decode prog_7_method_30_code 0 = .ok (.aload_n 0, 1) := by decide +kernel
theorem dM_code1_1 : decode prog_7_method_30_code 1 = .ok (.getfield 28, 3) := by decide +kernel
theorem dM_code1_4 : decode prog_7_method_30_code 4 = .ok (.aload_n 0, 1) := by decide +kernel
theorem dM_code1_5 : decode prog_7_method_30_code 5 = .ok (.getfield 62, 3) := by decide +kernel
theorem dM_code1_8 : decode prog_7_method_30_code 8 = .ok (.iload_n 1, 1) := by decide +kernel
theorem dM_code1_9 : decode prog_7_method_30_code 9 = .ok (.iastore, 1) := by decide +kernel
theorem dM_code1_10 : decode prog_7_method_30_code 10 = .ok (.aload_n 0, 1) := by decide +kernel
theorem dM_code1_11 : decode prog_7_method_30_code 11 = .ok (.dup, 1) := by decide +kernel
theorem dM_code1_12 : decode prog_7_method_30_code 12 = .ok (.getfield 62, 3) := by decide +kernel
theorem dM_code1_15 : decode prog_7_method_30_code 15 = .ok (.iconst 1, 1) := by decide +kernel
theorem dM_code1_16 : decode prog_7_method_30_code 16 = .ok (.iadd, 1) := by decide +kernel
theorem dM_code1_17 : decode prog_7_method_30_code 17 = .ok (.putfield 62, 3) := by decide +kernel
theorem dM_code1_20 : decode prog_7_method_30_code 20 = .ok (.return_, 1) := by decide +kernel
theorem dM_code_0 : decode prog_7_method_32_code 0 = .ok (.iload_n 1, 1) := by decide +kernel
theorem dM_code_1 : decode prog_7_method_32_code 1 = .ok (.iconst 0, 1) := by decide +kernel
theorem dM_code_2 : decode prog_7_method_32_code 2 = .ok (.aload_n 0, 1) := by decide +kernel
theorem dM_code_3 : decode prog_7_method_32_code 3 = .ok (.getfield 62, 3) := by decide +kernel
theorem dM_code_6 : decode prog_7_method_32_code 6 = .ok (.iconst 1, 1) := by decide +kernel
theorem dM_code_7 : decode prog_7_method_32_code 7 = .ok (.isub, 1) := by decide +kernel
theorem dM_code_8 : decode prog_7_method_32_code 8 = .ok (.invokestatic 77, 3) := by decide +kernel
theorem dM_code_11 : decode prog_7_method_32_code 11 = .ok (.ifCond .eq 12, 3) := by decide +kernel
theorem dM_code_14 : decode prog_7_method_32_code 14 = .ok (.aload_n 0, 1) := by decide +kernel
theorem dM_code_15 : decode prog_7_method_32_code 15 = .ok (.getfield 28, 3) := by decide +kernel
theorem dM_code_18 : decode prog_7_method_32_code 18 = .ok (.iload_n 1, 1) := by decide +kernel
theorem dM_code_19 : decode prog_7_method_32_code 19 = .ok (.iaload, 1) := by decide +kernel
theorem dM_code_20 : decode prog_7_method_32_code 20 = .ok (.goto 4, 3) := by decide +kernel
theorem dM_code_23 : decode prog_7_method_32_code 23 = .ok (.iconst (-1), 1) := by decide +kernel
theorem dM_code_24 : decode prog_7_method_32_code 24 = .ok (.ireturn, 1) := by decide +kernel
theorem dM_poke_0 : decode prog_7_method_33_code 0 = .ok (.iload_n 1, 1) := by decide +kernel
theorem dM_poke_1 : decode prog_7_method_33_code 1 = .ok (.iconst 0, 1) := by decide +kernel
theorem dM_poke_2 : decode prog_7_method_33_code 2 = .ok (.aload_n 0, 1) := by decide +kernel
theorem dM_poke_3 : decode prog_7_method_33_code 3 = .ok (.getfield 62, 3) := by decide +kernel
theorem dM_poke_6 : decode prog_7_method_33_code 6 = .ok (.iconst 1, 1) := by decide +kernel
theorem dM_poke_7 : decode prog_7_method_33_code 7 = .ok (.isub, 1) := by decide +kernel
theorem dM_poke_8 : decode prog_7_method_33_code 8 = .ok (.invokestatic 77, 3) := by decide +kernel
theorem dM_poke_11 : decode prog_7_method_33_code 11 = .ok (.ifCond .eq 14, 3) := by decide +kernel
theorem dM_poke_14 : decode prog_7_method_33_code 14 = .ok (.iload_n 2, 1) := by decide +kernel
theorem dM_poke_15 : decode prog_7_method_33_code 15 = .ok (.iconst 0, 1) := by decide +kernel
theorem dM_poke_16 : decode prog_7_method_33_code 16 = .ok (.sipush 255, 3) := by decide +kernel
theorem dM_poke_19 : decode prog_7_method_33_code 19 = .ok (.invokestatic 77, 3) := by decide +kernel
theorem dM_poke_22 : decode prog_7_method_33_code 22 = .ok (.ifCond .ne 6, 3) := by decide +kernel
theorem dM_poke_25 : decode prog_7_method_33_code 25 = .ok (.bipush (-2), 2) := by decide +kernel
theorem dM_poke_27 : decode prog_7_method_33_code 27 = .ok (.ireturn, 1) := by decide +kernel
theorem dM_poke_28 : decode prog_7_method_33_code 28 = .ok (.aload_n 0, 1) := by decide +kernel
theorem dM_poke_29 : decode prog_7_method_33_code 29 = .ok (.getfield 28, 3) := by decide +kernel
theorem dM_poke_32 : decode prog_7_method_33_code 32 = .ok (.iload_n 1, 1) := by decide +kernel
theorem dM_poke_33 : decode prog_7_method_33_code 33 = .ok (.iaload, 1) := by decide +kernel
theorem dM_poke_34 : decode prog_7_method_33_code 34 = .ok (.istore_n 3, 1) := by decide +kernel
theorem dM_poke_35 : decode prog_7_method_33_code 35 = .ok (.aload_n 0, 1) := by decide +kernel
theorem dM_poke_36 : decode prog_7_method_33_code 36 = .ok (.getfield 28, 3) := by decide +kernel
theorem dM_poke_39 : decode prog_7_method_33_code 39 = .ok (.iload_n 1, 1) := by decide +kernel
theorem dM_poke_40 : decode prog_7_method_33_code 40 = .ok (.iload_n 2, 1) := by decide +kernel
theorem dM_poke_41 : decode prog_7_method_33_code 41 = .ok (.iastore, 1) := by decide +kernel
theorem dM_poke_42 : decode prog_7_method_33_code 42 = .ok (.iload_n 3, 1) := by decide +kernel
theorem dM_poke_43 : decode prog_7_method_33_code 43 = .ok (.ireturn, 1) := by decide +kernel
theorem dM_shorten_0 : decode prog_7_method_34_code 0 = .ok (.iload_n 1, 1) := by decide +kernel
theorem dM_shorten_1 : decode prog_7_method_34_code 1 = .ok (.iconst 0, 1) := by decide +kernel
theorem dM_shorten_2 : decode prog_7_method_34_code 2 = .ok (.aload_n 0, 1) := by decide +kernel
theorem dM_shorten_3 : decode prog_7_method_34_code 3 = .ok (.getfield 62, 3) := by decide +kernel
theorem dM_shorten_6 : decode prog_7_method_34_code 6 = .ok (.invokestatic 77, 3) := by decide +kernel
theorem dM_shorten_9 : decode prog_7_method_34_code 9 = .ok (.ifCond .ne 6, 3) := by decide +kernel
theorem dM_shorten_12 : decode prog_7_method_34_code 12 = .ok (.bipush (-2), 2) := by decide +kernel
theorem dM_shorten_14 : decode prog_7_method_34_code 14 = .ok (.ireturn, 1) := by decide +kernel
theorem dM_shorten_15 : decode prog_7_method_34_code 15 = .ok (.aload_n 0, 1) := by decide +kernel
theorem dM_shorten_16 : decode prog_7_method_34_code 16 = .ok (.dup, 1) := by decide +kernel
theorem dM_shorten_17 : decode prog_7_method_34_code 17 = .ok (.getfield 62, 3) := by decide +kernel
theorem dM_shorten_20 : decode prog_7_method_34_code 20 = .ok (.iload_n 1, 1) := by decide +kernel
theorem dM_shorten_21 : decode prog_7_method_34_code 21 = .ok (.isub, 1) := by decide +kernel
theorem dM_shorten_22 : decode prog_7_method_34_code 22 = .ok (.putfield 62, 3) := by decide +kernel
theorem dM_shorten_25 : decode prog_7_method_34_code 25 = .ok (.aload_n 0, 1) := by decide +kernel
theorem dM_shorten_26 : decode prog_7_method_34_code 26 = .ok (.getfield 62, 3) := by decide +kernel
theorem dM_shorten_29 : decode prog_7_method_34_code 29 = .ok (.ireturn, 1) := by decide +kernel
theorem dM_read_0 : decode prog_7_method_36_code 0 = .ok (.aload_n 0, 1) := by decide +kernel
theorem dM_read_1 : decode prog_7_method_36_code 1 = .ok (.invokevirtual 124, 3) := by decide +kernel
theorem dM_read_4 : decode prog_7_method_36_code 4 = .ok (.istore_n 1, 1) := by decide +kernel
theorem dM_read_5 : decode prog_7_method_36_code 5 = .ok (.iload_n 1, 1) := by decide +kernel
theorem dM_read_6 : decode prog_7_method_36_code 6 = .ok (.iconst (-1), 1) := by decide +kernel
theorem dM_read_7 : decode prog_7_method_36_code 7 = .ok (.if_icmp .eq 9, 3) := by decide +kernel
theorem dM_read_10 : decode prog_7_method_36_code 10 = .ok (.sipush (-1000), 3) := by decide +kernel
theorem dM_read_13 : decode prog_7_method_36_code 13 = .ok (.iload_n 1, 1) := by decide +kernel
theorem dM_read_14 : decode prog_7_method_36_code 14 = .ok (.isub, 1) := by decide +kernel
theorem dM_read_15 : decode prog_7_method_36_code 15 = .ok (.ireturn, 1) := by decide +kernel
theorem dM_read_16 : decode prog_7_method_36_code 16 = .ok (.aload_n 0, 1) := by decide +kernel
theorem dM_read_17 : decode prog_7_method_36_code 17 = .ok (.sipush 256, 3) := by decide +kernel
theorem dM_read_20 : decode prog_7_method_36_code 20 = .ok (.aload_n 0, 1) := by decide +kernel
theorem dM_read_21 : decode prog_7_method_36_code 21 = .ok (.getfield 28, 3) := by decide +kernel
theorem dM_read_24 : decode prog_7_method_36_code 24 = .ok (.iconst 0, 1) := by decide +kernel
theorem dM_read_25 : decode prog_7_method_36_code 25 = .ok (.iaload, 1) := by decide +kernel
theorem dM_read_26 : decode prog_7_method_36_code 26 = .ok (.imul, 1) := by decide +kernel
theorem dM_read_27 : decode prog_7_method_36_code 27 = .ok (.aload_n 0, 1) := by decide +kernel
theorem dM_read_28 : decode prog_7_method_36_code 28 = .ok (.getfield 28, 3) := by decide +kernel
theorem dM_read_31 : decode prog_7_method_36_code 31 = .ok (.iconst 1, 1) := by decide +kernel
theorem dM_read_32 : decode prog_7_method_36_code 32 = .ok (.iaload, 1) := by decide +kernel
theorem dM_read_33 : decode prog_7_method_36_code 33 = .ok (.iadd, 1) := by decide +kernel
theorem dM_read_34 : decode prog_7_method_36_code 34 = .ok (.putfield 59, 3) := by decide +kernel
theorem dM_read_37 : decode prog_7_method_36_code 37 = .ok (.aload_n 0, 1) := by decide +kernel
theorem dM_read_38 : decode prog_7_method_36_code 38 = .ok (.iconst 0, 1) := by decide +kernel
theorem dM_read_39 : decode prog_7_method_36_code 39 = .ok (.putfield 56, 3) := by decide +kernel
theorem dM_read_42 : decode prog_7_method_36_code 42 = .ok (.iconst 2, 1) := by decide +kernel
theorem dM_read_43 : decode prog_7_method_36_code 43 = .ok (.istore_n 2, 1) := by decide +kernel
theorem dM_read_44 : decode prog_7_method_36_code 44 = .ok (.iload_n 2, 1) := by decide +kernel
theorem dM_read_45 : decode prog_7_method_36_code 45 = .ok (.aload_n 0, 1) := by decide +kernel
theorem dM_read_46 : decode prog_7_method_36_code 46 = .ok (.getfield 62, 3) := by decide +kernel
theorem dM_read_49 : decode prog_7_method_36_code 49 = .ok (.if_icmp .ge 147, 3) := by decide +kernel
theorem dM_read_52 : decode prog_7_method_36_code 52 = .ok (.aload_n 0, 1) := by decide +kernel
theorem dM_read_53 : decode prog_7_method_36_code 53 = .ok (.getfield 28, 3) := by decide +kernel
theorem dM_read_56 : decode prog_7_method_36_code 56 = .ok (.iload_n 2, 1) := by decide +kernel
theorem dM_read_57 : decode prog_7_method_36_code 57 = .ok (.iaload, 1) := by decide +kernel
theorem dM_read_58 : decode prog_7_method_36_code 58 = .ok (.bipush 64, 2) := by decide +kernel
theorem dM_read_60 : decode prog_7_method_36_code 60 = .ok (.idiv, 1) := by decide +kernel
theorem dM_read_61 : decode prog_7_method_36_code 61 = .ok (.istore_n 3, 1) := by decide +kernel
theorem dM_read_62 : decode prog_7_method_36_code 62 = .ok (.aload_n 0, 1) := by decide +kernel
theorem dM_read_63 : decode prog_7_method_36_code 63 = .ok (.getfield 28, 3) := by decide +kernel
theorem dM_read_66 : decode prog_7_method_36_code 66 = .ok (.iload_n 2, 1) := by decide +kernel
theorem dM_read_67 : decode prog_7_method_36_code 67 = .ok (.iaload, 1) := by decide +kernel
theorem dM_read_68 : decode prog_7_method_36_code 68 = .ok (.bipush 64, 2) := by decide +kernel
theorem dM_read_70 : decode prog_7_method_36_code 70 = .ok (.irem, 1) := by decide +kernel
theorem dM_read_71 : decode prog_7_method_36_code 71 = .ok (.istore 4, 2) := by decide +kernel
theorem dM_read_73 : decode prog_7_method_36_code 73 = .ok (.aload_n 0, 1) := by decide +kernel
theorem dM_read_74 : decode prog_7_method_36_code 74 = .ok (.getfield 16, 3) := by decide +kernel
theorem dM_read_77 : decode prog_7_method_36_code 77 = .ok (.aload_n 0, 1) := by decide +kernel
theorem dM_read_78 : decode prog_7_method_36_code 78 = .ok (.getfield 56, 3) := by decide +kernel
theorem dM_read_81 : decode prog_7_method_36_code 81 = .ok (.iload_n 3, 1) := by decide +kernel
theorem dM_read_82 : decode prog_7_method_36_code 82 = .ok (.iastore, 1) := by decide +kernel
theorem dM_read_83 : decode prog_7_method_36_code 83 = .ok (.aload_n 0, 1) := by decide +kernel
theorem dM_read_84 : decode prog_7_method_36_code 84 = .ok (.getfield 22, 3) := by decide +kernel
theorem dM_read_87 : decode prog_7_method_36_code 87 = .ok (.aload_n 0, 1) := by decide +kernel
theorem dM_read_88 : decode prog_7_method_36_code 88 = .ok (.getfield 56, 3) := by decide +kernel
theorem dM_read_91 : decode prog_7_method_36_code 91 = .ok (.iload 4, 2) := by decide +kernel
theorem dM_read_93 : decode prog_7_method_36_code 93 = .ok (.iastore, 1) := by decide +kernel
theorem dM_read_94 : decode prog_7_method_36_code 94 = .ok (.aload_n 0, 1) := by decide +kernel
theorem dM_read_95 : decode prog_7_method_36_code 95 = .ok (.getfield 19, 3) := by decide +kernel
theorem dM_read_98 : decode prog_7_method_36_code 98 = .ok (.aload_n 0, 1) := by decide +kernel
theorem dM_read_99 : decode prog_7_method_36_code 99 = .ok (.getfield 56, 3) := by decide +kernel
theorem dM_read_102 : decode prog_7_method_36_code 102 = .ok (.iload_n 3, 1) := by decide +kernel
theorem dM_read_103 : decode prog_7_method_36_code 103 = .ok (.iconst 2, 1) := by decide +kernel
theorem dM_read_104 : decode prog_7_method_36_code 104 = .ok (.if_icmp .ne 7, 3) := by decide +kernel
theorem dM_read_107 : decode prog_7_method_36_code 107 = .ok (.iconst 0, 1) := by decide +kernel
theorem dM_read_108 : decode prog_7_method_36_code 108 = .ok (.goto 11, 3) := by decide +kernel
theorem dM_read_111 : decode prog_7_method_36_code 111 = .ok (.aload_n 0, 1) := by decide +kernel
theorem dM_read_112 : decode prog_7_method_36_code 112 = .ok (.getfield 28, 3) := by decide +kernel
theorem dM_read_115 : decode prog_7_method_36_code 115 = .ok (.iload_n 2, 1) := by decide +kernel
theorem dM_read_116 : decode prog_7_method_36_code 116 = .ok (.iconst 1, 1) := by decide +kernel
theorem dM_read_117 : decode prog_7_method_36_code 117 = .ok (.iadd, 1) := by decide +kernel
theorem dM_read_118 : decode prog_7_method_36_code 118 = .ok (.iaload, 1) := by decide +kernel
theorem dM_read_119 : decode prog_7_method_36_code 119 = .ok (.iastore, 1) := by decide +kernel
theorem dM_read_120 : decode prog_7_method_36_code 120 = .ok (.iconst 0, 1) := by decide +kernel
theorem dM_read_121 : decode prog_7_method_36_code 121 = .ok (.istore 5, 2) := by decide +kernel
theorem dM_read_123 : decode prog_7_method_36_code 123 = .ok (.iload 5, 2) := by decide +kernel
theorem dM_read_125 : decode prog_7_method_36_code 125 = .ok (.iload 4, 2) := by decide +kernel
theorem dM_read_127 : decode prog_7_method_36_code 127 = .ok (.if_icmp .ge 40, 3) := by decide +kernel
theorem dM_read_130 : decode prog_7_method_36_code 130 = .ok (.iload_n 3, 1) := by decide +kernel
theorem dM_read_131 : decode prog_7_method_36_code 131 = .ok (.iconst 2, 1) := by decide +kernel
theorem dM_read_132 : decode prog_7_method_36_code 132 = .ok (.if_icmp .ne 35, 3) := by decide +kernel
theorem dM_read_135 : decode prog_7_method_36_code 135 = .ok (.aload_n 0, 1) := by decide +kernel
theorem dM_read_136 : decode prog_7_method_36_code 136 = .ok (.getfield 25, 3) := by decide +kernel
theorem dM_read_139 : decode prog_7_method_36_code 139 = .ok (.bipush 40, 2) := by decide +kernel
theorem dM_read_141 : decode prog_7_method_36_code 141 = .ok (.aload_n 0, 1) := by decide +kernel
theorem dM_read_142 : decode prog_7_method_36_code 142 = .ok (.getfield 56, 3) := by decide +kernel
theorem dM_read_145 : decode prog_7_method_36_code 145 = .ok (.imul, 1) := by decide +kernel
theorem dM_read_146 : decode prog_7_method_36_code 146 = .ok (.iload 5, 2) := by decide +kernel
theorem dM_read_148 : decode prog_7_method_36_code 148 = .ok (.iadd, 1) := by decide +kernel
theorem dM_read_149 : decode prog_7_method_36_code 149 = .ok (.aload_n 0, 1) := by decide +kernel
theorem dM_read_150 : decode prog_7_method_36_code 150 = .ok (.getfield 28, 3) := by decide +kernel
theorem dM_read_153 : decode prog_7_method_36_code 153 = .ok (.iload_n 2, 1) := by decide +kernel
theorem dM_read_154 : decode prog_7_method_36_code 154 = .ok (.iconst 1, 1) := by decide +kernel
theorem dM_read_155 : decode prog_7_method_36_code 155 = .ok (.iadd, 1) := by decide +kernel
theorem dM_read_156 : decode prog_7_method_36_code 156 = .ok (.iload 5, 2) := by decide +kernel
theorem dM_read_158 : decode prog_7_method_36_code 158 = .ok (.iadd, 1) := by decide +kernel
theorem dM_read_159 : decode prog_7_method_36_code 159 = .ok (.iaload, 1) := by decide +kernel
theorem dM_read_160 : decode prog_7_method_36_code 160 = .ok (.iastore, 1) := by decide +kernel
theorem dM_read_161 : decode prog_7_method_36_code 161 = .ok (.iinc 5 1, 3) := by decide +kernel
theorem dM_read_164 : decode prog_7_method_36_code 164 = .ok (.goto (-41), 3) := by decide +kernel
theorem dM_read_167 : decode prog_7_method_36_code 167 = .ok (.iload_n 2, 1) := by decide +kernel
theorem dM_read_168 : decode prog_7_method_36_code 168 = .ok (.iconst 1, 1) := by decide +kernel
theorem dM_read_169 : decode prog_7_method_36_code 169 = .ok (.iload_n 3, 1) := by decide +kernel
theorem dM_read_170 : decode prog_7_method_36_code 170 = .ok (.iconst 2, 1) := by decide +kernel
theorem dM_read_171 : decode prog_7_method_36_code 171 = .ok (.if_icmp .ne 8, 3) := by decide +kernel
theorem dM_read_174 : decode prog_7_method_36_code 174 = .ok (.iload 4, 2) := by decide +kernel
theorem dM_read_176 : decode prog_7_method_36_code 176 = .ok (.goto 4, 3) := by decide +kernel
theorem dM_read_179 : decode prog_7_method_36_code 179 = .ok (.iconst 1, 1) := by decide +kernel
theorem dM_read_180 : decode prog_7_method_36_code 180 = .ok (.iadd, 1) := by decide +kernel
theorem dM_read_181 : decode prog_7_method_36_code 181 = .ok (.iadd, 1) := by decide +kernel
theorem dM_read_182 : decode prog_7_method_36_code 182 = .ok (.istore_n 2, 1) := by decide +kernel
theorem dM_read_183 : decode prog_7_method_36_code 183 = .ok (.aload_n 0, 1) := by decide +kernel
theorem dM_read_184 : decode prog_7_method_36_code 184 = .ok (.dup, 1) := by decide +kernel
theorem dM_read_185 : decode prog_7_method_36_code 185 = .ok (.getfield 56, 3) := by decide +kernel
theorem dM_read_188 : decode prog_7_method_36_code 188 = .ok (.iconst 1, 1) := by decide +kernel
theorem dM_read_189 : decode prog_7_method_36_code 189 = .ok (.iadd, 1) := by decide +kernel
theorem dM_read_190 : decode prog_7_method_36_code 190 = .ok (.putfield 56, 3) := by decide +kernel
theorem dM_read_193 : decode prog_7_method_36_code 193 = .ok (.goto (-149), 3) := by decide +kernel
theorem dM_read_196 : decode prog_7_method_36_code 196 = .ok (.aload_n 0, 1) := by decide +kernel
theorem dM_read_197 : decode prog_7_method_36_code 197 = .ok (.getfield 56, 3) := by decide +kernel
theorem dM_read_200 : decode prog_7_method_36_code 200 = .ok (.ireturn, 1) := by decide +kernel
theorem dM_faultOf_0 : decode prog_7_method_35_code 0 = .ok (.aload_n 0, 1) := by decide +kernel
theorem dM_faultOf_1 : decode prog_7_method_35_code 1 = .ok (.getfield 62, 3) := by decide +kernel
theorem dM_faultOf_4 : decode prog_7_method_35_code 4 = .ok (.iconst 2, 1) := by decide +kernel
theorem dM_faultOf_5 : decode prog_7_method_35_code 5 = .ok (.if_icmp .ge 8, 3) := by decide +kernel
theorem dM_faultOf_8 : decode prog_7_method_35_code 8 = .ok (.aload_n 0, 1) := by decide +kernel
theorem dM_faultOf_9 : decode prog_7_method_35_code 9 = .ok (.getfield 62, 3) := by decide +kernel
theorem dM_faultOf_12 : decode prog_7_method_35_code 12 = .ok (.ireturn, 1) := by decide +kernel
theorem dM_faultOf_13 : decode prog_7_method_35_code 13 = .ok (.iconst 2, 1) := by decide +kernel
theorem dM_faultOf_14 : decode prog_7_method_35_code 14 = .ok (.istore_n 1, 1) := by decide +kernel
theorem dM_faultOf_15 : decode prog_7_method_35_code 15 = .ok (.iconst 0, 1) := by decide +kernel
theorem dM_faultOf_16 : decode prog_7_method_35_code 16 = .ok (.istore_n 2, 1) := by decide +kernel
theorem dM_faultOf_17 : decode prog_7_method_35_code 17 = .ok (.iload_n 1, 1) := by decide +kernel
theorem dM_faultOf_18 : decode prog_7_method_35_code 18 = .ok (.aload_n 0, 1) := by decide +kernel
theorem dM_faultOf_19 : decode prog_7_method_35_code 19 = .ok (.getfield 62, 3) := by decide +kernel
theorem dM_faultOf_22 : decode prog_7_method_35_code 22 = .ok (.if_icmp .ge 111, 3) := by decide +kernel
theorem dM_faultOf_25 : decode prog_7_method_35_code 25 = .ok (.aload_n 0, 1) := by decide +kernel
theorem dM_faultOf_26 : decode prog_7_method_35_code 26 = .ok (.getfield 28, 3) := by decide +kernel
theorem dM_faultOf_29 : decode prog_7_method_35_code 29 = .ok (.iload_n 1, 1) := by decide +kernel
theorem dM_faultOf_30 : decode prog_7_method_35_code 30 = .ok (.iaload, 1) := by decide +kernel
theorem dM_faultOf_31 : decode prog_7_method_35_code 31 = .ok (.bipush 64, 2) := by decide +kernel
theorem dM_faultOf_33 : decode prog_7_method_35_code 33 = .ok (.idiv, 1) := by decide +kernel
theorem dM_faultOf_34 : decode prog_7_method_35_code 34 = .ok (.istore_n 3, 1) := by decide +kernel
theorem dM_faultOf_35 : decode prog_7_method_35_code 35 = .ok (.aload_n 0, 1) := by decide +kernel
theorem dM_faultOf_36 : decode prog_7_method_35_code 36 = .ok (.getfield 28, 3) := by decide +kernel
theorem dM_faultOf_39 : decode prog_7_method_35_code 39 = .ok (.iload_n 1, 1) := by decide +kernel
theorem dM_faultOf_40 : decode prog_7_method_35_code 40 = .ok (.iaload, 1) := by decide +kernel
theorem dM_faultOf_41 : decode prog_7_method_35_code 41 = .ok (.bipush 64, 2) := by decide +kernel
theorem dM_faultOf_43 : decode prog_7_method_35_code 43 = .ok (.irem, 1) := by decide +kernel
theorem dM_faultOf_44 : decode prog_7_method_35_code 44 = .ok (.istore 4, 2) := by decide +kernel
theorem dM_faultOf_46 : decode prog_7_method_35_code 46 = .ok (.iload_n 2, 1) := by decide +kernel
theorem dM_faultOf_47 : decode prog_7_method_35_code 47 = .ok (.bipush 100, 2) := by decide +kernel
theorem dM_faultOf_49 : decode prog_7_method_35_code 49 = .ok (.if_icmp .eq 20, 3) := by decide +kernel
theorem dM_faultOf_52 : decode prog_7_method_35_code 52 = .ok (.iload_n 3, 1) := by decide +kernel
theorem dM_faultOf_53 : decode prog_7_method_35_code 53 = .ok (.iconst 2, 1) := by decide +kernel
theorem dM_faultOf_54 : decode prog_7_method_35_code 54 = .ok (.if_icmp .gt 15, 3) := by decide +kernel
theorem dM_faultOf_57 : decode prog_7_method_35_code 57 = .ok (.iload 4, 2) := by decide +kernel
theorem dM_faultOf_59 : decode prog_7_method_35_code 59 = .ok (.ifCond .eq 10, 3) := by decide +kernel
theorem dM_faultOf_62 : decode prog_7_method_35_code 62 = .ok (.iload 4, 2) := by decide +kernel
theorem dM_faultOf_64 : decode prog_7_method_35_code 64 = .ok (.bipush 40, 2) := by decide +kernel
theorem dM_faultOf_66 : decode prog_7_method_35_code 66 = .ok (.if_icmp .le 5, 3) := by decide +kernel
theorem dM_faultOf_69 : decode prog_7_method_35_code 69 = .ok (.iload_n 1, 1) := by decide +kernel
theorem dM_faultOf_70 : decode prog_7_method_35_code 70 = .ok (.ireturn, 1) := by decide +kernel
theorem dM_faultOf_71 : decode prog_7_method_35_code 71 = .ok (.iload_n 1, 1) := by decide +kernel
theorem dM_faultOf_72 : decode prog_7_method_35_code 72 = .ok (.iconst 1, 1) := by decide +kernel
theorem dM_faultOf_73 : decode prog_7_method_35_code 73 = .ok (.iadd, 1) := by decide +kernel
theorem dM_faultOf_74 : decode prog_7_method_35_code 74 = .ok (.iload_n 3, 1) := by decide +kernel
theorem dM_faultOf_75 : decode prog_7_method_35_code 75 = .ok (.iconst 2, 1) := by decide +kernel
theorem dM_faultOf_76 : decode prog_7_method_35_code 76 = .ok (.if_icmp .ne 8, 3) := by decide +kernel
theorem dM_faultOf_79 : decode prog_7_method_35_code 79 = .ok (.iload 4, 2) := by decide +kernel
theorem dM_faultOf_81 : decode prog_7_method_35_code 81 = .ok (.goto 4, 3) := by decide +kernel
theorem dM_faultOf_84 : decode prog_7_method_35_code 84 = .ok (.iconst 1, 1) := by decide +kernel
theorem dM_faultOf_85 : decode prog_7_method_35_code 85 = .ok (.iadd, 1) := by decide +kernel
theorem dM_faultOf_86 : decode prog_7_method_35_code 86 = .ok (.istore 5, 2) := by decide +kernel
theorem dM_faultOf_88 : decode prog_7_method_35_code 88 = .ok (.iload 5, 2) := by decide +kernel
theorem dM_faultOf_90 : decode prog_7_method_35_code 90 = .ok (.aload_n 0, 1) := by decide +kernel
theorem dM_faultOf_91 : decode prog_7_method_35_code 91 = .ok (.getfield 62, 3) := by decide +kernel
theorem dM_faultOf_94 : decode prog_7_method_35_code 94 = .ok (.if_icmp .le 8, 3) := by decide +kernel
theorem dM_faultOf_97 : decode prog_7_method_35_code 97 = .ok (.aload_n 0, 1) := by decide +kernel
theorem dM_faultOf_98 : decode prog_7_method_35_code 98 = .ok (.getfield 62, 3) := by decide +kernel
theorem dM_faultOf_101 : decode prog_7_method_35_code 101 = .ok (.ireturn, 1) := by decide +kernel
theorem dM_faultOf_102 : decode prog_7_method_35_code 102 = .ok (.iload_n 3, 1) := by decide +kernel
theorem dM_faultOf_103 : decode prog_7_method_35_code 103 = .ok (.iconst 2, 1) := by decide +kernel
theorem dM_faultOf_104 : decode prog_7_method_35_code 104 = .ok (.if_icmp .ge 20, 3) := by decide +kernel
theorem dM_faultOf_107 : decode prog_7_method_35_code 107 = .ok (.aload_n 0, 1) := by decide +kernel
theorem dM_faultOf_108 : decode prog_7_method_35_code 108 = .ok (.getfield 28, 3) := by decide +kernel
theorem dM_faultOf_111 : decode prog_7_method_35_code 111 = .ok (.iload_n 1, 1) := by decide +kernel
theorem dM_faultOf_112 : decode prog_7_method_35_code 112 = .ok (.iconst 1, 1) := by decide +kernel
theorem dM_faultOf_113 : decode prog_7_method_35_code 113 = .ok (.iadd, 1) := by decide +kernel
theorem dM_faultOf_114 : decode prog_7_method_35_code 114 = .ok (.iaload, 1) := by decide +kernel
theorem dM_faultOf_115 : decode prog_7_method_35_code 115 = .ok (.bipush 79, 2) := by decide +kernel
theorem dM_faultOf_117 : decode prog_7_method_35_code 117 = .ok (.if_icmp .le 7, 3) := by decide +kernel
theorem dM_faultOf_120 : decode prog_7_method_35_code 120 = .ok (.iload_n 1, 1) := by decide +kernel
theorem dM_faultOf_121 : decode prog_7_method_35_code 121 = .ok (.iconst 1, 1) := by decide +kernel
theorem dM_faultOf_122 : decode prog_7_method_35_code 122 = .ok (.iadd, 1) := by decide +kernel
theorem dM_faultOf_123 : decode prog_7_method_35_code 123 = .ok (.ireturn, 1) := by decide +kernel
theorem dM_faultOf_124 : decode prog_7_method_35_code 124 = .ok (.iload 5, 2) := by decide +kernel
theorem dM_faultOf_126 : decode prog_7_method_35_code 126 = .ok (.istore_n 1, 1) := by decide +kernel
theorem dM_faultOf_127 : decode prog_7_method_35_code 127 = .ok (.iinc 2 1, 3) := by decide +kernel
theorem dM_faultOf_130 : decode prog_7_method_35_code 130 = .ok (.goto (-113), 3) := by decide +kernel
theorem dM_faultOf_133 : decode prog_7_method_35_code 133 = .ok (.iconst (-1), 1) := by decide +kernel
theorem dM_faultOf_134 : decode prog_7_method_35_code 134 = .ok (.ireturn, 1) := by decide +kernel
theorem dM_moved_0 : decode prog_7_method_37_code 0 = .ok (.iload_n 1, 1) := by decide +kernel
theorem dM_moved_1 : decode prog_7_method_37_code 1 = .ok (.iconst 0, 1) := by decide +kernel
theorem dM_moved_2 : decode prog_7_method_37_code 2 = .ok (.iconst 4, 1) := by decide +kernel
theorem dM_moved_3 : decode prog_7_method_37_code 3 = .ok (.invokestatic 77, 3) := by decide +kernel
theorem dM_moved_6 : decode prog_7_method_37_code 6 = .ok (.ifCond .ne 6, 3) := by decide +kernel
theorem dM_moved_9 : decode prog_7_method_37_code 9 = .ok (.bipush (-2), 2) := by decide +kernel
theorem dM_moved_11 : decode prog_7_method_37_code 11 = .ok (.ireturn, 1) := by decide +kernel
theorem dM_moved_12 : decode prog_7_method_37_code 12 = .ok (.aload_n 0, 1) := by decide +kernel
theorem dM_moved_13 : decode prog_7_method_37_code 13 = .ok (.invokevirtual 103, 3) := by decide +kernel
theorem dM_moved_16 : decode prog_7_method_37_code 16 = .ok (.iconst 0, 1) := by decide +kernel
theorem dM_moved_17 : decode prog_7_method_37_code 17 = .ok (.istore_n 2, 1) := by decide +kernel
theorem dM_moved_18 : decode prog_7_method_37_code 18 = .ok (.iconst 0, 1) := by decide +kernel
theorem dM_moved_19 : decode prog_7_method_37_code 19 = .ok (.istore_n 3, 1) := by decide +kernel
theorem dM_moved_20 : decode prog_7_method_37_code 20 = .ok (.iconst 0, 1) := by decide +kernel
theorem dM_moved_21 : decode prog_7_method_37_code 21 = .ok (.istore 4, 2) := by decide +kernel
theorem dM_moved_23 : decode prog_7_method_37_code 23 = .ok (.iload_n 3, 1) := by decide +kernel
theorem dM_moved_24 : decode prog_7_method_37_code 24 = .ok (.aload_n 0, 1) := by decide +kernel
theorem dM_moved_25 : decode prog_7_method_37_code 25 = .ok (.getfield 13, 3) := by decide +kernel
theorem dM_moved_28 : decode prog_7_method_37_code 28 = .ok (.iconst 1, 1) := by decide +kernel
theorem dM_moved_29 : decode prog_7_method_37_code 29 = .ok (.iaload, 1) := by decide +kernel
theorem dM_moved_30 : decode prog_7_method_37_code 30 = .ok (.if_icmp .ge 112, 3) := by decide +kernel
theorem dM_moved_33 : decode prog_7_method_37_code 33 = .ok (.aload_n 0, 1) := by decide +kernel
theorem dM_moved_34 : decode prog_7_method_37_code 34 = .ok (.iload_n 3, 1) := by decide +kernel
theorem dM_moved_35 : decode prog_7_method_37_code 35 = .ok (.iload 4, 2) := by decide +kernel
theorem dM_moved_37 : decode prog_7_method_37_code 37 = .ok (.invokevirtual 110, 3) := by decide +kernel
theorem dM_moved_40 : decode prog_7_method_37_code 40 = .ok (.aload_n 0, 1) := by decide +kernel
theorem dM_moved_41 : decode prog_7_method_37_code 41 = .ok (.getfield 94, 3) := by decide +kernel
theorem dM_moved_44 : decode prog_7_method_37_code 44 = .ok (.ifCond .ne 33, 3) := by decide +kernel
theorem dM_moved_47 : decode prog_7_method_37_code 47 = .ok (.aload_n 0, 1) := by decide +kernel
theorem dM_moved_48 : decode prog_7_method_37_code 48 = .ok (.getfield 97, 3) := by decide +kernel
theorem dM_moved_51 : decode prog_7_method_37_code 51 = .ok (.iload 4, 2) := by decide +kernel
theorem dM_moved_53 : decode prog_7_method_37_code 53 = .ok (.if_icmp .ge 7, 3) := by decide +kernel
theorem dM_moved_56 : decode prog_7_method_37_code 56 = .ok (.iconst 0, 1) := by decide +kernel
theorem dM_moved_57 : decode prog_7_method_37_code 57 = .ok (.goto 33, 3) := by decide +kernel
theorem dM_moved_60 : decode prog_7_method_37_code 60 = .ok (.aload_n 0, 1) := by decide +kernel
theorem dM_moved_61 : decode prog_7_method_37_code 61 = .ok (.getfield 97, 3) := by decide +kernel
theorem dM_moved_64 : decode prog_7_method_37_code 64 = .ok (.iload 4, 2) := by decide +kernel
theorem dM_moved_66 : decode prog_7_method_37_code 66 = .ok (.if_icmp .ne 7, 3) := by decide +kernel
theorem dM_moved_69 : decode prog_7_method_37_code 69 = .ok (.iconst 1, 1) := by decide +kernel
theorem dM_moved_70 : decode prog_7_method_37_code 70 = .ok (.goto 20, 3) := by decide +kernel
theorem dM_moved_73 : decode prog_7_method_37_code 73 = .ok (.iconst 2, 1) := by decide +kernel
theorem dM_moved_74 : decode prog_7_method_37_code 74 = .ok (.goto 16, 3) := by decide +kernel
theorem dM_moved_77 : decode prog_7_method_37_code 77 = .ok (.aload_n 0, 1) := by decide +kernel
theorem dM_moved_78 : decode prog_7_method_37_code 78 = .ok (.getfield 94, 3) := by decide +kernel
theorem dM_moved_81 : decode prog_7_method_37_code 81 = .ok (.iconst 1, 1) := by decide +kernel
theorem dM_moved_82 : decode prog_7_method_37_code 82 = .ok (.if_icmp .ne 7, 3) := by decide +kernel
theorem dM_moved_85 : decode prog_7_method_37_code 85 = .ok (.iconst 3, 1) := by decide +kernel
theorem dM_moved_86 : decode prog_7_method_37_code 86 = .ok (.goto 4, 3) := by decide +kernel
theorem dM_moved_89 : decode prog_7_method_37_code 89 = .ok (.iconst 4, 1) := by decide +kernel
theorem dM_moved_90 : decode prog_7_method_37_code 90 = .ok (.istore 5, 2) := by decide +kernel
theorem dM_moved_92 : decode prog_7_method_37_code 92 = .ok (.iload_n 2, 1) := by decide +kernel
theorem dM_moved_93 : decode prog_7_method_37_code 93 = .ok (.iload 5, 2) := by decide +kernel
theorem dM_moved_95 : decode prog_7_method_37_code 95 = .ok (.iload_n 1, 1) := by decide +kernel
theorem dM_moved_96 : decode prog_7_method_37_code 96 = .ok (.if_icmp .ne 10, 3) := by decide +kernel
theorem dM_moved_99 : decode prog_7_method_37_code 99 = .ok (.aload_n 0, 1) := by decide +kernel
theorem dM_moved_100 : decode prog_7_method_37_code 100 = .ok (.getfield 100, 3) := by decide +kernel
theorem dM_moved_103 : decode prog_7_method_37_code 103 = .ok (.goto 4, 3) := by decide +kernel
theorem dM_moved_106 : decode prog_7_method_37_code 106 = .ok (.iconst 0, 1) := by decide +kernel
theorem dM_moved_107 : decode prog_7_method_37_code 107 = .ok (.iadd, 1) := by decide +kernel
theorem dM_moved_108 : decode prog_7_method_37_code 108 = .ok (.istore_n 2, 1) := by decide +kernel
theorem dM_moved_109 : decode prog_7_method_37_code 109 = .ok (.aload_n 0, 1) := by decide +kernel
theorem dM_moved_110 : decode prog_7_method_37_code 110 = .ok (.getfield 94, 3) := by decide +kernel
theorem dM_moved_113 : decode prog_7_method_37_code 113 = .ok (.ifCond .ne 15, 3) := by decide +kernel
theorem dM_moved_116 : decode prog_7_method_37_code 116 = .ok (.aload_n 0, 1) := by decide +kernel
theorem dM_moved_117 : decode prog_7_method_37_code 117 = .ok (.getfield 97, 3) := by decide +kernel
theorem dM_moved_120 : decode prog_7_method_37_code 120 = .ok (.aload_n 0, 1) := by decide +kernel
theorem dM_moved_121 : decode prog_7_method_37_code 121 = .ok (.getfield 100, 3) := by decide +kernel
theorem dM_moved_124 : decode prog_7_method_37_code 124 = .ok (.iadd, 1) := by decide +kernel
theorem dM_moved_125 : decode prog_7_method_37_code 125 = .ok (.goto 5, 3) := by decide +kernel
theorem dM_moved_128 : decode prog_7_method_37_code 128 = .ok (.iload 4, 2) := by decide +kernel
theorem dM_moved_130 : decode prog_7_method_37_code 130 = .ok (.istore 4, 2) := by decide +kernel
theorem dM_moved_132 : decode prog_7_method_37_code 132 = .ok (.iload_n 3, 1) := by decide +kernel
theorem dM_moved_133 : decode prog_7_method_37_code 133 = .ok (.aload_n 0, 1) := by decide +kernel
theorem dM_moved_134 : decode prog_7_method_37_code 134 = .ok (.getfield 100, 3) := by decide +kernel
theorem dM_moved_137 : decode prog_7_method_37_code 137 = .ok (.iadd, 1) := by decide +kernel
theorem dM_moved_138 : decode prog_7_method_37_code 138 = .ok (.istore_n 3, 1) := by decide +kernel
theorem dM_moved_139 : decode prog_7_method_37_code 139 = .ok (.goto (-116), 3) := by decide +kernel
theorem dM_moved_142 : decode prog_7_method_37_code 142 = .ok (.iload_n 2, 1) := by decide +kernel
theorem dM_moved_143 : decode prog_7_method_37_code 143 = .ok (.ireturn, 1) := by decide +kernel
theorem dM_of_0 : decode prog_7_method_38_code 0 = .ok (.iload_n 1, 1) := by decide +kernel
theorem dM_of_1 : decode prog_7_method_38_code 1 = .ok (.tableswitch 138 0 12 #[67, 74, 81, 86, 91, 96, 102, 108, 113, 118, 123, 128, 133], 67) := by decide +kernel
theorem dM_of_68 : decode prog_7_method_38_code 68 = .ok (.aload_n 0, 1) := by decide +kernel
theorem dM_of_69 : decode prog_7_method_38_code 69 = .ok (.getfield 13, 3) := by decide +kernel
theorem dM_of_72 : decode prog_7_method_38_code 72 = .ok (.iconst 0, 1) := by decide +kernel
theorem dM_of_73 : decode prog_7_method_38_code 73 = .ok (.iaload, 1) := by decide +kernel
theorem dM_of_74 : decode prog_7_method_38_code 74 = .ok (.ireturn, 1) := by decide +kernel
theorem dM_of_75 : decode prog_7_method_38_code 75 = .ok (.aload_n 0, 1) := by decide +kernel
theorem dM_of_76 : decode prog_7_method_38_code 76 = .ok (.getfield 13, 3) := by decide +kernel
theorem dM_of_79 : decode prog_7_method_38_code 79 = .ok (.iconst 1, 1) := by decide +kernel
theorem dM_of_80 : decode prog_7_method_38_code 80 = .ok (.iaload, 1) := by decide +kernel
theorem dM_of_81 : decode prog_7_method_38_code 81 = .ok (.ireturn, 1) := by decide +kernel
theorem dM_of_82 : decode prog_7_method_38_code 82 = .ok (.aload_n 0, 1) := by decide +kernel
theorem dM_of_83 : decode prog_7_method_38_code 83 = .ok (.getfield 56, 3) := by decide +kernel
theorem dM_of_86 : decode prog_7_method_38_code 86 = .ok (.ireturn, 1) := by decide +kernel
theorem dM_of_87 : decode prog_7_method_38_code 87 = .ok (.aload_n 0, 1) := by decide +kernel
theorem dM_of_88 : decode prog_7_method_38_code 88 = .ok (.getfield 62, 3) := by decide +kernel
theorem dM_of_91 : decode prog_7_method_38_code 91 = .ok (.ireturn, 1) := by decide +kernel
theorem dM_of_92 : decode prog_7_method_38_code 92 = .ok (.aload_n 0, 1) := by decide +kernel
theorem dM_of_93 : decode prog_7_method_38_code 93 = .ok (.getfield 65, 3) := by decide +kernel
theorem dM_of_96 : decode prog_7_method_38_code 96 = .ok (.ireturn, 1) := by decide +kernel
theorem dM_of_97 : decode prog_7_method_38_code 97 = .ok (.aload_n 0, 1) := by decide +kernel
theorem dM_of_98 : decode prog_7_method_38_code 98 = .ok (.iconst 0, 1) := by decide +kernel
theorem dM_of_99 : decode prog_7_method_38_code 99 = .ok (.invokevirtual 106, 3) := by decide +kernel
theorem dM_of_102 : decode prog_7_method_38_code 102 = .ok (.ireturn, 1) := by decide +kernel
theorem dM_of_103 : decode prog_7_method_38_code 103 = .ok (.aload_n 0, 1) := by decide +kernel
theorem dM_of_104 : decode prog_7_method_38_code 104 = .ok (.iconst 1, 1) := by decide +kernel
theorem dM_of_105 : decode prog_7_method_38_code 105 = .ok (.invokevirtual 106, 3) := by decide +kernel
theorem dM_of_108 : decode prog_7_method_38_code 108 = .ok (.ireturn, 1) := by decide +kernel
theorem dM_of_109 : decode prog_7_method_38_code 109 = .ok (.aload_n 0, 1) := by decide +kernel
theorem dM_of_110 : decode prog_7_method_38_code 110 = .ok (.getfield 59, 3) := by decide +kernel
theorem dM_of_113 : decode prog_7_method_38_code 113 = .ok (.ireturn, 1) := by decide +kernel
theorem dM_of_114 : decode prog_7_method_38_code 114 = .ok (.aload_n 0, 1) := by decide +kernel
theorem dM_of_115 : decode prog_7_method_38_code 115 = .ok (.getfield 40, 3) := by decide +kernel
theorem dM_of_118 : decode prog_7_method_38_code 118 = .ok (.ireturn, 1) := by decide +kernel
theorem dM_of_119 : decode prog_7_method_38_code 119 = .ok (.aload_n 0, 1) := by decide +kernel
theorem dM_of_120 : decode prog_7_method_38_code 120 = .ok (.getfield 44, 3) := by decide +kernel
theorem dM_of_123 : decode prog_7_method_38_code 123 = .ok (.ireturn, 1) := by decide +kernel
theorem dM_of_124 : decode prog_7_method_38_code 124 = .ok (.aload_n 0, 1) := by decide +kernel
theorem dM_of_125 : decode prog_7_method_38_code 125 = .ok (.getfield 47, 3) := by decide +kernel
theorem dM_of_128 : decode prog_7_method_38_code 128 = .ok (.ireturn, 1) := by decide +kernel
theorem dM_of_129 : decode prog_7_method_38_code 129 = .ok (.aload_n 0, 1) := by decide +kernel
theorem dM_of_130 : decode prog_7_method_38_code 130 = .ok (.getfield 50, 3) := by decide +kernel
theorem dM_of_133 : decode prog_7_method_38_code 133 = .ok (.ireturn, 1) := by decide +kernel
theorem dM_of_134 : decode prog_7_method_38_code 134 = .ok (.aload_n 0, 1) := by decide +kernel
theorem dM_of_135 : decode prog_7_method_38_code 135 = .ok (.getfield 53, 3) := by decide +kernel
theorem dM_of_138 : decode prog_7_method_38_code 138 = .ok (.ireturn, 1) := by decide +kernel
theorem dM_of_139 : decode prog_7_method_38_code 139 = .ok (.bipush (-2), 2) := by decide +kernel
theorem dM_of_141 : decode prog_7_method_38_code 141 = .ok (.ireturn, 1) := by decide +kernel
theorem dM_at_0 : decode prog_7_method_39_code 0 = .ok (.iload_n 1, 1) := by decide +kernel
theorem dM_at_1 : decode prog_7_method_39_code 1 = .ok (.iconst 0, 1) := by decide +kernel
theorem dM_at_2 : decode prog_7_method_39_code 2 = .ok (.iconst 1, 1) := by decide +kernel
theorem dM_at_3 : decode prog_7_method_39_code 3 = .ok (.invokestatic 77, 3) := by decide +kernel
theorem dM_at_6 : decode prog_7_method_39_code 6 = .ok (.ifCond .eq 28, 3) := by decide +kernel
theorem dM_at_9 : decode prog_7_method_39_code 9 = .ok (.iload_n 2, 1) := by decide +kernel
theorem dM_at_10 : decode prog_7_method_39_code 10 = .ok (.iconst 0, 1) := by decide +kernel
theorem dM_at_11 : decode prog_7_method_39_code 11 = .ok (.aload_n 0, 1) := by decide +kernel
theorem dM_at_12 : decode prog_7_method_39_code 12 = .ok (.getfield 13, 3) := by decide +kernel
theorem dM_at_15 : decode prog_7_method_39_code 15 = .ok (.iload_n 1, 1) := by decide +kernel
theorem dM_at_16 : decode prog_7_method_39_code 16 = .ok (.iaload, 1) := by decide +kernel
theorem dM_at_17 : decode prog_7_method_39_code 17 = .ok (.iconst 1, 1) := by decide +kernel
theorem dM_at_18 : decode prog_7_method_39_code 18 = .ok (.isub, 1) := by decide +kernel
theorem dM_at_19 : decode prog_7_method_39_code 19 = .ok (.invokestatic 77, 3) := by decide +kernel
theorem dM_at_22 : decode prog_7_method_39_code 22 = .ok (.ifCond .eq 12, 3) := by decide +kernel
theorem dM_at_25 : decode prog_7_method_39_code 25 = .ok (.aload_n 0, 1) := by decide +kernel
theorem dM_at_26 : decode prog_7_method_39_code 26 = .ok (.iload_n 1, 1) := by decide +kernel
theorem dM_at_27 : decode prog_7_method_39_code 27 = .ok (.iload_n 2, 1) := by decide +kernel
theorem dM_at_28 : decode prog_7_method_39_code 28 = .ok (.invokevirtual 72, 3) := by decide +kernel
theorem dM_at_31 : decode prog_7_method_39_code 31 = .ok (.goto 5, 3) := by decide +kernel
theorem dM_at_34 : decode prog_7_method_39_code 34 = .ok (.bipush (-2), 2) := by decide +kernel
theorem dM_at_36 : decode prog_7_method_39_code 36 = .ok (.ireturn, 1) := by decide +kernel
