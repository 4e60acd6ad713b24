theorem dM_init_0 : decode prog_7_method_1_code 0 = .ok (.aload_n 0, 1) := by decide +kernel
theorem dM_init_1 : decode prog_7_method_1_code 1 = .ok (.invokespecial 1, 3) := by decide +kernel
theorem dM_init_4 : decode prog_7_method_1_code 4 = .ok (.aload_n 0, 1) := by decide +kernel
theorem dM_init_5 : decode prog_7_method_1_code 5 = .ok (.bipush 80, 2) := by decide +kernel
theorem dM_init_7 : decode prog_7_method_1_code 7 = .ok (.newarray .int, 2) := by decide +kernel
theorem dM_init_9 : decode prog_7_method_1_code 9 = .ok (.putfield 7, 3) := by decide +kernel
theorem dM_init_12 : decode prog_7_method_1_code 12 = .ok (.aload_n 0, 1) := by decide +kernel
theorem dM_init_13 : decode prog_7_method_1_code 13 = .ok (.iconst 2, 1) := by decide +kernel
theorem dM_init_14 : decode prog_7_method_1_code 14 = .ok (.newarray .int, 2) := by decide +kernel
theorem dM_init_16 : decode prog_7_method_1_code 16 = .ok (.putfield 13, 3) := by decide +kernel
theorem dM_init_19 : decode prog_7_method_1_code 19 = .ok (.aload_n 0, 1) := by decide +kernel
theorem dM_init_20 : decode prog_7_method_1_code 20 = .ok (.bipush 100, 2) := by decide +kernel
theorem dM_init_22 : decode prog_7_method_1_code 22 = .ok (.newarray .int, 2) := by decide +kernel
theorem dM_init_24 : decode prog_7_method_1_code 24 = .ok (.putfield 16, 3) := by decide +kernel
theorem dM_init_27 : decode prog_7_method_1_code 27 = .ok (.aload_n 0, 1) := by decide +kernel
theorem dM_init_28 : decode prog_7_method_1_code 28 = .ok (.bipush 100, 2) := by decide +kernel
theorem dM_init_30 : decode prog_7_method_1_code 30 = .ok (.newarray .int, 2) := by decide +kernel
theorem dM_init_32 : decode prog_7_method_1_code 32 = .ok (.putfield 19, 3) := by decide +kernel
theorem dM_init_35 : decode prog_7_method_1_code 35 = .ok (.aload_n 0, 1) := by decide +kernel
theorem dM_init_36 : decode prog_7_method_1_code 36 = .ok (.bipush 100, 2) := by decide +kernel
theorem dM_init_38 : decode prog_7_method_1_code 38 = .ok (.newarray .int, 2) := by decide +kernel
theorem dM_init_40 : decode prog_7_method_1_code 40 = .ok (.putfield 22, 3) := by decide +kernel
theorem dM_init_43 : decode prog_7_method_1_code 43 = .ok (.aload_n 0, 1) := by decide +kernel
theorem dM_init_44 : decode prog_7_method_1_code 44 = .ok (.sipush 4000, 3) := by decide +kernel
theorem dM_init_47 : decode prog_7_method_1_code 47 = .ok (.newarray .int, 2) := by decide +kernel
theorem dM_init_49 : decode prog_7_method_1_code 49 = .ok (.putfield 25, 3) := by decide +kernel
theorem dM_init_52 : decode prog_7_method_1_code 52 = .ok (.aload_n 0, 1) := by decide +kernel
theorem dM_init_53 : decode prog_7_method_1_code 53 = .ok (.sipush 4110, 3) := by decide +kernel
theorem dM_init_56 : decode prog_7_method_1_code 56 = .ok (.newarray .int, 2) := by decide +kernel
theorem dM_init_58 : decode prog_7_method_1_code 58 = .ok (.putfield 28, 3) := by decide +kernel
theorem dM_init_61 : decode prog_7_method_1_code 61 = .ok (.aload_n 0, 1) := by decide +kernel
theorem dM_init_62 : decode prog_7_method_1_code 62 = .ok (.bipush 80, 2) := by decide +kernel
theorem dM_init_64 : decode prog_7_method_1_code 64 = .ok (.newarray .int, 2) := by decide +kernel
theorem dM_init_66 : decode prog_7_method_1_code 66 = .ok (.putfield 31, 3) := by decide +kernel
theorem dM_init_69 : decode prog_7_method_1_code 69 = .ok (.aload_n 0, 1) := by decide +kernel
theorem dM_init_70 : decode prog_7_method_1_code 70 = .ok (.sipush 1681, 3) := by decide +kernel
theorem dM_init_73 : decode prog_7_method_1_code 73 = .ok (.newarray .int, 2) := by decide +kernel
theorem dM_init_75 : decode prog_7_method_1_code 75 = .ok (.putfield 34, 3) := by decide +kernel
theorem dM_init_78 : decode prog_7_method_1_code 78 = .ok (.aload_n 0, 1) := by decide +kernel
theorem dM_init_79 : decode prog_7_method_1_code 79 = .ok (.invokevirtual 37, 3) := by decide +kernel
theorem dM_init_82 : decode prog_7_method_1_code 82 = .ok (.return_, 1) := by decide +kernel
theorem dM_begin_0 : decode prog_7_method_2_code 0 = .ok (.aload_n 0, 1) := by decide +kernel
theorem dM_begin_1 : decode prog_7_method_2_code 1 = .ok (.getfield 13, 3) := by decide +kernel
theorem dM_begin_4 : decode prog_7_method_2_code 4 = .ok (.iconst 0, 1) := by decide +kernel
theorem dM_begin_5 : decode prog_7_method_2_code 5 = .ok (.iconst 0, 1) := by decide +kernel
theorem dM_begin_6 : decode prog_7_method_2_code 6 = .ok (.iastore, 1) := by decide +kernel
theorem dM_begin_7 : decode prog_7_method_2_code 7 = .ok (.aload_n 0, 1) := by decide +kernel
theorem dM_begin_8 : decode prog_7_method_2_code 8 = .ok (.getfield 13, 3) := by decide +kernel
theorem dM_begin_11 : decode prog_7_method_2_code 11 = .ok (.iconst 1, 1) := by decide +kernel
theorem dM_begin_12 : decode prog_7_method_2_code 12 = .ok (.iconst 0, 1) := by decide +kernel
theorem dM_begin_13 : decode prog_7_method_2_code 13 = .ok (.iastore, 1) := by decide +kernel
theorem dM_begin_14 : decode prog_7_method_2_code 14 = .ok (.aload_n 0, 1) := by decide +kernel
theorem dM_begin_15 : decode prog_7_method_2_code 15 = .ok (.iconst 4, 1) := by decide +kernel
theorem dM_begin_16 : decode prog_7_method_2_code 16 = .ok (.putfield 40, 3) := by decide +kernel
theorem dM_begin_19 : decode prog_7_method_2_code 19 = .ok (.aload_n 0, 1) := by decide +kernel
theorem dM_begin_20 : decode prog_7_method_2_code 20 = .ok (.iconst 2, 1) := by decide +kernel
theorem dM_begin_21 : decode prog_7_method_2_code 21 = .ok (.putfield 44, 3) := by decide +kernel
theorem dM_begin_24 : decode prog_7_method_2_code 24 = .ok (.aload_n 0, 1) := by decide +kernel
theorem dM_begin_25 : decode prog_7_method_2_code 25 = .ok (.iconst 4, 1) := by decide +kernel
theorem dM_begin_26 : decode prog_7_method_2_code 26 = .ok (.putfield 47, 3) := by decide +kernel
theorem dM_begin_29 : decode prog_7_method_2_code 29 = .ok (.aload_n 0, 1) := by decide +kernel
theorem dM_begin_30 : decode prog_7_method_2_code 30 = .ok (.iconst 2, 1) := by decide +kernel
theorem dM_begin_31 : decode prog_7_method_2_code 31 = .ok (.putfield 50, 3) := by decide +kernel
theorem dM_begin_34 : decode prog_7_method_2_code 34 = .ok (.aload_n 0, 1) := by decide +kernel
theorem dM_begin_35 : decode prog_7_method_2_code 35 = .ok (.iconst 3, 1) := by decide +kernel
theorem dM_begin_36 : decode prog_7_method_2_code 36 = .ok (.putfield 53, 3) := by decide +kernel
theorem dM_begin_39 : decode prog_7_method_2_code 39 = .ok (.aload_n 0, 1) := by decide +kernel
theorem dM_begin_40 : decode prog_7_method_2_code 40 = .ok (.iconst 0, 1) := by decide +kernel
theorem dM_begin_41 : decode prog_7_method_2_code 41 = .ok (.putfield 56, 3) := by decide +kernel
theorem dM_begin_44 : decode prog_7_method_2_code 44 = .ok (.aload_n 0, 1) := by decide +kernel
theorem dM_begin_45 : decode prog_7_method_2_code 45 = .ok (.iconst 1, 1) := by decide +kernel
theorem dM_begin_46 : decode prog_7_method_2_code 46 = .ok (.putfield 59, 3) := by decide +kernel
theorem dM_begin_49 : decode prog_7_method_2_code 49 = .ok (.aload_n 0, 1) := by decide +kernel
theorem dM_begin_50 : decode prog_7_method_2_code 50 = .ok (.iconst 0, 1) := by decide +kernel
theorem dM_begin_51 : decode prog_7_method_2_code 51 = .ok (.putfield 62, 3) := by decide +kernel
theorem dM_begin_54 : decode prog_7_method_2_code 54 = .ok (.aload_n 0, 1) := by decide +kernel
theorem dM_begin_55 : decode prog_7_method_2_code 55 = .ok (.iconst 0, 1) := by decide +kernel
theorem dM_begin_56 : decode prog_7_method_2_code 56 = .ok (.putfield 65, 3) := by decide +kernel
theorem dM_begin_59 : decode prog_7_method_2_code 59 = .ok (.aload_n 0, 1) := by decide +kernel
theorem dM_begin_60 : decode prog_7_method_2_code 60 = .ok (.iconst 0, 1) := by decide +kernel
theorem dM_begin_61 : decode prog_7_method_2_code 61 = .ok (.putfield 68, 3) := by decide +kernel
theorem dM_begin_64 : decode prog_7_method_2_code 64 = .ok (.return_, 1) := by decide +kernel
theorem dM_clear_0 : decode prog_7_method_3_code 0 = .ok (.aload_n 0, 1) := by decide +kernel
theorem dM_clear_1 : decode prog_7_method_3_code 1 = .ok (.getfield 13, 3) := by decide +kernel
theorem dM_clear_4 : decode prog_7_method_3_code 4 = .ok (.iconst 0, 1) := by decide +kernel
theorem dM_clear_5 : decode prog_7_method_3_code 5 = .ok (.iaload, 1) := by decide +kernel
theorem dM_clear_6 : decode prog_7_method_3_code 6 = .ok (.aload_n 0, 1) := by decide +kernel
theorem dM_clear_7 : decode prog_7_method_3_code 7 = .ok (.getfield 13, 3) := by decide +kernel
theorem dM_clear_10 : decode prog_7_method_3_code 10 = .ok (.iconst 1, 1) := by decide +kernel
theorem dM_clear_11 : decode prog_7_method_3_code 11 = .ok (.iaload, 1) := by decide +kernel
theorem dM_clear_12 : decode prog_7_method_3_code 12 = .ok (.iadd, 1) := by decide +kernel
theorem dM_clear_13 : decode prog_7_method_3_code 13 = .ok (.istore_n 1, 1) := by decide +kernel
theorem dM_clear_14 : decode prog_7_method_3_code 14 = .ok (.aload_n 0, 1) := by decide +kernel
theorem dM_clear_15 : decode prog_7_method_3_code 15 = .ok (.invokevirtual 37, 3) := by decide +kernel
theorem dM_clear_18 : decode prog_7_method_3_code 18 = .ok (.iload_n 1, 1) := by decide +kernel
theorem dM_clear_19 : decode prog_7_method_3_code 19 = .ok (.ireturn, 1) := by decide +kernel
theorem dM_put_0 : decode prog_7_method_7_code 0 = .ok (.iload_n 1, 1) := by decide +kernel
theorem dM_put_1 : decode prog_7_method_7_code 1 = .ok (.iconst 0, 1) := by decide +kernel
theorem dM_put_2 : decode prog_7_method_7_code 2 = .ok (.iconst 1, 1) := by decide +kernel
theorem dM_put_3 : decode prog_7_method_7_code 3 = .ok (.invokestatic 77, 3) := by decide +kernel
theorem dM_put_6 : decode prog_7_method_7_code 6 = .ok (.ifCond .eq 14, 3) := by decide +kernel
theorem dM_put_9 : decode prog_7_method_7_code 9 = .ok (.iload_n 2, 1) := by decide +kernel
theorem dM_put_10 : decode prog_7_method_7_code 10 = .ok (.iconst 0, 1) := by decide +kernel
theorem dM_put_11 : decode prog_7_method_7_code 11 = .ok (.sipush 255, 3) := by decide +kernel
theorem dM_put_14 : decode prog_7_method_7_code 14 = .ok (.invokestatic 77, 3) := by decide +kernel
theorem dM_put_17 : decode prog_7_method_7_code 17 = .ok (.ifCond .ne 6, 3) := by decide +kernel
theorem dM_put_20 : decode prog_7_method_7_code 20 = .ok (.bipush (-2), 2) := by decide +kernel
theorem dM_put_22 : decode prog_7_method_7_code 22 = .ok (.ireturn, 1) := by decide +kernel
theorem dM_put_23 : decode prog_7_method_7_code 23 = .ok (.aload_n 0, 1) := by decide +kernel
theorem dM_put_24 : decode prog_7_method_7_code 24 = .ok (.getfield 13, 3) := by decide +kernel
theorem dM_put_27 : decode prog_7_method_7_code 27 = .ok (.iload_n 1, 1) := by decide +kernel
theorem dM_put_28 : decode prog_7_method_7_code 28 = .ok (.iaload, 1) := by decide +kernel
theorem dM_put_29 : decode prog_7_method_7_code 29 = .ok (.bipush 40, 2) := by decide +kernel
theorem dM_put_31 : decode prog_7_method_7_code 31 = .ok (.if_icmp .ne 6, 3) := by decide +kernel
theorem dM_put_34 : decode prog_7_method_7_code 34 = .ok (.bipush (-3), 2) := by decide +kernel
theorem dM_put_36 : decode prog_7_method_7_code 36 = .ok (.ireturn, 1) := by decide +kernel
theorem dM_put_37 : decode prog_7_method_7_code 37 = .ok (.aload_n 0, 1) := by decide +kernel
theorem dM_put_38 : decode prog_7_method_7_code 38 = .ok (.getfield 7, 3) := by decide +kernel
theorem dM_put_41 : decode prog_7_method_7_code 41 = .ok (.bipush 40, 2) := by decide +kernel
theorem dM_put_43 : decode prog_7_method_7_code 43 = .ok (.iload_n 1, 1) := by decide +kernel
theorem dM_put_44 : decode prog_7_method_7_code 44 = .ok (.imul, 1) := by decide +kernel
theorem dM_put_45 : decode prog_7_method_7_code 45 = .ok (.aload_n 0, 1) := by decide +kernel
theorem dM_put_46 : decode prog_7_method_7_code 46 = .ok (.getfield 13, 3) := by decide +kernel
theorem dM_put_49 : decode prog_7_method_7_code 49 = .ok (.iload_n 1, 1) := by decide +kernel
theorem dM_put_50 : decode prog_7_method_7_code 50 = .ok (.iaload, 1) := by decide +kernel
theorem dM_put_51 : decode prog_7_method_7_code 51 = .ok (.iadd, 1) := by decide +kernel
theorem dM_put_52 : decode prog_7_method_7_code 52 = .ok (.iload_n 2, 1) := by decide +kernel
theorem dM_put_53 : decode prog_7_method_7_code 53 = .ok (.iastore, 1) := by decide +kernel
theorem dM_put_54 : decode prog_7_method_7_code 54 = .ok (.aload_n 0, 1) := by decide +kernel
theorem dM_put_55 : decode prog_7_method_7_code 55 = .ok (.getfield 13, 3) := by decide +kernel
theorem dM_put_58 : decode prog_7_method_7_code 58 = .ok (.iload_n 1, 1) := by decide +kernel
theorem dM_put_59 : decode prog_7_method_7_code 59 = .ok (.dup2, 1) := by decide +kernel
theorem dM_put_60 : decode prog_7_method_7_code 60 = .ok (.iaload, 1) := by decide +kernel
theorem dM_put_61 : decode prog_7_method_7_code 61 = .ok (.iconst 1, 1) := by decide +kernel
theorem dM_put_62 : decode prog_7_method_7_code 62 = .ok (.iadd, 1) := by decide +kernel
theorem dM_put_63 : decode prog_7_method_7_code 63 = .ok (.iastore, 1) := by decide +kernel
theorem dM_put_64 : decode prog_7_method_7_code 64 = .ok (.aload_n 0, 1) := by decide +kernel
theorem dM_put_65 : decode prog_7_method_7_code 65 = .ok (.iconst 0, 1) := by decide +kernel
theorem dM_put_66 : decode prog_7_method_7_code 66 = .ok (.putfield 68, 3) := by decide +kernel
theorem dM_put_69 : decode prog_7_method_7_code 69 = .ok (.aload_n 0, 1) := by decide +kernel
theorem dM_put_70 : decode prog_7_method_7_code 70 = .ok (.getfield 13, 3) := by decide +kernel
theorem dM_put_73 : decode prog_7_method_7_code 73 = .ok (.iload_n 1, 1) := by decide +kernel
theorem dM_put_74 : decode prog_7_method_7_code 74 = .ok (.iaload, 1) := by decide +kernel
theorem dM_put_75 : decode prog_7_method_7_code 75 = .ok (.ireturn, 1) := by decide +kernel
theorem dM_isIn_0 : decode prog_7_method_4_code 0 = .ok (.iload_n 0, 1) := by decide +kernel
theorem dM_isIn_1 : decode prog_7_method_4_code 1 = .ok (.iload_n 1, 1) := by decide +kernel
theorem dM_isIn_2 : decode prog_7_method_4_code 2 = .ok (.if_icmp .lt 12, 3) := by decide +kernel
theorem dM_isIn_5 : decode prog_7_method_4_code 5 = .ok (.iload_n 0, 1) := by decide +kernel
theorem dM_isIn_6 : decode prog_7_method_4_code 6 = .ok (.iload_n 2, 1) := by decide +kernel
theorem dM_isIn_7 : decode prog_7_method_4_code 7 = .ok (.if_icmp .gt 7, 3) := by decide +kernel
theorem dM_isIn_10 : decode prog_7_method_4_code 10 = .ok (.iconst 1, 1) := by decide +kernel
theorem dM_isIn_11 : decode prog_7_method_4_code 11 = .ok (.goto 4, 3) := by decide +kernel
theorem dM_isIn_14 : decode prog_7_method_4_code 14 = .ok (.iconst 0, 1) := by decide +kernel
theorem dM_isIn_15 : decode prog_7_method_4_code 15 = .ok (.ireturn, 1) := by decide +kernel
theorem dM_cut_0 : decode prog_7_method_8_code 0 = .ok (.iload_n 1, 1) := by decide +kernel
theorem dM_cut_1 : decode prog_7_method_8_code 1 = .ok (.iconst 0, 1) := by decide +kernel
theorem dM_cut_2 : decode prog_7_method_8_code 2 = .ok (.iconst 1, 1) := by decide +kernel
theorem dM_cut_3 : decode prog_7_method_8_code 3 = .ok (.invokestatic 77, 3) := by decide +kernel
theorem dM_cut_6 : decode prog_7_method_8_code 6 = .ok (.ifCond .eq 17, 3) := by decide +kernel
theorem dM_cut_9 : decode prog_7_method_8_code 9 = .ok (.iload_n 2, 1) := by decide +kernel
theorem dM_cut_10 : decode prog_7_method_8_code 10 = .ok (.iconst 0, 1) := by decide +kernel
theorem dM_cut_11 : decode prog_7_method_8_code 11 = .ok (.aload_n 0, 1) := by decide +kernel
theorem dM_cut_12 : decode prog_7_method_8_code 12 = .ok (.getfield 13, 3) := by decide +kernel
theorem dM_cut_15 : decode prog_7_method_8_code 15 = .ok (.iload_n 1, 1) := by decide +kernel
theorem dM_cut_16 : decode prog_7_method_8_code 16 = .ok (.iaload, 1) := by decide +kernel
theorem dM_cut_17 : decode prog_7_method_8_code 17 = .ok (.invokestatic 77, 3) := by decide +kernel
theorem dM_cut_20 : decode prog_7_method_8_code 20 = .ok (.ifCond .ne 6, 3) := by decide +kernel
theorem dM_cut_23 : decode prog_7_method_8_code 23 = .ok (.bipush (-2), 2) := by decide +kernel
theorem dM_cut_25 : decode prog_7_method_8_code 25 = .ok (.ireturn, 1) := by decide +kernel
theorem dM_cut_26 : decode prog_7_method_8_code 26 = .ok (.aload_n 0, 1) := by decide +kernel
theorem dM_cut_27 : decode prog_7_method_8_code 27 = .ok (.getfield 13, 3) := by decide +kernel
theorem dM_cut_30 : decode prog_7_method_8_code 30 = .ok (.iload_n 1, 1) := by decide +kernel
theorem dM_cut_31 : decode prog_7_method_8_code 31 = .ok (.dup2, 1) := by decide +kernel
theorem dM_cut_32 : decode prog_7_method_8_code 32 = .ok (.iaload, 1) := by decide +kernel
theorem dM_cut_33 : decode prog_7_method_8_code 33 = .ok (.iload_n 2, 1) := by decide +kernel
theorem dM_cut_34 : decode prog_7_method_8_code 34 = .ok (.isub, 1) := by decide +kernel
theorem dM_cut_35 : decode prog_7_method_8_code 35 = .ok (.iastore, 1) := by decide +kernel
theorem dM_cut_36 : decode prog_7_method_8_code 36 = .ok (.aload_n 0, 1) := by decide +kernel
theorem dM_cut_37 : decode prog_7_method_8_code 37 = .ok (.iconst 0, 1) := by decide +kernel
theorem dM_cut_38 : decode prog_7_method_8_code 38 = .ok (.putfield 68, 3) := by decide +kernel
theorem dM_cut_41 : decode prog_7_method_8_code 41 = .ok (.aload_n 0, 1) := by decide +kernel
theorem dM_cut_42 : decode prog_7_method_8_code 42 = .ok (.getfield 13, 3) := by decide +kernel
theorem dM_cut_45 : decode prog_7_method_8_code 45 = .ok (.iload_n 1, 1) := by decide +kernel
theorem dM_cut_46 : decode prog_7_method_8_code 46 = .ok (.iaload, 1) := by decide +kernel
theorem dM_cut_47 : decode prog_7_method_8_code 47 = .ok (.ireturn, 1) := by decide +kernel
theorem dM_turn_0 : decode prog_7_method_9_code 0 = .ok (.iconst 0, 1) := by decide +kernel
theorem dM_turn_1 : decode prog_7_method_9_code 1 = .ok (.istore_n 1, 1) := by decide +kernel
theorem dM_turn_2 : decode prog_7_method_9_code 2 = .ok (.iload_n 1, 1) := by decide +kernel
theorem dM_turn_3 : decode prog_7_method_9_code 3 = .ok (.bipush 40, 2) := by decide +kernel
theorem dM_turn_5 : decode prog_7_method_9_code 5 = .ok (.if_icmp .ge 41, 3) := by decide +kernel
theorem dM_turn_8 : decode prog_7_method_9_code 8 = .ok (.aload_n 0, 1) := by decide +kernel
theorem dM_turn_9 : decode prog_7_method_9_code 9 = .ok (.getfield 7, 3) := by decide +kernel
theorem dM_turn_12 : decode prog_7_method_9_code 12 = .ok (.iload_n 1, 1) := by decide +kernel
theorem dM_turn_13 : decode prog_7_method_9_code 13 = .ok (.iaload, 1) := by decide +kernel
theorem dM_turn_14 : decode prog_7_method_9_code 14 = .ok (.istore_n 2, 1) := by decide +kernel
theorem dM_turn_15 : decode prog_7_method_9_code 15 = .ok (.aload_n 0, 1) := by decide +kernel
theorem dM_turn_16 : decode prog_7_method_9_code 16 = .ok (.getfield 7, 3) := by decide +kernel
theorem dM_turn_19 : decode prog_7_method_9_code 19 = .ok (.iload_n 1, 1) := by decide +kernel
theorem dM_turn_20 : decode prog_7_method_9_code 20 = .ok (.aload_n 0, 1) := by decide +kernel
theorem dM_turn_21 : decode prog_7_method_9_code 21 = .ok (.getfield 7, 3) := by decide +kernel
theorem dM_turn_24 : decode prog_7_method_9_code 24 = .ok (.bipush 40, 2) := by decide +kernel
theorem dM_turn_26 : decode prog_7_method_9_code 26 = .ok (.iload_n 1, 1) := by decide +kernel
theorem dM_turn_27 : decode prog_7_method_9_code 27 = .ok (.iadd, 1) := by decide +kernel
theorem dM_turn_28 : decode prog_7_method_9_code 28 = .ok (.iaload, 1) := by decide +kernel
theorem dM_turn_29 : decode prog_7_method_9_code 29 = .ok (.iastore, 1) := by decide +kernel
theorem dM_turn_30 : decode prog_7_method_9_code 30 = .ok (.aload_n 0, 1) := by decide +kernel
theorem dM_turn_31 : decode prog_7_method_9_code 31 = .ok (.getfield 7, 3) := by decide +kernel
theorem dM_turn_34 : decode prog_7_method_9_code 34 = .ok (.bipush 40, 2) := by decide +kernel
theorem dM_turn_36 : decode prog_7_method_9_code 36 = .ok (.iload_n 1, 1) := by decide +kernel
theorem dM_turn_37 : decode prog_7_method_9_code 37 = .ok (.iadd, 1) := by decide +kernel
theorem dM_turn_38 : decode prog_7_method_9_code 38 = .ok (.iload_n 2, 1) := by decide +kernel
theorem dM_turn_39 : decode prog_7_method_9_code 39 = .ok (.iastore, 1) := by decide +kernel
theorem dM_turn_40 : decode prog_7_method_9_code 40 = .ok (.iinc 1 1, 3) := by decide +kernel
theorem dM_turn_43 : decode prog_7_method_9_code 43 = .ok (.goto (-41), 3) := by decide +kernel
theorem dM_turn_46 : decode prog_7_method_9_code 46 = .ok (.aload_n 0, 1) := by decide +kernel
theorem dM_turn_47 : decode prog_7_method_9_code 47 = .ok (.getfield 13, 3) := by decide +kernel
theorem dM_turn_50 : decode prog_7_method_9_code 50 = .ok (.iconst 0, 1) := by decide +kernel
theorem dM_turn_51 : decode prog_7_method_9_code 51 = .ok (.iaload, 1) := by decide +kernel
theorem dM_turn_52 : decode prog_7_method_9_code 52 = .ok (.istore_n 1, 1) := by decide +kernel
theorem dM_turn_53 : decode prog_7_method_9_code 53 = .ok (.aload_n 0, 1) := by decide +kernel
theorem dM_turn_54 : decode prog_7_method_9_code 54 = .ok (.getfield 13, 3) := by decide +kernel
theorem dM_turn_57 : decode prog_7_method_9_code 57 = .ok (.iconst 0, 1) := by decide +kernel
theorem dM_turn_58 : decode prog_7_method_9_code 58 = .ok (.aload_n 0, 1) := by decide +kernel
theorem dM_turn_59 : decode prog_7_method_9_code 59 = .ok (.getfield 13, 3) := by decide +kernel
theorem dM_turn_62 : decode prog_7_method_9_code 62 = .ok (.iconst 1, 1) := by decide +kernel
theorem dM_turn_63 : decode prog_7_method_9_code 63 = .ok (.iaload, 1) := by decide +kernel
theorem dM_turn_64 : decode prog_7_method_9_code 64 = .ok (.iastore, 1) := by decide +kernel
theorem dM_turn_65 : decode prog_7_method_9_code 65 = .ok (.aload_n 0, 1) := by decide +kernel
theorem dM_turn_66 : decode prog_7_method_9_code 66 = .ok (.getfield 13, 3) := by decide +kernel
theorem dM_turn_69 : decode prog_7_method_9_code 69 = .ok (.iconst 1, 1) := by decide +kernel
theorem dM_turn_70 : decode prog_7_method_9_code 70 = .ok (.iload_n 1, 1) := by decide +kernel
theorem dM_turn_71 : decode prog_7_method_9_code 71 = .ok (.iastore, 1) := by decide +kernel
theorem dM_turn_72 : decode prog_7_method_9_code 72 = .ok (.aload_n 0, 1) := by decide +kernel
theorem dM_turn_73 : decode prog_7_method_9_code 73 = .ok (.iconst 0, 1) := by decide +kernel
theorem dM_turn_74 : decode prog_7_method_9_code 74 = .ok (.putfield 68, 3) := by decide +kernel
theorem dM_turn_77 : decode prog_7_method_9_code 77 = .ok (.aload_n 0, 1) := by decide +kernel
theorem dM_turn_78 : decode prog_7_method_9_code 78 = .ok (.getfield 13, 3) := by decide +kernel
theorem dM_turn_81 : decode prog_7_method_9_code 81 = .ok (.iconst 0, 1) := by decide +kernel
theorem dM_turn_82 : decode prog_7_method_9_code 82 = .ok (.iaload, 1) := by decide +kernel
theorem dM_turn_83 : decode prog_7_method_9_code 83 = .ok (.ireturn, 1) := by decide +kernel
theorem dM_costs_0 : decode prog_7_method_10_code 0 = .ok (.iload_n 1, 1) := by decide +kernel
theorem dM_costs_1 : decode prog_7_method_10_code 1 = .ok (.iconst 0, 1) := by decide +kernel
theorem dM_costs_2 : decode prog_7_method_10_code 2 = .ok (.bipush 100, 2) := by decide +kernel
theorem dM_costs_4 : decode prog_7_method_10_code 4 = .ok (.invokestatic 77, 3) := by decide +kernel
theorem dM_costs_7 : decode prog_7_method_10_code 7 = .ok (.ifCond .eq 45, 3) := by decide +kernel
theorem dM_costs_10 : decode prog_7_method_10_code 10 = .ok (.iload_n 2, 1) := by decide +kernel
theorem dM_costs_11 : decode prog_7_method_10_code 11 = .ok (.iconst 0, 1) := by decide +kernel
theorem dM_costs_12 : decode prog_7_method_10_code 12 = .ok (.bipush 100, 2) := by decide +kernel
theorem dM_costs_14 : decode prog_7_method_10_code 14 = .ok (.invokestatic 77, 3) := by decide +kernel
theorem dM_costs_17 : decode prog_7_method_10_code 17 = .ok (.ifCond .eq 35, 3) := by decide +kernel
theorem dM_costs_20 : decode prog_7_method_10_code 20 = .ok (.iload_n 3, 1) := by decide +kernel
theorem dM_costs_21 : decode prog_7_method_10_code 21 = .ok (.iconst 0, 1) := by decide +kernel
theorem dM_costs_22 : decode prog_7_method_10_code 22 = .ok (.bipush 100, 2) := by decide +kernel
theorem dM_costs_24 : decode prog_7_method_10_code 24 = .ok (.invokestatic 77, 3) := by decide +kernel
theorem dM_costs_27 : decode prog_7_method_10_code 27 = .ok (.ifCond .eq 25, 3) := by decide +kernel
theorem dM_costs_30 : decode prog_7_method_10_code 30 = .ok (.iload 4, 2) := by decide +kernel
theorem dM_costs_32 : decode prog_7_method_10_code 32 = .ok (.iconst 0, 1) := by decide +kernel
theorem dM_costs_33 : decode prog_7_method_10_code 33 = .ok (.bipush 100, 2) := by decide +kernel
theorem dM_costs_35 : decode prog_7_method_10_code 35 = .ok (.invokestatic 77, 3) := by decide +kernel
theorem dM_costs_38 : decode prog_7_method_10_code 38 = .ok (.ifCond .eq 14, 3) := by decide +kernel
theorem dM_costs_41 : decode prog_7_method_10_code 41 = .ok (.iload 5, 2) := by decide +kernel
theorem dM_costs_43 : decode prog_7_method_10_code 43 = .ok (.iconst 0, 1) := by decide +kernel
theorem dM_costs_44 : decode prog_7_method_10_code 44 = .ok (.bipush 100, 2) := by decide +kernel
theorem dM_costs_46 : decode prog_7_method_10_code 46 = .ok (.invokestatic 77, 3) := by decide +kernel
theorem dM_costs_49 : decode prog_7_method_10_code 49 = .ok (.ifCond .ne 6, 3) := by decide +kernel
theorem dM_costs_52 : decode prog_7_method_10_code 52 = .ok (.bipush (-2), 2) := by decide +kernel
theorem dM_costs_54 : decode prog_7_method_10_code 54 = .ok (.ireturn, 1) := by decide +kernel
theorem dM_costs_55 : decode prog_7_method_10_code 55 = .ok (.iload_n 1, 1) := by decide +kernel
theorem dM_costs_56 : decode prog_7_method_10_code 56 = .ok (.aload_n 0, 1) := by decide +kernel
theorem dM_costs_57 : decode prog_7_method_10_code 57 = .ok (.getfield 40, 3) := by decide +kernel
theorem dM_costs_60 : decode prog_7_method_10_code 60 = .ok (.if_icmp .ne 7, 3) := by decide +kernel
theorem dM_costs_63 : decode prog_7_method_10_code 63 = .ok (.iconst 0, 1) := by decide +kernel
theorem dM_costs_64 : decode prog_7_method_10_code 64 = .ok (.goto 4, 3) := by decide +kernel
theorem dM_costs_67 : decode prog_7_method_10_code 67 = .ok (.iconst 1, 1) := by decide +kernel
theorem dM_costs_68 : decode prog_7_method_10_code 68 = .ok (.iload_n 2, 1) := by decide +kernel
theorem dM_costs_69 : decode prog_7_method_10_code 69 = .ok (.aload_n 0, 1) := by decide +kernel
theorem dM_costs_70 : decode prog_7_method_10_code 70 = .ok (.getfield 44, 3) := by decide +kernel
theorem dM_costs_73 : decode prog_7_method_10_code 73 = .ok (.if_icmp .ne 7, 3) := by decide +kernel
theorem dM_costs_76 : decode prog_7_method_10_code 76 = .ok (.iconst 0, 1) := by decide +kernel
theorem dM_costs_77 : decode prog_7_method_10_code 77 = .ok (.goto 4, 3) := by decide +kernel
theorem dM_costs_80 : decode prog_7_method_10_code 80 = .ok (.iconst 1, 1) := by decide +kernel
theorem dM_costs_81 : decode prog_7_method_10_code 81 = .ok (.iadd, 1) := by decide +kernel
theorem dM_costs_82 : decode prog_7_method_10_code 82 = .ok (.iload_n 3, 1) := by decide +kernel
theorem dM_costs_83 : decode prog_7_method_10_code 83 = .ok (.aload_n 0, 1) := by decide +kernel
theorem dM_costs_84 : decode prog_7_method_10_code 84 = .ok (.getfield 47, 3) := by decide +kernel
theorem dM_costs_87 : decode prog_7_method_10_code 87 = .ok (.if_icmp .ne 7, 3) := by decide +kernel
theorem dM_costs_90 : decode prog_7_method_10_code 90 = .ok (.iconst 0, 1) := by decide +kernel
theorem dM_costs_91 : decode prog_7_method_10_code 91 = .ok (.goto 4, 3) := by decide +kernel
theorem dM_costs_94 : decode prog_7_method_10_code 94 = .ok (.iconst 1, 1) := by decide +kernel
theorem dM_costs_95 : decode prog_7_method_10_code 95 = .ok (.iadd, 1) := by decide +kernel
theorem dM_costs_96 : decode prog_7_method_10_code 96 = .ok (.iload 4, 2) := by decide +kernel
theorem dM_costs_98 : decode prog_7_method_10_code 98 = .ok (.aload_n 0, 1) := by decide +kernel
theorem dM_costs_99 : decode prog_7_method_10_code 99 = .ok (.getfield 50, 3) := by decide +kernel
theorem dM_costs_102 : decode prog_7_method_10_code 102 = .ok (.if_icmp .ne 7, 3) := by decide +kernel
theorem dM_costs_105 : decode prog_7_method_10_code 105 = .ok (.iconst 0, 1) := by decide +kernel
theorem dM_costs_106 : decode prog_7_method_10_code 106 = .ok (.goto 4, 3) := by decide +kernel
theorem dM_costs_109 : decode prog_7_method_10_code 109 = .ok (.iconst 1, 1) := by decide +kernel
theorem dM_costs_110 : decode prog_7_method_10_code 110 = .ok (.iadd, 1) := by decide +kernel
theorem dM_costs_111 : decode prog_7_method_10_code 111 = .ok (.iload 5, 2) := by decide +kernel
theorem dM_costs_113 : decode prog_7_method_10_code 113 = .ok (.aload_n 0, 1) := by decide +kernel
theorem dM_costs_114 : decode prog_7_method_10_code 114 = .ok (.getfield 53, 3) := by decide +kernel
theorem dM_costs_117 : decode prog_7_method_10_code 117 = .ok (.if_icmp .ne 7, 3) := by decide +kernel
theorem dM_costs_120 : decode prog_7_method_10_code 120 = .ok (.iconst 0, 1) := by decide +kernel
theorem dM_costs_121 : decode prog_7_method_10_code 121 = .ok (.goto 4, 3) := by decide +kernel
theorem dM_costs_124 : decode prog_7_method_10_code 124 = .ok (.iconst 1, 1) := by decide +kernel
theorem dM_costs_125 : decode prog_7_method_10_code 125 = .ok (.iadd, 1) := by decide +kernel
theorem dM_costs_126 : decode prog_7_method_10_code 126 = .ok (.istore 6, 2) := by decide +kernel
theorem dM_costs_128 : decode prog_7_method_10_code 128 = .ok (.aload_n 0, 1) := by decide +kernel
theorem dM_costs_129 : decode prog_7_method_10_code 129 = .ok (.iload_n 1, 1) := by decide +kernel
theorem dM_costs_130 : decode prog_7_method_10_code 130 = .ok (.putfield 40, 3) := by decide +kernel
theorem dM_costs_133 : decode prog_7_method_10_code 133 = .ok (.aload_n 0, 1) := by decide +kernel
theorem dM_costs_134 : decode prog_7_method_10_code 134 = .ok (.iload_n 2, 1) := by decide +kernel
theorem dM_costs_135 : decode prog_7_method_10_code 135 = .ok (.putfield 44, 3) := by decide +kernel
theorem dM_costs_138 : decode prog_7_method_10_code 138 = .ok (.aload_n 0, 1) := by decide +kernel
theorem dM_costs_139 : decode prog_7_method_10_code 139 = .ok (.iload_n 3, 1) := by decide +kernel
theorem dM_costs_140 : decode prog_7_method_10_code 140 = .ok (.putfield 47, 3) := by decide +kernel
theorem dM_costs_143 : decode prog_7_method_10_code 143 = .ok (.aload_n 0, 1) := by decide +kernel
theorem dM_costs_144 : decode prog_7_method_10_code 144 = .ok (.iload 4, 2) := by decide +kernel
theorem dM_costs_146 : decode prog_7_method_10_code 146 = .ok (.putfield 50, 3) := by decide +kernel
theorem dM_costs_149 : decode prog_7_method_10_code 149 = .ok (.aload_n 0, 1) := by decide +kernel
theorem dM_costs_150 : decode prog_7_method_10_code 150 = .ok (.iload 5, 2) := by decide +kernel
theorem dM_costs_152 : decode prog_7_method_10_code 152 = .ok (.putfield 53, 3) := by decide +kernel
theorem dM_costs_155 : decode prog_7_method_10_code 155 = .ok (.aload_n 0, 1) := by decide +kernel
theorem dM_costs_156 : decode prog_7_method_10_code 156 = .ok (.iconst 0, 1) := by decide +kernel
theorem dM_costs_157 : decode prog_7_method_10_code 157 = .ok (.putfield 68, 3) := by decide +kernel
theorem dM_costs_160 : decode prog_7_method_10_code 160 = .ok (.iload 6, 2) := by decide +kernel
theorem dM_costs_162 : decode prog_7_method_10_code 162 = .ok (.ireturn, 1) := by decide +kernel
theorem dM_plan_0 : decode prog_7_method_16_code 0 = .ok (.aload_n 0, 1) := by decide +kernel
theorem dM_plan_1 : decode prog_7_method_16_code 1 = .ok (.invokevirtual 103, 3) := by decide +kernel
theorem dM_plan_4 : decode prog_7_method_16_code 4 = .ok (.aload_n 0, 1) := by decide +kernel
theorem dM_plan_5 : decode prog_7_method_16_code 5 = .ok (.iconst 0, 1) := by decide +kernel
theorem dM_plan_6 : decode prog_7_method_16_code 6 = .ok (.putfield 56, 3) := by decide +kernel
theorem dM_plan_9 : decode prog_7_method_16_code 9 = .ok (.aload_n 0, 1) := by decide +kernel
theorem dM_plan_10 : decode prog_7_method_16_code 10 = .ok (.aload_n 0, 1) := by decide +kernel
theorem dM_plan_11 : decode prog_7_method_16_code 11 = .ok (.iconst 0, 1) := by decide +kernel
theorem dM_plan_12 : decode prog_7_method_16_code 12 = .ok (.invokevirtual 106, 3) := by decide +kernel
theorem dM_plan_15 : decode prog_7_method_16_code 15 = .ok (.putfield 59, 3) := by decide +kernel
theorem dM_plan_18 : decode prog_7_method_16_code 18 = .ok (.iconst 0, 1) := by decide +kernel
theorem dM_plan_19 : decode prog_7_method_16_code 19 = .ok (.istore_n 1, 1) := by decide +kernel
theorem dM_plan_20 : decode prog_7_method_16_code 20 = .ok (.iconst 0, 1) := by decide +kernel
theorem dM_plan_21 : decode prog_7_method_16_code 21 = .ok (.istore_n 2, 1) := by decide +kernel
theorem dM_plan_22 : decode prog_7_method_16_code 22 = .ok (.iload_n 1, 1) := by decide +kernel
theorem dM_plan_23 : decode prog_7_method_16_code 23 = .ok (.aload_n 0, 1) := by decide +kernel
theorem dM_plan_24 : decode prog_7_method_16_code 24 = .ok (.getfield 13, 3) := by decide +kernel
theorem dM_plan_27 : decode prog_7_method_16_code 27 = .ok (.iconst 1, 1) := by decide +kernel
theorem dM_plan_28 : decode prog_7_method_16_code 28 = .ok (.iaload, 1) := by decide +kernel
theorem dM_plan_29 : decode prog_7_method_16_code 29 = .ok (.if_icmp .ge 135, 3) := by decide +kernel
theorem dM_plan_32 : decode prog_7_method_16_code 32 = .ok (.aload_n 0, 1) := by decide +kernel
theorem dM_plan_33 : decode prog_7_method_16_code 33 = .ok (.iload_n 1, 1) := by decide +kernel
theorem dM_plan_34 : decode prog_7_method_16_code 34 = .ok (.iload_n 2, 1) := by decide +kernel
theorem dM_plan_35 : decode prog_7_method_16_code 35 = .ok (.invokevirtual 110, 3) := by decide +kernel
theorem dM_plan_38 : decode prog_7_method_16_code 38 = .ok (.aload_n 0, 1) := by decide +kernel
theorem dM_plan_39 : decode prog_7_method_16_code 39 = .ok (.getfield 16, 3) := by decide +kernel
theorem dM_plan_42 : decode prog_7_method_16_code 42 = .ok (.aload_n 0, 1) := by decide +kernel
theorem dM_plan_43 : decode prog_7_method_16_code 43 = .ok (.getfield 56, 3) := by decide +kernel
theorem dM_plan_46 : decode prog_7_method_16_code 46 = .ok (.aload_n 0, 1) := by decide +kernel
theorem dM_plan_47 : decode prog_7_method_16_code 47 = .ok (.getfield 94, 3) := by decide +kernel
theorem dM_plan_50 : decode prog_7_method_16_code 50 = .ok (.iastore, 1) := by decide +kernel
theorem dM_plan_51 : decode prog_7_method_16_code 51 = .ok (.aload_n 0, 1) := by decide +kernel
theorem dM_plan_52 : decode prog_7_method_16_code 52 = .ok (.getfield 19, 3) := by decide +kernel
theorem dM_plan_55 : decode prog_7_method_16_code 55 = .ok (.aload_n 0, 1) := by decide +kernel
theorem dM_plan_56 : decode prog_7_method_16_code 56 = .ok (.getfield 56, 3) := by decide +kernel
theorem dM_plan_59 : decode prog_7_method_16_code 59 = .ok (.aload_n 0, 1) := by decide +kernel
theorem dM_plan_60 : decode prog_7_method_16_code 60 = .ok (.getfield 97, 3) := by decide +kernel
theorem dM_plan_63 : decode prog_7_method_16_code 63 = .ok (.iastore, 1) := by decide +kernel
theorem dM_plan_64 : decode prog_7_method_16_code 64 = .ok (.aload_n 0, 1) := by decide +kernel
theorem dM_plan_65 : decode prog_7_method_16_code 65 = .ok (.getfield 22, 3) := by decide +kernel
theorem dM_plan_68 : decode prog_7_method_16_code 68 = .ok (.aload_n 0, 1) := by decide +kernel
theorem dM_plan_69 : decode prog_7_method_16_code 69 = .ok (.getfield 56, 3) := by decide +kernel
theorem dM_plan_72 : decode prog_7_method_16_code 72 = .ok (.aload_n 0, 1) := by decide +kernel
theorem dM_plan_73 : decode prog_7_method_16_code 73 = .ok (.getfield 100, 3) := by decide +kernel
theorem dM_plan_76 : decode prog_7_method_16_code 76 = .ok (.iastore, 1) := by decide +kernel
theorem dM_plan_77 : decode prog_7_method_16_code 77 = .ok (.iconst 0, 1) := by decide +kernel
theorem dM_plan_78 : decode prog_7_method_16_code 78 = .ok (.istore_n 3, 1) := by decide +kernel
theorem dM_plan_79 : decode prog_7_method_16_code 79 = .ok (.iload_n 3, 1) := by decide +kernel
theorem dM_plan_80 : decode prog_7_method_16_code 80 = .ok (.aload_n 0, 1) := by decide +kernel
theorem dM_plan_81 : decode prog_7_method_16_code 81 = .ok (.getfield 100, 3) := by decide +kernel
theorem dM_plan_84 : decode prog_7_method_16_code 84 = .ok (.if_icmp .ge 39, 3) := by decide +kernel
theorem dM_plan_87 : decode prog_7_method_16_code 87 = .ok (.aload_n 0, 1) := by decide +kernel
theorem dM_plan_88 : decode prog_7_method_16_code 88 = .ok (.getfield 94, 3) := by decide +kernel
theorem dM_plan_91 : decode prog_7_method_16_code 91 = .ok (.iconst 2, 1) := by decide +kernel
theorem dM_plan_92 : decode prog_7_method_16_code 92 = .ok (.if_icmp .ne 31, 3) := by decide +kernel
theorem dM_plan_95 : decode prog_7_method_16_code 95 = .ok (.aload_n 0, 1) := by decide +kernel
theorem dM_plan_96 : decode prog_7_method_16_code 96 = .ok (.getfield 25, 3) := by decide +kernel
theorem dM_plan_99 : decode prog_7_method_16_code 99 = .ok (.bipush 40, 2) := by decide +kernel
theorem dM_plan_101 : decode prog_7_method_16_code 101 = .ok (.aload_n 0, 1) := by decide +kernel
theorem dM_plan_102 : decode prog_7_method_16_code 102 = .ok (.getfield 56, 3) := by decide +kernel
theorem dM_plan_105 : decode prog_7_method_16_code 105 = .ok (.imul, 1) := by decide +kernel
theorem dM_plan_106 : decode prog_7_method_16_code 106 = .ok (.iload_n 3, 1) := by decide +kernel
theorem dM_plan_107 : decode prog_7_method_16_code 107 = .ok (.iadd, 1) := by decide +kernel
theorem dM_plan_108 : decode prog_7_method_16_code 108 = .ok (.aload_n 0, 1) := by decide +kernel
theorem dM_plan_109 : decode prog_7_method_16_code 109 = .ok (.iconst 1, 1) := by decide +kernel
theorem dM_plan_110 : decode prog_7_method_16_code 110 = .ok (.iload_n 1, 1) := by decide +kernel
theorem dM_plan_111 : decode prog_7_method_16_code 111 = .ok (.iload_n 3, 1) := by decide +kernel
theorem dM_plan_112 : decode prog_7_method_16_code 112 = .ok (.iadd, 1) := by decide +kernel
theorem dM_plan_113 : decode prog_7_method_16_code 113 = .ok (.invokevirtual 72, 3) := by decide +kernel
theorem dM_plan_116 : decode prog_7_method_16_code 116 = .ok (.iastore, 1) := by decide +kernel
theorem dM_plan_117 : decode prog_7_method_16_code 117 = .ok (.iinc 3 1, 3) := by decide +kernel
theorem dM_plan_120 : decode prog_7_method_16_code 120 = .ok (.goto (-41), 3) := by decide +kernel
theorem dM_plan_123 : decode prog_7_method_16_code 123 = .ok (.aload_n 0, 1) := by decide +kernel
theorem dM_plan_124 : decode prog_7_method_16_code 124 = .ok (.dup, 1) := by decide +kernel
theorem dM_plan_125 : decode prog_7_method_16_code 125 = .ok (.getfield 56, 3) := by decide +kernel
theorem dM_plan_128 : decode prog_7_method_16_code 128 = .ok (.iconst 1, 1) := by decide +kernel
theorem dM_plan_129 : decode prog_7_method_16_code 129 = .ok (.iadd, 1) := by decide +kernel
theorem dM_plan_130 : decode prog_7_method_16_code 130 = .ok (.putfield 56, 3) := by decide +kernel
theorem dM_plan_133 : decode prog_7_method_16_code 133 = .ok (.aload_n 0, 1) := by decide +kernel
theorem dM_plan_134 : decode prog_7_method_16_code 134 = .ok (.getfield 94, 3) := by decide +kernel
theorem dM_plan_137 : decode prog_7_method_16_code 137 = .ok (.ifCond .ne 15, 3) := by decide +kernel
theorem dM_plan_140 : decode prog_7_method_16_code 140 = .ok (.aload_n 0, 1) := by decide +kernel
theorem dM_plan_141 : decode prog_7_method_16_code 141 = .ok (.getfield 97, 3) := by decide +kernel
theorem dM_plan_144 : decode prog_7_method_16_code 144 = .ok (.aload_n 0, 1) := by decide +kernel
theorem dM_plan_145 : decode prog_7_method_16_code 145 = .ok (.getfield 100, 3) := by decide +kernel
theorem dM_plan_148 : decode prog_7_method_16_code 148 = .ok (.iadd, 1) := by decide +kernel
theorem dM_plan_149 : decode prog_7_method_16_code 149 = .ok (.goto 4, 3) := by decide +kernel
theorem dM_plan_152 : decode prog_7_method_16_code 152 = .ok (.iload_n 2, 1) := by decide +kernel
theorem dM_plan_153 : decode prog_7_method_16_code 153 = .ok (.istore_n 2, 1) := by decide +kernel
theorem dM_plan_154 : decode prog_7_method_16_code 154 = .ok (.iload_n 1, 1) := by decide +kernel
theorem dM_plan_155 : decode prog_7_method_16_code 155 = .ok (.aload_n 0, 1) := by decide +kernel
theorem dM_plan_156 : decode prog_7_method_16_code 156 = .ok (.getfield 100, 3) := by decide +kernel
theorem dM_plan_159 : decode prog_7_method_16_code 159 = .ok (.iadd, 1) := by decide +kernel
theorem dM_plan_160 : decode prog_7_method_16_code 160 = .ok (.istore_n 1, 1) := by decide +kernel
theorem dM_plan_161 : decode prog_7_method_16_code 161 = .ok (.goto (-139), 3) := by decide +kernel
theorem dM_plan_164 : decode prog_7_method_16_code 164 = .ok (.aload_n 0, 1) := by decide +kernel
theorem dM_plan_165 : decode prog_7_method_16_code 165 = .ok (.getfield 56, 3) := by decide +kernel
theorem dM_plan_168 : decode prog_7_method_16_code 168 = .ok (.ireturn, 1) := by decide +kernel
theorem dM_learn_0 : decode prog_7_method_13_code 0 = .ok (.aload_n 0, 1) := by decide +kernel
theorem dM_learn_1 : decode prog_7_method_13_code 1 = .ok (.getfield 68, 3) := by decide +kernel
theorem dM_learn_4 : decode prog_7_method_13_code 4 = .ok (.ifCond .eq 4, 3) := by decide +kernel
theorem dM_learn_7 : decode prog_7_method_13_code 7 = .ok (.return_, 1) := by decide +kernel
theorem dM_learn_8 : decode prog_7_method_13_code 8 = .ok (.aload_n 0, 1) := by decide +kernel
theorem dM_learn_9 : decode prog_7_method_13_code 9 = .ok (.iconst 1, 1) := by decide +kernel
theorem dM_learn_10 : decode prog_7_method_13_code 10 = .ok (.putfield 68, 3) := by decide +kernel
theorem dM_learn_13 : decode prog_7_method_13_code 13 = .ok (.aload_n 0, 1) := by decide +kernel
theorem dM_learn_14 : decode prog_7_method_13_code 14 = .ok (.getfield 13, 3) := by decide +kernel
theorem dM_learn_17 : decode prog_7_method_13_code 17 = .ok (.iconst 1, 1) := by decide +kernel
theorem dM_learn_18 : decode prog_7_method_13_code 18 = .ok (.iaload, 1) := by decide +kernel
theorem dM_learn_19 : decode prog_7_method_13_code 19 = .ok (.istore_n 1, 1) := by decide +kernel
theorem dM_learn_20 : decode prog_7_method_13_code 20 = .ok (.iload_n 1, 1) := by decide +kernel
theorem dM_learn_21 : decode prog_7_method_13_code 21 = .ok (.ifCond .lt 54, 3) := by decide +kernel
theorem dM_learn_24 : decode prog_7_method_13_code 24 = .ok (.iconst 0, 1) := by decide +kernel
theorem dM_learn_25 : decode prog_7_method_13_code 25 = .ok (.istore_n 2, 1) := by decide +kernel
theorem dM_learn_26 : decode prog_7_method_13_code 26 = .ok (.iload_n 2, 1) := by decide +kernel
theorem dM_learn_27 : decode prog_7_method_13_code 27 = .ok (.aload_n 0, 1) := by decide +kernel
theorem dM_learn_28 : decode prog_7_method_13_code 28 = .ok (.getfield 13, 3) := by decide +kernel
theorem dM_learn_31 : decode prog_7_method_13_code 31 = .ok (.iconst 0, 1) := by decide +kernel
theorem dM_learn_32 : decode prog_7_method_13_code 32 = .ok (.iaload, 1) := by decide +kernel
theorem dM_learn_33 : decode prog_7_method_13_code 33 = .ok (.if_icmp .gt 36, 3) := by decide +kernel
theorem dM_learn_36 : decode prog_7_method_13_code 36 = .ok (.aload_n 0, 1) := by decide +kernel
theorem dM_learn_37 : decode prog_7_method_13_code 37 = .ok (.getfield 34, 3) := by decide +kernel
theorem dM_learn_40 : decode prog_7_method_13_code 40 = .ok (.bipush 41, 2) := by decide +kernel
theorem dM_learn_42 : decode prog_7_method_13_code 42 = .ok (.iload_n 1, 1) := by decide +kernel
theorem dM_learn_43 : decode prog_7_method_13_code 43 = .ok (.imul, 1) := by decide +kernel
theorem dM_learn_44 : decode prog_7_method_13_code 44 = .ok (.iload_n 2, 1) := by decide +kernel
theorem dM_learn_45 : decode prog_7_method_13_code 45 = .ok (.iadd, 1) := by decide +kernel
theorem dM_learn_46 : decode prog_7_method_13_code 46 = .ok (.iload_n 1, 1) := by decide +kernel
theorem dM_learn_47 : decode prog_7_method_13_code 47 = .ok (.aload_n 0, 1) := by decide +kernel
theorem dM_learn_48 : decode prog_7_method_13_code 48 = .ok (.getfield 13, 3) := by decide +kernel
theorem dM_learn_51 : decode prog_7_method_13_code 51 = .ok (.iconst 1, 1) := by decide +kernel
theorem dM_learn_52 : decode prog_7_method_13_code 52 = .ok (.iaload, 1) := by decide +kernel
theorem dM_learn_53 : decode prog_7_method_13_code 53 = .ok (.if_icmp .ne 7, 3) := by decide +kernel
theorem dM_learn_56 : decode prog_7_method_13_code 56 = .ok (.iconst 0, 1) := by decide +kernel
theorem dM_learn_57 : decode prog_7_method_13_code 57 = .ok (.goto 5, 3) := by decide +kernel
theorem dM_learn_60 : decode prog_7_method_13_code 60 = .ok (.ldc 81, 2) := by decide +kernel
theorem dM_learn_62 : decode prog_7_method_13_code 62 = .ok (.iastore, 1) := by decide +kernel
theorem dM_learn_63 : decode prog_7_method_13_code 63 = .ok (.iinc 2 1, 3) := by decide +kernel
theorem dM_learn_66 : decode prog_7_method_13_code 66 = .ok (.goto (-40), 3) := by decide +kernel
theorem dM_learn_69 : decode prog_7_method_13_code 69 = .ok (.iinc 1 (-1), 3) := by decide +kernel
theorem dM_learn_72 : decode prog_7_method_13_code 72 = .ok (.goto (-52), 3) := by decide +kernel
theorem dM_learn_75 : decode prog_7_method_13_code 75 = .ok (.aload_n 0, 1) := by decide +kernel
theorem dM_learn_76 : decode prog_7_method_13_code 76 = .ok (.getfield 13, 3) := by decide +kernel
theorem dM_learn_79 : decode prog_7_method_13_code 79 = .ok (.iconst 1, 1) := by decide +kernel
theorem dM_learn_80 : decode prog_7_method_13_code 80 = .ok (.iaload, 1) := by decide +kernel
theorem dM_learn_81 : decode prog_7_method_13_code 81 = .ok (.iconst 1, 1) := by decide +kernel
theorem dM_learn_82 : decode prog_7_method_13_code 82 = .ok (.isub, 1) := by decide +kernel
theorem dM_learn_83 : decode prog_7_method_13_code 83 = .ok (.istore_n 1, 1) := by decide +kernel
theorem dM_learn_84 : decode prog_7_method_13_code 84 = .ok (.iload_n 1, 1) := by decide +kernel
theorem dM_learn_85 : decode prog_7_method_13_code 85 = .ok (.ifCond .lt 260, 3) := by decide +kernel
theorem dM_learn_88 : decode prog_7_method_13_code 88 = .ok (.iconst 0, 1) := by decide +kernel
theorem dM_learn_89 : decode prog_7_method_13_code 89 = .ok (.istore_n 2, 1) := by decide +kernel
theorem dM_learn_90 : decode prog_7_method_13_code 90 = .ok (.iload_n 2, 1) := by decide +kernel
theorem dM_learn_91 : decode prog_7_method_13_code 91 = .ok (.aload_n 0, 1) := by decide +kernel
theorem dM_learn_92 : decode prog_7_method_13_code 92 = .ok (.getfield 13, 3) := by decide +kernel
theorem dM_learn_95 : decode prog_7_method_13_code 95 = .ok (.iconst 0, 1) := by decide +kernel
theorem dM_learn_96 : decode prog_7_method_13_code 96 = .ok (.iaload, 1) := by decide +kernel
theorem dM_learn_97 : decode prog_7_method_13_code 97 = .ok (.if_icmp .ge 87, 3) := by decide +kernel
theorem dM_learn_100 : decode prog_7_method_13_code 100 = .ok (.aload_n 0, 1) := by decide +kernel
theorem dM_learn_101 : decode prog_7_method_13_code 101 = .ok (.iconst 0, 1) := by decide +kernel
theorem dM_learn_102 : decode prog_7_method_13_code 102 = .ok (.iload_n 2, 1) := by decide +kernel
theorem dM_learn_103 : decode prog_7_method_13_code 103 = .ok (.iload_n 1, 1) := by decide +kernel
theorem dM_learn_104 : decode prog_7_method_13_code 104 = .ok (.invokevirtual 82, 3) := by decide +kernel
theorem dM_learn_107 : decode prog_7_method_13_code 107 = .ok (.istore_n 3, 1) := by decide +kernel
theorem dM_learn_108 : decode prog_7_method_13_code 108 = .ok (.iconst 1, 1) := by decide +kernel
theorem dM_learn_109 : decode prog_7_method_13_code 109 = .ok (.istore 4, 2) := by decide +kernel
theorem dM_learn_111 : decode prog_7_method_13_code 111 = .ok (.iload 4, 2) := by decide +kernel
theorem dM_learn_113 : decode prog_7_method_13_code 113 = .ok (.iload_n 3, 1) := by decide +kernel
theorem dM_learn_114 : decode prog_7_method_13_code 114 = .ok (.if_icmp .gt 64, 3) := by decide +kernel
theorem dM_learn_117 : decode prog_7_method_13_code 117 = .ok (.iconst 0, 1) := by decide +kernel
theorem dM_learn_118 : decode prog_7_method_13_code 118 = .ok (.istore 5, 2) := by decide +kernel
theorem dM_learn_120 : decode prog_7_method_13_code 120 = .ok (.iload 5, 2) := by decide +kernel
theorem dM_learn_122 : decode prog_7_method_13_code 122 = .ok (.aload_n 0, 1) := by decide +kernel
theorem dM_learn_123 : decode prog_7_method_13_code 123 = .ok (.getfield 13, 3) := by decide +kernel
theorem dM_learn_126 : decode prog_7_method_13_code 126 = .ok (.iconst 0, 1) := by decide +kernel
theorem dM_learn_127 : decode prog_7_method_13_code 127 = .ok (.iaload, 1) := by decide +kernel
theorem dM_learn_128 : decode prog_7_method_13_code 128 = .ok (.if_icmp .gt 44, 3) := by decide +kernel
theorem dM_learn_131 : decode prog_7_method_13_code 131 = .ok (.aload_n 0, 1) := by decide +kernel
theorem dM_learn_132 : decode prog_7_method_13_code 132 = .ok (.iload_n 1, 1) := by decide +kernel
theorem dM_learn_133 : decode prog_7_method_13_code 133 = .ok (.iload 5, 2) := by decide +kernel
theorem dM_learn_135 : decode prog_7_method_13_code 135 = .ok (.aload_n 0, 1) := by decide +kernel
theorem dM_learn_136 : decode prog_7_method_13_code 136 = .ok (.iconst 0, 1) := by decide +kernel
theorem dM_learn_137 : decode prog_7_method_13_code 137 = .ok (.iload_n 2, 1) := by decide +kernel
theorem dM_learn_138 : decode prog_7_method_13_code 138 = .ok (.iload 4, 2) := by decide +kernel
theorem dM_learn_140 : decode prog_7_method_13_code 140 = .ok (.iload 5, 2) := by decide +kernel
theorem dM_learn_142 : decode prog_7_method_13_code 142 = .ok (.invokevirtual 86, 3) := by decide +kernel
theorem dM_learn_145 : decode prog_7_method_13_code 145 = .ok (.aload_n 0, 1) := by decide +kernel
theorem dM_learn_146 : decode prog_7_method_13_code 146 = .ok (.getfield 34, 3) := by decide +kernel
theorem dM_learn_149 : decode prog_7_method_13_code 149 = .ok (.bipush 41, 2) := by decide +kernel
theorem dM_learn_151 : decode prog_7_method_13_code 151 = .ok (.iload_n 1, 1) := by decide +kernel
theorem dM_learn_152 : decode prog_7_method_13_code 152 = .ok (.iload 4, 2) := by decide +kernel
theorem dM_learn_154 : decode prog_7_method_13_code 154 = .ok (.iadd, 1) := by decide +kernel
theorem dM_learn_155 : decode prog_7_method_13_code 155 = .ok (.imul, 1) := by decide +kernel
theorem dM_learn_156 : decode prog_7_method_13_code 156 = .ok (.iload_n 2, 1) := by decide +kernel
theorem dM_learn_157 : decode prog_7_method_13_code 157 = .ok (.iadd, 1) := by decide +kernel
theorem dM_learn_158 : decode prog_7_method_13_code 158 = .ok (.iload 4, 2) := by decide +kernel
theorem dM_learn_160 : decode prog_7_method_13_code 160 = .ok (.iadd, 1) := by decide +kernel
theorem dM_learn_161 : decode prog_7_method_13_code 161 = .ok (.iaload, 1) := by decide +kernel
theorem dM_learn_162 : decode prog_7_method_13_code 162 = .ok (.iadd, 1) := by decide +kernel
theorem dM_learn_163 : decode prog_7_method_13_code 163 = .ok (.invokevirtual 90, 3) := by decide +kernel
theorem dM_learn_166 : decode prog_7_method_13_code 166 = .ok (.iinc 5 1, 3) := by decide +kernel
theorem dM_learn_169 : decode prog_7_method_13_code 169 = .ok (.goto (-49), 3) := by decide +kernel
theorem dM_learn_172 : decode prog_7_method_13_code 172 = .ok (.iinc 4 1, 3) := by decide +kernel
theorem dM_learn_175 : decode prog_7_method_13_code 175 = .ok (.goto (-64), 3) := by decide +kernel
theorem dM_learn_178 : decode prog_7_method_13_code 178 = .ok (.iinc 2 1, 3) := by decide +kernel
theorem dM_learn_181 : decode prog_7_method_13_code 181 = .ok (.goto (-91), 3) := by decide +kernel
theorem dM_learn_184 : decode prog_7_method_13_code 184 = .ok (.iconst 0, 1) := by decide +kernel
theorem dM_learn_185 : decode prog_7_method_13_code 185 = .ok (.istore_n 2, 1) := by decide +kernel
theorem dM_learn_186 : decode prog_7_method_13_code 186 = .ok (.iload_n 2, 1) := by decide +kernel
theorem dM_learn_187 : decode prog_7_method_13_code 187 = .ok (.iload_n 1, 1) := by decide +kernel
theorem dM_learn_188 : decode prog_7_method_13_code 188 = .ok (.if_icmp .ge 85, 3) := by decide +kernel
theorem dM_learn_191 : decode prog_7_method_13_code 191 = .ok (.aload_n 0, 1) := by decide +kernel
theorem dM_learn_192 : decode prog_7_method_13_code 192 = .ok (.iconst 1, 1) := by decide +kernel
theorem dM_learn_193 : decode prog_7_method_13_code 193 = .ok (.iload_n 2, 1) := by decide +kernel
theorem dM_learn_194 : decode prog_7_method_13_code 194 = .ok (.iload_n 1, 1) := by decide +kernel
theorem dM_learn_195 : decode prog_7_method_13_code 195 = .ok (.invokevirtual 82, 3) := by decide +kernel
theorem dM_learn_198 : decode prog_7_method_13_code 198 = .ok (.istore_n 3, 1) := by decide +kernel
theorem dM_learn_199 : decode prog_7_method_13_code 199 = .ok (.iconst 1, 1) := by decide +kernel
theorem dM_learn_200 : decode prog_7_method_13_code 200 = .ok (.istore 4, 2) := by decide +kernel
theorem dM_learn_202 : decode prog_7_method_13_code 202 = .ok (.iload 4, 2) := by decide +kernel
theorem dM_learn_204 : decode prog_7_method_13_code 204 = .ok (.iload_n 3, 1) := by decide +kernel
theorem dM_learn_205 : decode prog_7_method_13_code 205 = .ok (.if_icmp .gt 62, 3) := by decide +kernel
theorem dM_learn_208 : decode prog_7_method_13_code 208 = .ok (.iconst 0, 1) := by decide +kernel
theorem dM_learn_209 : decode prog_7_method_13_code 209 = .ok (.istore 5, 2) := by decide +kernel
theorem dM_learn_211 : decode prog_7_method_13_code 211 = .ok (.iload 5, 2) := by decide +kernel
theorem dM_learn_213 : decode prog_7_method_13_code 213 = .ok (.aload_n 0, 1) := by decide +kernel
theorem dM_learn_214 : decode prog_7_method_13_code 214 = .ok (.getfield 13, 3) := by decide +kernel
theorem dM_learn_217 : decode prog_7_method_13_code 217 = .ok (.iconst 0, 1) := by decide +kernel
theorem dM_learn_218 : decode prog_7_method_13_code 218 = .ok (.iaload, 1) := by decide +kernel
theorem dM_learn_219 : decode prog_7_method_13_code 219 = .ok (.if_icmp .gt 42, 3) := by decide +kernel
theorem dM_learn_222 : decode prog_7_method_13_code 222 = .ok (.aload_n 0, 1) := by decide +kernel
theorem dM_learn_223 : decode prog_7_method_13_code 223 = .ok (.iload_n 1, 1) := by decide +kernel
theorem dM_learn_224 : decode prog_7_method_13_code 224 = .ok (.iload 5, 2) := by decide +kernel
theorem dM_learn_226 : decode prog_7_method_13_code 226 = .ok (.aload_n 0, 1) := by decide +kernel
theorem dM_learn_227 : decode prog_7_method_13_code 227 = .ok (.iconst 1, 1) := by decide +kernel
theorem dM_learn_228 : decode prog_7_method_13_code 228 = .ok (.iload_n 2, 1) := by decide +kernel
theorem dM_learn_229 : decode prog_7_method_13_code 229 = .ok (.iload 4, 2) := by decide +kernel
theorem dM_learn_231 : decode prog_7_method_13_code 231 = .ok (.iload 5, 2) := by decide +kernel
theorem dM_learn_233 : decode prog_7_method_13_code 233 = .ok (.invokevirtual 86, 3) := by decide +kernel
theorem dM_learn_236 : decode prog_7_method_13_code 236 = .ok (.aload_n 0, 1) := by decide +kernel
theorem dM_learn_237 : decode prog_7_method_13_code 237 = .ok (.getfield 34, 3) := by decide +kernel
theorem dM_learn_240 : decode prog_7_method_13_code 240 = .ok (.bipush 41, 2) := by decide +kernel
theorem dM_learn_242 : decode prog_7_method_13_code 242 = .ok (.iload_n 1, 1) := by decide +kernel
theorem dM_learn_243 : decode prog_7_method_13_code 243 = .ok (.iload 4, 2) := by decide +kernel
theorem dM_learn_245 : decode prog_7_method_13_code 245 = .ok (.iadd, 1) := by decide +kernel
theorem dM_learn_246 : decode prog_7_method_13_code 246 = .ok (.imul, 1) := by decide +kernel
theorem dM_learn_247 : decode prog_7_method_13_code 247 = .ok (.iload 5, 2) := by decide +kernel
theorem dM_learn_249 : decode prog_7_method_13_code 249 = .ok (.iadd, 1) := by decide +kernel
theorem dM_learn_250 : decode prog_7_method_13_code 250 = .ok (.iaload, 1) := by decide +kernel
theorem dM_learn_251 : decode prog_7_method_13_code 251 = .ok (.iadd, 1) := by decide +kernel
theorem dM_learn_252 : decode prog_7_method_13_code 252 = .ok (.invokevirtual 90, 3) := by decide +kernel
theorem dM_learn_255 : decode prog_7_method_13_code 255 = .ok (.iinc 5 1, 3) := by decide +kernel
theorem dM_learn_258 : decode prog_7_method_13_code 258 = .ok (.goto (-47), 3) := by decide +kernel
theorem dM_learn_261 : decode prog_7_method_13_code 261 = .ok (.iinc 4 1, 3) := by decide +kernel
theorem dM_learn_264 : decode prog_7_method_13_code 264 = .ok (.goto (-62), 3) := by decide +kernel
theorem dM_learn_267 : decode prog_7_method_13_code 267 = .ok (.iinc 2 1, 3) := by decide +kernel
theorem dM_learn_270 : decode prog_7_method_13_code 270 = .ok (.goto (-84), 3) := by decide +kernel
theorem dM_learn_273 : decode prog_7_method_13_code 273 = .ok (.iconst 1, 1) := by decide +kernel
theorem dM_learn_274 : decode prog_7_method_13_code 274 = .ok (.istore_n 2, 1) := by decide +kernel
theorem dM_learn_275 : decode prog_7_method_13_code 275 = .ok (.iload_n 2, 1) := by decide +kernel
theorem dM_learn_276 : decode prog_7_method_13_code 276 = .ok (.aload_n 0, 1) := by decide +kernel
theorem dM_learn_277 : decode prog_7_method_13_code 277 = .ok (.getfield 13, 3) := by decide +kernel
theorem dM_learn_280 : decode prog_7_method_13_code 280 = .ok (.iconst 1, 1) := by decide +kernel
theorem dM_learn_281 : decode prog_7_method_13_code 281 = .ok (.iaload, 1) := by decide +kernel
theorem dM_learn_282 : decode prog_7_method_13_code 282 = .ok (.iload_n 1, 1) := by decide +kernel
theorem dM_learn_283 : decode prog_7_method_13_code 283 = .ok (.isub, 1) := by decide +kernel
theorem dM_learn_284 : decode prog_7_method_13_code 284 = .ok (.if_icmp .gt 55, 3) := by decide +kernel
theorem dM_learn_287 : decode prog_7_method_13_code 287 = .ok (.iconst 0, 1) := by decide +kernel
theorem dM_learn_288 : decode prog_7_method_13_code 288 = .ok (.istore_n 3, 1) := by decide +kernel
theorem dM_learn_289 : decode prog_7_method_13_code 289 = .ok (.iload_n 3, 1) := by decide +kernel
theorem dM_learn_290 : decode prog_7_method_13_code 290 = .ok (.aload_n 0, 1) := by decide +kernel
theorem dM_learn_291 : decode prog_7_method_13_code 291 = .ok (.getfield 13, 3) := by decide +kernel
theorem dM_learn_294 : decode prog_7_method_13_code 294 = .ok (.iconst 0, 1) := by decide +kernel
theorem dM_learn_295 : decode prog_7_method_13_code 295 = .ok (.iaload, 1) := by decide +kernel
theorem dM_learn_296 : decode prog_7_method_13_code 296 = .ok (.if_icmp .gt 37, 3) := by decide +kernel
theorem dM_learn_299 : decode prog_7_method_13_code 299 = .ok (.aload_n 0, 1) := by decide +kernel
theorem dM_learn_300 : decode prog_7_method_13_code 300 = .ok (.iload_n 1, 1) := by decide +kernel
theorem dM_learn_301 : decode prog_7_method_13_code 301 = .ok (.iload_n 3, 1) := by decide +kernel
theorem dM_learn_302 : decode prog_7_method_13_code 302 = .ok (.aload_n 0, 1) := by decide +kernel
theorem dM_learn_303 : decode prog_7_method_13_code 303 = .ok (.iconst 2, 1) := by decide +kernel
theorem dM_learn_304 : decode prog_7_method_13_code 304 = .ok (.iconst 0, 1) := by decide +kernel
theorem dM_learn_305 : decode prog_7_method_13_code 305 = .ok (.iload_n 2, 1) := by decide +kernel
theorem dM_learn_306 : decode prog_7_method_13_code 306 = .ok (.iload_n 3, 1) := by decide +kernel
theorem dM_learn_307 : decode prog_7_method_13_code 307 = .ok (.invokevirtual 86, 3) := by decide +kernel
theorem dM_learn_310 : decode prog_7_method_13_code 310 = .ok (.aload_n 0, 1) := by decide +kernel
theorem dM_learn_311 : decode prog_7_method_13_code 311 = .ok (.getfield 34, 3) := by decide +kernel
theorem dM_learn_314 : decode prog_7_method_13_code 314 = .ok (.bipush 41, 2) := by decide +kernel
theorem dM_learn_316 : decode prog_7_method_13_code 316 = .ok (.iload_n 1, 1) := by decide +kernel
theorem dM_learn_317 : decode prog_7_method_13_code 317 = .ok (.iload_n 2, 1) := by decide +kernel
theorem dM_learn_318 : decode prog_7_method_13_code 318 = .ok (.iadd, 1) := by decide +kernel
theorem dM_learn_319 : decode prog_7_method_13_code 319 = .ok (.imul, 1) := by decide +kernel
theorem dM_learn_320 : decode prog_7_method_13_code 320 = .ok (.iload_n 3, 1) := by decide +kernel
theorem dM_learn_321 : decode prog_7_method_13_code 321 = .ok (.iadd, 1) := by decide +kernel
theorem dM_learn_322 : decode prog_7_method_13_code 322 = .ok (.iaload, 1) := by decide +kernel
theorem dM_learn_323 : decode prog_7_method_13_code 323 = .ok (.iadd, 1) := by decide +kernel
theorem dM_learn_324 : decode prog_7_method_13_code 324 = .ok (.invokevirtual 90, 3) := by decide +kernel
theorem dM_learn_327 : decode prog_7_method_13_code 327 = .ok (.iinc 3 1, 3) := by decide +kernel
theorem dM_learn_330 : decode prog_7_method_13_code 330 = .ok (.goto (-41), 3) := by decide +kernel
theorem dM_learn_333 : decode prog_7_method_13_code 333 = .ok (.iinc 2 1, 3) := by decide +kernel
theorem dM_learn_336 : decode prog_7_method_13_code 336 = .ok (.goto (-61), 3) := by decide +kernel
theorem dM_learn_339 : decode prog_7_method_13_code 339 = .ok (.iinc 1 (-1), 3) := by decide +kernel
theorem dM_learn_342 : decode prog_7_method_13_code 342 = .ok (.goto (-258), 3) := by decide +kernel
theorem dM_learn_345 : decode prog_7_method_13_code 345 = .ok (.return_, 1) := by decide +kernel
theorem dM_like_0 : decode prog_7_method_12_code 0 = .ok (.iconst 0, 1) := by decide +kernel
theorem dM_like_1 : decode prog_7_method_12_code 1 = .ok (.istore 4, 2) := by decide +kernel
theorem dM_like_3 : decode prog_7_method_12_code 3 = .ok (.iload_n 2, 1) := by decide +kernel
theorem dM_like_4 : decode prog_7_method_12_code 4 = .ok (.iload 4, 2) := by decide +kernel
theorem dM_like_6 : decode prog_7_method_12_code 6 = .ok (.iadd, 1) := by decide +kernel
theorem dM_like_7 : decode prog_7_method_12_code 7 = .ok (.aload_n 0, 1) := by decide +kernel
theorem dM_like_8 : decode prog_7_method_12_code 8 = .ok (.getfield 13, 3) := by decide +kernel
theorem dM_like_11 : decode prog_7_method_12_code 11 = .ok (.iload_n 1, 1) := by decide +kernel
theorem dM_like_12 : decode prog_7_method_12_code 12 = .ok (.iaload, 1) := by decide +kernel
theorem dM_like_13 : decode prog_7_method_12_code 13 = .ok (.if_icmp .ge 43, 3) := by decide +kernel
theorem dM_like_16 : decode prog_7_method_12_code 16 = .ok (.iload_n 3, 1) := by decide +kernel
theorem dM_like_17 : decode prog_7_method_12_code 17 = .ok (.iload 4, 2) := by decide +kernel
theorem dM_like_19 : decode prog_7_method_12_code 19 = .ok (.iadd, 1) := by decide +kernel
theorem dM_like_20 : decode prog_7_method_12_code 20 = .ok (.aload_n 0, 1) := by decide +kernel
theorem dM_like_21 : decode prog_7_method_12_code 21 = .ok (.getfield 13, 3) := by decide +kernel
theorem dM_like_24 : decode prog_7_method_12_code 24 = .ok (.iconst 1, 1) := by decide +kernel
theorem dM_like_25 : decode prog_7_method_12_code 25 = .ok (.iaload, 1) := by decide +kernel
theorem dM_like_26 : decode prog_7_method_12_code 26 = .ok (.if_icmp .ge 30, 3) := by decide +kernel
theorem dM_like_29 : decode prog_7_method_12_code 29 = .ok (.aload_n 0, 1) := by decide +kernel
theorem dM_like_30 : decode prog_7_method_12_code 30 = .ok (.iload_n 1, 1) := by decide +kernel
theorem dM_like_31 : decode prog_7_method_12_code 31 = .ok (.iload_n 2, 1) := by decide +kernel
theorem dM_like_32 : decode prog_7_method_12_code 32 = .ok (.iload 4, 2) := by decide +kernel
theorem dM_like_34 : decode prog_7_method_12_code 34 = .ok (.iadd, 1) := by decide +kernel
theorem dM_like_35 : decode prog_7_method_12_code 35 = .ok (.invokevirtual 72, 3) := by decide +kernel
theorem dM_like_38 : decode prog_7_method_12_code 38 = .ok (.aload_n 0, 1) := by decide +kernel
theorem dM_like_39 : decode prog_7_method_12_code 39 = .ok (.iconst 1, 1) := by decide +kernel
theorem dM_like_40 : decode prog_7_method_12_code 40 = .ok (.iload_n 3, 1) := by decide +kernel
theorem dM_like_41 : decode prog_7_method_12_code 41 = .ok (.iload 4, 2) := by decide +kernel
theorem dM_like_43 : decode prog_7_method_12_code 43 = .ok (.iadd, 1) := by decide +kernel
theorem dM_like_44 : decode prog_7_method_12_code 44 = .ok (.invokevirtual 72, 3) := by decide +kernel
theorem dM_like_47 : decode prog_7_method_12_code 47 = .ok (.if_icmp .ne 9, 3) := by decide +kernel
theorem dM_like_50 : decode prog_7_method_12_code 50 = .ok (.iinc 4 1, 3) := by decide +kernel
theorem dM_like_53 : decode prog_7_method_12_code 53 = .ok (.goto (-50), 3) := by decide +kernel
theorem dM_like_56 : decode prog_7_method_12_code 56 = .ok (.iload 4, 2) := by decide +kernel
theorem dM_like_58 : decode prog_7_method_12_code 58 = .ok (.ireturn, 1) := by decide +kernel
theorem dM_byteOf_0 : decode prog_7_method_5_code 0 = .ok (.aload_n 0, 1) := by decide +kernel
theorem dM_byteOf_1 : decode prog_7_method_5_code 1 = .ok (.getfield 7, 3) := by decide +kernel
theorem dM_byteOf_4 : decode prog_7_method_5_code 4 = .ok (.bipush 40, 2) := by decide +kernel
theorem dM_byteOf_6 : decode prog_7_method_5_code 6 = .ok (.iload_n 1, 1) := by decide +kernel
theorem dM_byteOf_7 : decode prog_7_method_5_code 7 = .ok (.imul, 1) := by decide +kernel
theorem dM_byteOf_8 : decode prog_7_method_5_code 8 = .ok (.iload_n 2, 1) := by decide +kernel
theorem dM_byteOf_9 : decode prog_7_method_5_code 9 = .ok (.iadd, 1) := by decide +kernel
theorem dM_byteOf_10 : decode prog_7_method_5_code 10 = .ok (.iaload, 1) := by decide +kernel
theorem dM_byteOf_11 : decode prog_7_method_5_code 11 = .ok (.ireturn, 1) := by decide +kernel
theorem dM_costOf_0 : decode prog_7_method_11_code 0 = .ok (.iload_n 1, 1) := by decide +kernel
theorem dM_costOf_1 : decode prog_7_method_11_code 1 = .ok (.ifCond .ne 23, 3) := by decide +kernel
theorem dM_costOf_4 : decode prog_7_method_11_code 4 = .ok (.aload_n 0, 1) := by decide +kernel
theorem dM_costOf_5 : decode prog_7_method_11_code 5 = .ok (.getfield 40, 3) := by decide +kernel
theorem dM_costOf_8 : decode prog_7_method_11_code 8 = .ok (.iload_n 2, 1) := by decide +kernel
theorem dM_costOf_9 : decode prog_7_method_11_code 9 = .ok (.iload 4, 2) := by decide +kernel
theorem dM_costOf_11 : decode prog_7_method_11_code 11 = .ok (.if_icmp .ne 7, 3) := by decide +kernel
theorem dM_costOf_14 : decode prog_7_method_11_code 14 = .ok (.iconst 0, 1) := by decide +kernel
theorem dM_costOf_15 : decode prog_7_method_11_code 15 = .ok (.goto 7, 3) := by decide +kernel
theorem dM_costOf_18 : decode prog_7_method_11_code 18 = .ok (.aload_n 0, 1) := by decide +kernel
theorem dM_costOf_19 : decode prog_7_method_11_code 19 = .ok (.getfield 44, 3) := by decide +kernel
theorem dM_costOf_22 : decode prog_7_method_11_code 22 = .ok (.iadd, 1) := by decide +kernel
theorem dM_costOf_23 : decode prog_7_method_11_code 23 = .ok (.ireturn, 1) := by decide +kernel
theorem dM_costOf_24 : decode prog_7_method_11_code 24 = .ok (.iload_n 1, 1) := by decide +kernel
theorem dM_costOf_25 : decode prog_7_method_11_code 25 = .ok (.iconst 1, 1) := by decide +kernel
theorem dM_costOf_26 : decode prog_7_method_11_code 26 = .ok (.if_icmp .ne 10, 3) := by decide +kernel
theorem dM_costOf_29 : decode prog_7_method_11_code 29 = .ok (.aload_n 0, 1) := by decide +kernel
theorem dM_costOf_30 : decode prog_7_method_11_code 30 = .ok (.getfield 47, 3) := by decide +kernel
theorem dM_costOf_33 : decode prog_7_method_11_code 33 = .ok (.goto 14, 3) := by decide +kernel
theorem dM_costOf_36 : decode prog_7_method_11_code 36 = .ok (.aload_n 0, 1) := by decide +kernel
theorem dM_costOf_37 : decode prog_7_method_11_code 37 = .ok (.getfield 50, 3) := by decide +kernel
theorem dM_costOf_40 : decode prog_7_method_11_code 40 = .ok (.aload_n 0, 1) := by decide +kernel
theorem dM_costOf_41 : decode prog_7_method_11_code 41 = .ok (.getfield 53, 3) := by decide +kernel
theorem dM_costOf_44 : decode prog_7_method_11_code 44 = .ok (.iload_n 3, 1) := by decide +kernel
theorem dM_costOf_45 : decode prog_7_method_11_code 45 = .ok (.imul, 1) := by decide +kernel
theorem dM_costOf_46 : decode prog_7_method_11_code 46 = .ok (.iadd, 1) := by decide +kernel
