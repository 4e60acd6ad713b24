theorem dR_init_0 : decode prog_4_method_1_code 0 = .ok (.aload_n 0, 1) := by decide +kernel
theorem dR_init_1 : decode prog_4_method_1_code 1 = .ok (.invokespecial 3, 3) := by decide +kernel
theorem dR_init_4 : decode prog_4_method_1_code 4 = .ok (.aload_n 0, 1) := by decide +kernel
theorem dR_init_5 : decode prog_4_method_1_code 5 = .ok (.iconst 0, 1) := by decide +kernel
theorem dR_init_6 : decode prog_4_method_1_code 6 = .ok (.iload_n 1, 1) := by decide +kernel
theorem dR_init_7 : decode prog_4_method_1_code 7 = .ok (.invokestatic 9, 3) := by decide +kernel
theorem dR_init_10 : decode prog_4_method_1_code 10 = .ok (.newarray .int, 2) := by decide +kernel
theorem dR_init_12 : decode prog_4_method_1_code 12 = .ok (.putfield 15, 3) := by decide +kernel
theorem dR_init_15 : decode prog_4_method_1_code 15 = .ok (.return_, 1) := by decide +kernel
theorem dN_init_0 : decode prog_3_method_1_code 0 = .ok (.aload_n 0, 1) := by decide +kernel
theorem dN_init_1 : decode prog_3_method_1_code 1 = .ok (.invokespecial 3, 3) := by decide +kernel
theorem dN_init_4 : decode prog_3_method_1_code 4 = .ok (.aload_n 0, 1) := by decide +kernel
theorem dN_init_5 : decode prog_3_method_1_code 5 = .ok (.invokevirtual 9, 3) := by decide +kernel
theorem dN_init_8 : decode prog_3_method_1_code 8 = .ok (.return_, 1) := by decide +kernel
theorem dN_setFirstOnes_0 : decode prog_3_method_2_code 0 = .ok (.aload_n 0, 1) := by decide +kernel
theorem dN_setFirstOnes_1 : decode prog_3_method_2_code 1 = .ok (.iconst 4, 1) := by decide +kernel
theorem dN_setFirstOnes_2 : decode prog_3_method_2_code 2 = .ok (.iconst 2, 1) := by decide +kernel
theorem dN_setFirstOnes_3 : decode prog_3_method_2_code 3 = .ok (.iconst 4, 1) := by decide +kernel
theorem dN_setFirstOnes_4 : decode prog_3_method_2_code 4 = .ok (.iconst 2, 1) := by decide +kernel
theorem dN_setFirstOnes_5 : decode prog_3_method_2_code 5 = .ok (.iconst 3, 1) := by decide +kernel
theorem dN_setFirstOnes_6 : decode prog_3_method_2_code 6 = .ok (.invokevirtual 14, 3) := by decide +kernel
theorem dN_setFirstOnes_9 : decode prog_3_method_2_code 9 = .ok (.return_, 1) := by decide +kernel
theorem dN_set_0 : decode prog_3_method_3_code 0 = .ok (.aload_n 0, 1) := by decide +kernel
theorem dN_set_1 : decode prog_3_method_3_code 1 = .ok (.iload_n 1, 1) := by decide +kernel
theorem dN_set_2 : decode prog_3_method_3_code 2 = .ok (.putfield 18, 3) := by decide +kernel
theorem dN_set_5 : decode prog_3_method_3_code 5 = .ok (.aload_n 0, 1) := by decide +kernel
theorem dN_set_6 : decode prog_3_method_3_code 6 = .ok (.iload_n 2, 1) := by decide +kernel
theorem dN_set_7 : decode prog_3_method_3_code 7 = .ok (.putfield 22, 3) := by decide +kernel
theorem dN_set_10 : decode prog_3_method_3_code 10 = .ok (.aload_n 0, 1) := by decide +kernel
theorem dN_set_11 : decode prog_3_method_3_code 11 = .ok (.iload_n 3, 1) := by decide +kernel
theorem dN_set_12 : decode prog_3_method_3_code 12 = .ok (.putfield 25, 3) := by decide +kernel
theorem dN_set_15 : decode prog_3_method_3_code 15 = .ok (.aload_n 0, 1) := by decide +kernel
theorem dN_set_16 : decode prog_3_method_3_code 16 = .ok (.iload 4, 2) := by decide +kernel
theorem dN_set_18 : decode prog_3_method_3_code 18 = .ok (.putfield 28, 3) := by decide +kernel
theorem dN_set_21 : decode prog_3_method_3_code 21 = .ok (.aload_n 0, 1) := by decide +kernel
theorem dN_set_22 : decode prog_3_method_3_code 22 = .ok (.iload 5, 2) := by decide +kernel
theorem dN_set_24 : decode prog_3_method_3_code 24 = .ok (.putfield 31, 3) := by decide +kernel
theorem dN_set_27 : decode prog_3_method_3_code 27 = .ok (.return_, 1) := by decide +kernel
theorem dA_init_0 : decode prog_2_method_1_code 0 = .ok (.aload_n 0, 1) := by decide +kernel
theorem dA_init_1 : decode prog_2_method_1_code 1 = .ok (.invokespecial 3, 3) := by decide +kernel
theorem dA_init_4 : decode prog_2_method_1_code 4 = .ok (.aload_n 0, 1) := by decide +kernel
theorem dA_init_5 : decode prog_2_method_1_code 5 = .ok (.bipush 100, 2) := by decide +kernel
theorem dA_init_7 : decode prog_2_method_1_code 7 = .ok (.newarray .int, 2) := by decide +kernel
theorem dA_init_9 : decode prog_2_method_1_code 9 = .ok (.putfield 9, 3) := by decide +kernel
theorem dA_init_12 : decode prog_2_method_1_code 12 = .ok (.aload_n 0, 1) := by decide +kernel
theorem dA_init_13 : decode prog_2_method_1_code 13 = .ok (.bipush 100, 2) := by decide +kernel
theorem dA_init_15 : decode prog_2_method_1_code 15 = .ok (.newarray .int, 2) := by decide +kernel
theorem dA_init_17 : decode prog_2_method_1_code 17 = .ok (.putfield 15, 3) := by decide +kernel
theorem dA_init_20 : decode prog_2_method_1_code 20 = .ok (.aload_n 0, 1) := by decide +kernel
theorem dA_init_21 : decode prog_2_method_1_code 21 = .ok (.bipush 100, 2) := by decide +kernel
theorem dA_init_23 : decode prog_2_method_1_code 23 = .ok (.newarray .int, 2) := by decide +kernel
theorem dA_init_25 : decode prog_2_method_1_code 25 = .ok (.putfield 18, 3) := by decide +kernel
theorem dA_init_28 : decode prog_2_method_1_code 28 = .ok (.aload_n 0, 1) := by decide +kernel
theorem dA_init_29 : decode prog_2_method_1_code 29 = .ok (.bipush 100, 2) := by decide +kernel
theorem dA_init_31 : decode prog_2_method_1_code 31 = .ok (.newarray .int, 2) := by decide +kernel
theorem dA_init_33 : decode prog_2_method_1_code 33 = .ok (.putfield 21, 3) := by decide +kernel
theorem dA_init_36 : decode prog_2_method_1_code 36 = .ok (.aload_n 0, 1) := by decide +kernel
theorem dA_init_37 : decode prog_2_method_1_code 37 = .ok (.new 24, 3) := by decide +kernel
theorem dA_init_40 : decode prog_2_method_1_code 40 = .ok (.dup, 1) := by decide +kernel
theorem dA_init_41 : decode prog_2_method_1_code 41 = .ok (.sipush 4000, 3) := by decide +kernel
theorem dA_init_44 : decode prog_2_method_1_code 44 = .ok (.invokespecial 26, 3) := by decide +kernel
theorem dA_init_47 : decode prog_2_method_1_code 47 = .ok (.putfield 29, 3) := by decide +kernel
theorem dA_init_50 : decode prog_2_method_1_code 50 = .ok (.aload_n 0, 1) := by decide +kernel
theorem dA_init_51 : decode prog_2_method_1_code 51 = .ok (.iconst 1, 1) := by decide +kernel
theorem dA_init_52 : decode prog_2_method_1_code 52 = .ok (.putfield 33, 3) := by decide +kernel
theorem dA_init_55 : decode prog_2_method_1_code 55 = .ok (.return_, 1) := by decide +kernel
theorem dR_length_0 : decode prog_4_method_2_code 0 = .ok (.aload_n 0, 1) := by decide +kernel
theorem dR_length_1 : decode prog_4_method_2_code 1 = .ok (.getfield 21, 3) := by decide +kernel
theorem dR_length_4 : decode prog_4_method_2_code 4 = .ok (.ireturn, 1) := by decide +kernel
theorem dR_dropAll_0 : decode prog_4_method_9_code 0 = .ok (.aload_n 0, 1) := by decide +kernel
theorem dR_dropAll_1 : decode prog_4_method_9_code 1 = .ok (.iconst 0, 1) := by decide +kernel
theorem dR_dropAll_2 : decode prog_4_method_9_code 2 = .ok (.putfield 21, 3) := by decide +kernel
theorem dR_dropAll_5 : decode prog_4_method_9_code 5 = .ok (.return_, 1) := by decide +kernel
theorem dA_begin_0 : decode prog_2_method_2_code 0 = .ok (.aload_n 0, 1) := by decide +kernel
theorem dA_begin_1 : decode prog_2_method_2_code 1 = .ok (.iconst 0, 1) := by decide +kernel
theorem dA_begin_2 : decode prog_2_method_2_code 2 = .ok (.putfield 37, 3) := by decide +kernel
theorem dA_begin_5 : decode prog_2_method_2_code 5 = .ok (.aload_n 0, 1) := by decide +kernel
theorem dA_begin_6 : decode prog_2_method_2_code 6 = .ok (.getfield 29, 3) := by decide +kernel
theorem dA_begin_9 : decode prog_2_method_2_code 9 = .ok (.invokevirtual 40, 3) := by decide +kernel
theorem dA_begin_12 : decode prog_2_method_2_code 12 = .ok (.aload_n 0, 1) := by decide +kernel
theorem dA_begin_13 : decode prog_2_method_2_code 13 = .ok (.iload_n 1, 1) := by decide +kernel
theorem dA_begin_14 : decode prog_2_method_2_code 14 = .ok (.putfield 33, 3) := by decide +kernel
theorem dA_begin_17 : decode prog_2_method_2_code 17 = .ok (.return_, 1) := by decide +kernel
theorem dR_isFull_0 : decode prog_4_method_3_code 0 = .ok (.aload_n 0, 1) := by decide +kernel
theorem dR_isFull_1 : decode prog_4_method_3_code 1 = .ok (.getfield 21, 3) := by decide +kernel
theorem dR_isFull_4 : decode prog_4_method_3_code 4 = .ok (.aload_n 0, 1) := by decide +kernel
theorem dR_isFull_5 : decode prog_4_method_3_code 5 = .ok (.getfield 15, 3) := by decide +kernel
theorem dR_isFull_8 : decode prog_4_method_3_code 8 = .ok (.arraylength, 1) := by decide +kernel
theorem dR_isFull_9 : decode prog_4_method_3_code 9 = .ok (.if_icmp .lt 7, 3) := by decide +kernel
theorem dR_isFull_12 : decode prog_4_method_3_code 12 = .ok (.iconst 1, 1) := by decide +kernel
theorem dR_isFull_13 : decode prog_4_method_3_code 13 = .ok (.goto 4, 3) := by decide +kernel
theorem dR_isFull_16 : decode prog_4_method_3_code 16 = .ok (.iconst 0, 1) := by decide +kernel
theorem dR_isFull_17 : decode prog_4_method_3_code 17 = .ok (.ireturn, 1) := by decide +kernel
theorem dR_append_0 : decode prog_4_method_7_code 0 = .ok (.aload_n 0, 1) := by decide +kernel
theorem dR_append_1 : decode prog_4_method_7_code 1 = .ok (.invokevirtual 29, 3) := by decide +kernel
theorem dR_append_4 : decode prog_4_method_7_code 4 = .ok (.ifCond .ne 23, 3) := by decide +kernel
theorem dR_append_7 : decode prog_4_method_7_code 7 = .ok (.aload_n 0, 1) := by decide +kernel
theorem dR_append_8 : decode prog_4_method_7_code 8 = .ok (.getfield 15, 3) := by decide +kernel
theorem dR_append_11 : decode prog_4_method_7_code 11 = .ok (.aload_n 0, 1) := by decide +kernel
theorem dR_append_12 : decode prog_4_method_7_code 12 = .ok (.getfield 21, 3) := by decide +kernel
theorem dR_append_15 : decode prog_4_method_7_code 15 = .ok (.iload_n 1, 1) := by decide +kernel
theorem dR_append_16 : decode prog_4_method_7_code 16 = .ok (.iastore, 1) := by decide +kernel
theorem dR_append_17 : decode prog_4_method_7_code 17 = .ok (.aload_n 0, 1) := by decide +kernel
theorem dR_append_18 : decode prog_4_method_7_code 18 = .ok (.dup, 1) := by decide +kernel
theorem dR_append_19 : decode prog_4_method_7_code 19 = .ok (.getfield 21, 3) := by decide +kernel
theorem dR_append_22 : decode prog_4_method_7_code 22 = .ok (.iconst 1, 1) := by decide +kernel
theorem dR_append_23 : decode prog_4_method_7_code 23 = .ok (.iadd, 1) := by decide +kernel
theorem dR_append_24 : decode prog_4_method_7_code 24 = .ok (.putfield 21, 3) := by decide +kernel
theorem dR_append_27 : decode prog_4_method_7_code 27 = .ok (.return_, 1) := by decide +kernel
theorem dR_dropLast_0 : decode prog_4_method_8_code 0 = .ok (.aload_n 0, 1) := by decide +kernel
theorem dR_dropLast_1 : decode prog_4_method_8_code 1 = .ok (.dup, 1) := by decide +kernel
theorem dR_dropLast_2 : decode prog_4_method_8_code 2 = .ok (.getfield 21, 3) := by decide +kernel
theorem dR_dropLast_5 : decode prog_4_method_8_code 5 = .ok (.iconst 0, 1) := by decide +kernel
theorem dR_dropLast_6 : decode prog_4_method_8_code 6 = .ok (.iload_n 1, 1) := by decide +kernel
theorem dR_dropLast_7 : decode prog_4_method_8_code 7 = .ok (.aload_n 0, 1) := by decide +kernel
theorem dR_dropLast_8 : decode prog_4_method_8_code 8 = .ok (.getfield 21, 3) := by decide +kernel
theorem dR_dropLast_11 : decode prog_4_method_8_code 11 = .ok (.invokestatic 33, 3) := by decide +kernel
theorem dR_dropLast_14 : decode prog_4_method_8_code 14 = .ok (.invokestatic 9, 3) := by decide +kernel
theorem dR_dropLast_17 : decode prog_4_method_8_code 17 = .ok (.isub, 1) := by decide +kernel
theorem dR_dropLast_18 : decode prog_4_method_8_code 18 = .ok (.putfield 21, 3) := by decide +kernel
theorem dR_dropLast_21 : decode prog_4_method_8_code 21 = .ok (.return_, 1) := by decide +kernel
theorem dR_changeFor_0 : decode prog_4_method_10_code 0 = .ok (.aload_n 1, 1) := by decide +kernel
theorem dR_changeFor_1 : decode prog_4_method_10_code 1 = .ok (.getfield 15, 3) := by decide +kernel
theorem dR_changeFor_4 : decode prog_4_method_10_code 4 = .ok (.astore_n 2, 1) := by decide +kernel
theorem dR_changeFor_5 : decode prog_4_method_10_code 5 = .ok (.aload_n 1, 1) := by decide +kernel
theorem dR_changeFor_6 : decode prog_4_method_10_code 6 = .ok (.getfield 21, 3) := by decide +kernel
theorem dR_changeFor_9 : decode prog_4_method_10_code 9 = .ok (.istore_n 3, 1) := by decide +kernel
theorem dR_changeFor_10 : decode prog_4_method_10_code 10 = .ok (.aload_n 1, 1) := by decide +kernel
theorem dR_changeFor_11 : decode prog_4_method_10_code 11 = .ok (.aload_n 0, 1) := by decide +kernel
theorem dR_changeFor_12 : decode prog_4_method_10_code 12 = .ok (.getfield 15, 3) := by decide +kernel
theorem dR_changeFor_15 : decode prog_4_method_10_code 15 = .ok (.putfield 15, 3) := by decide +kernel
theorem dR_changeFor_18 : decode prog_4_method_10_code 18 = .ok (.aload_n 1, 1) := by decide +kernel
theorem dR_changeFor_19 : decode prog_4_method_10_code 19 = .ok (.aload_n 0, 1) := by decide +kernel
theorem dR_changeFor_20 : decode prog_4_method_10_code 20 = .ok (.getfield 21, 3) := by decide +kernel
theorem dR_changeFor_23 : decode prog_4_method_10_code 23 = .ok (.putfield 21, 3) := by decide +kernel
theorem dR_changeFor_26 : decode prog_4_method_10_code 26 = .ok (.aload_n 0, 1) := by decide +kernel
theorem dR_changeFor_27 : decode prog_4_method_10_code 27 = .ok (.aload_n 2, 1) := by decide +kernel
theorem dR_changeFor_28 : decode prog_4_method_10_code 28 = .ok (.putfield 15, 3) := by decide +kernel
theorem dR_changeFor_31 : decode prog_4_method_10_code 31 = .ok (.aload_n 0, 1) := by decide +kernel
theorem dR_changeFor_32 : decode prog_4_method_10_code 32 = .ok (.iload_n 3, 1) := by decide +kernel
theorem dR_changeFor_33 : decode prog_4_method_10_code 33 = .ok (.putfield 21, 3) := by decide +kernel
theorem dR_changeFor_36 : decode prog_4_method_10_code 36 = .ok (.return_, 1) := by decide +kernel
theorem dN_countOthers_0 : decode prog_3_method_4_code 0 = .ok (.aload_n 0, 1) := by decide +kernel
theorem dN_countOthers_1 : decode prog_3_method_4_code 1 = .ok (.getfield 18, 3) := by decide +kernel
theorem dN_countOthers_4 : decode prog_3_method_4_code 4 = .ok (.iload_n 1, 1) := by decide +kernel
theorem dN_countOthers_5 : decode prog_3_method_4_code 5 = .ok (.invokestatic 34, 3) := by decide +kernel
theorem dN_countOthers_8 : decode prog_3_method_4_code 8 = .ok (.aload_n 0, 1) := by decide +kernel
theorem dN_countOthers_9 : decode prog_3_method_4_code 9 = .ok (.getfield 22, 3) := by decide +kernel
theorem dN_countOthers_12 : decode prog_3_method_4_code 12 = .ok (.iload_n 2, 1) := by decide +kernel
theorem dN_countOthers_13 : decode prog_3_method_4_code 13 = .ok (.invokestatic 34, 3) := by decide +kernel
theorem dN_countOthers_16 : decode prog_3_method_4_code 16 = .ok (.iadd, 1) := by decide +kernel
theorem dN_countOthers_17 : decode prog_3_method_4_code 17 = .ok (.aload_n 0, 1) := by decide +kernel
theorem dN_countOthers_18 : decode prog_3_method_4_code 18 = .ok (.getfield 25, 3) := by decide +kernel
theorem dN_countOthers_21 : decode prog_3_method_4_code 21 = .ok (.iload_n 3, 1) := by decide +kernel
theorem dN_countOthers_22 : decode prog_3_method_4_code 22 = .ok (.invokestatic 34, 3) := by decide +kernel
theorem dN_countOthers_25 : decode prog_3_method_4_code 25 = .ok (.iadd, 1) := by decide +kernel
theorem dN_countOthers_26 : decode prog_3_method_4_code 26 = .ok (.aload_n 0, 1) := by decide +kernel
theorem dN_countOthers_27 : decode prog_3_method_4_code 27 = .ok (.getfield 28, 3) := by decide +kernel
theorem dN_countOthers_30 : decode prog_3_method_4_code 30 = .ok (.iload 4, 2) := by decide +kernel
theorem dN_countOthers_32 : decode prog_3_method_4_code 32 = .ok (.invokestatic 34, 3) := by decide +kernel
theorem dN_countOthers_35 : decode prog_3_method_4_code 35 = .ok (.iadd, 1) := by decide +kernel
theorem dN_countOthers_36 : decode prog_3_method_4_code 36 = .ok (.aload_n 0, 1) := by decide +kernel
theorem dN_countOthers_37 : decode prog_3_method_4_code 37 = .ok (.getfield 31, 3) := by decide +kernel
theorem dN_countOthers_40 : decode prog_3_method_4_code 40 = .ok (.iload 5, 2) := by decide +kernel
theorem dN_countOthers_42 : decode prog_3_method_4_code 42 = .ok (.invokestatic 34, 3) := by decide +kernel
theorem dN_countOthers_45 : decode prog_3_method_4_code 45 = .ok (.iadd, 1) := by decide +kernel
theorem dN_countOthers_46 : decode prog_3_method_4_code 46 = .ok (.ireturn, 1) := by decide +kernel
theorem dN_oneIfOther_0 : decode prog_3_method_5_code 0 = .ok (.iload_n 0, 1) := by decide +kernel
theorem dN_oneIfOther_1 : decode prog_3_method_5_code 1 = .ok (.iload_n 1, 1) := by decide +kernel
theorem dN_oneIfOther_2 : decode prog_3_method_5_code 2 = .ok (.if_icmp .ne 7, 3) := by decide +kernel
theorem dN_oneIfOther_5 : decode prog_3_method_5_code 5 = .ok (.iconst 0, 1) := by decide +kernel
theorem dN_oneIfOther_6 : decode prog_3_method_5_code 6 = .ok (.goto 4, 3) := by decide +kernel
theorem dN_oneIfOther_9 : decode prog_3_method_5_code 9 = .ok (.iconst 1, 1) := by decide +kernel
theorem dN_oneIfOther_10 : decode prog_3_method_5_code 10 = .ok (.ireturn, 1) := by decide +kernel
theorem dR_sum_0 : decode prog_4_method_11_code 0 = .ok (.iconst 1, 1) := by decide +kernel
theorem dR_sum_1 : decode prog_4_method_11_code 1 = .ok (.istore_n 1, 1) := by decide +kernel
theorem dR_sum_2 : decode prog_4_method_11_code 2 = .ok (.iconst 0, 1) := by decide +kernel
theorem dR_sum_3 : decode prog_4_method_11_code 3 = .ok (.istore_n 2, 1) := by decide +kernel
theorem dR_sum_4 : decode prog_4_method_11_code 4 = .ok (.iload_n 2, 1) := by decide +kernel
theorem dR_sum_5 : decode prog_4_method_11_code 5 = .ok (.aload_n 0, 1) := by decide +kernel
theorem dR_sum_6 : decode prog_4_method_11_code 6 = .ok (.getfield 21, 3) := by decide +kernel
theorem dR_sum_9 : decode prog_4_method_11_code 9 = .ok (.if_icmp .ge 24, 3) := by decide +kernel
theorem dR_sum_12 : decode prog_4_method_11_code 12 = .ok (.iload_n 1, 1) := by decide +kernel
theorem dR_sum_13 : decode prog_4_method_11_code 13 = .ok (.bipush 31, 2) := by decide +kernel
theorem dR_sum_15 : decode prog_4_method_11_code 15 = .ok (.imul, 1) := by decide +kernel
theorem dR_sum_16 : decode prog_4_method_11_code 16 = .ok (.aload_n 0, 1) := by decide +kernel
theorem dR_sum_17 : decode prog_4_method_11_code 17 = .ok (.getfield 15, 3) := by decide +kernel
theorem dR_sum_20 : decode prog_4_method_11_code 20 = .ok (.iload_n 2, 1) := by decide +kernel
theorem dR_sum_21 : decode prog_4_method_11_code 21 = .ok (.iaload, 1) := by decide +kernel
theorem dR_sum_22 : decode prog_4_method_11_code 22 = .ok (.iadd, 1) := by decide +kernel
theorem dR_sum_23 : decode prog_4_method_11_code 23 = .ok (.ldc 36, 2) := by decide +kernel
theorem dR_sum_25 : decode prog_4_method_11_code 25 = .ok (.irem, 1) := by decide +kernel
theorem dR_sum_26 : decode prog_4_method_11_code 26 = .ok (.istore_n 1, 1) := by decide +kernel
theorem dR_sum_27 : decode prog_4_method_11_code 27 = .ok (.iinc 2 1, 3) := by decide +kernel
theorem dR_sum_30 : decode prog_4_method_11_code 30 = .ok (.goto (-26), 3) := by decide +kernel
theorem dR_sum_33 : decode prog_4_method_11_code 33 = .ok (.iload_n 1, 1) := by decide +kernel
theorem dR_sum_34 : decode prog_4_method_11_code 34 = .ok (.ireturn, 1) := by decide +kernel
theorem dR_get_0 : decode prog_4_method_5_code 0 = .ok (.aload_n 0, 1) := by decide +kernel
theorem dR_get_1 : decode prog_4_method_5_code 1 = .ok (.iload_n 1, 1) := by decide +kernel
theorem dR_get_2 : decode prog_4_method_5_code 2 = .ok (.invokevirtual 25, 3) := by decide +kernel
theorem dR_get_5 : decode prog_4_method_5_code 5 = .ok (.ifCond .eq 12, 3) := by decide +kernel
theorem dR_get_8 : decode prog_4_method_5_code 8 = .ok (.aload_n 0, 1) := by decide +kernel
theorem dR_get_9 : decode prog_4_method_5_code 9 = .ok (.getfield 15, 3) := by decide +kernel
theorem dR_get_12 : decode prog_4_method_5_code 12 = .ok (.iload_n 1, 1) := by decide +kernel
theorem dR_get_13 : decode prog_4_method_5_code 13 = .ok (.iaload, 1) := by decide +kernel
theorem dR_get_14 : decode prog_4_method_5_code 14 = .ok (.goto 4, 3) := by decide +kernel
theorem dR_get_17 : decode prog_4_method_5_code 17 = .ok (.iconst (-1), 1) := by decide +kernel
theorem dR_get_18 : decode prog_4_method_5_code 18 = .ok (.ireturn, 1) := by decide +kernel
theorem dR_has_0 : decode prog_4_method_4_code 0 = .ok (.iload_n 1, 1) := by decide +kernel
theorem dR_has_1 : decode prog_4_method_4_code 1 = .ok (.ifCond .lt 15, 3) := by decide +kernel
theorem dR_has_4 : decode prog_4_method_4_code 4 = .ok (.iload_n 1, 1) := by decide +kernel
theorem dR_has_5 : decode prog_4_method_4_code 5 = .ok (.aload_n 0, 1) := by decide +kernel
theorem dR_has_6 : decode prog_4_method_4_code 6 = .ok (.getfield 21, 3) := by decide +kernel
theorem dR_has_9 : decode prog_4_method_4_code 9 = .ok (.if_icmp .ge 7, 3) := by decide +kernel
theorem dR_has_12 : decode prog_4_method_4_code 12 = .ok (.iconst 1, 1) := by decide +kernel
theorem dR_has_13 : decode prog_4_method_4_code 13 = .ok (.goto 4, 3) := by decide +kernel
theorem dR_has_16 : decode prog_4_method_4_code 16 = .ok (.iconst 0, 1) := by decide +kernel
theorem dR_has_17 : decode prog_4_method_4_code 17 = .ok (.ireturn, 1) := by decide +kernel
theorem dR_countSame_0 : decode prog_4_method_12_code 0 = .ok (.aload_n 0, 1) := by decide +kernel
theorem dR_countSame_1 : decode prog_4_method_12_code 1 = .ok (.iload_n 1, 1) := by decide +kernel
theorem dR_countSame_2 : decode prog_4_method_12_code 2 = .ok (.invokevirtual 25, 3) := by decide +kernel
theorem dR_countSame_5 : decode prog_4_method_12_code 5 = .ok (.ifCond .eq 11, 3) := by decide +kernel
theorem dR_countSame_8 : decode prog_4_method_12_code 8 = .ok (.aload_n 2, 1) := by decide +kernel
theorem dR_countSame_9 : decode prog_4_method_12_code 9 = .ok (.iload_n 3, 1) := by decide +kernel
theorem dR_countSame_10 : decode prog_4_method_12_code 10 = .ok (.invokevirtual 25, 3) := by decide +kernel
theorem dR_countSame_13 : decode prog_4_method_12_code 13 = .ok (.ifCond .ne 5, 3) := by decide +kernel
theorem dR_countSame_16 : decode prog_4_method_12_code 16 = .ok (.iconst 0, 1) := by decide +kernel
theorem dR_countSame_17 : decode prog_4_method_12_code 17 = .ok (.ireturn, 1) := by decide +kernel
theorem dR_countSame_18 : decode prog_4_method_12_code 18 = .ok (.aload_n 0, 1) := by decide +kernel
theorem dR_countSame_19 : decode prog_4_method_12_code 19 = .ok (.getfield 21, 3) := by decide +kernel
theorem dR_countSame_22 : decode prog_4_method_12_code 22 = .ok (.iload_n 1, 1) := by decide +kernel
theorem dR_countSame_23 : decode prog_4_method_12_code 23 = .ok (.isub, 1) := by decide +kernel
theorem dR_countSame_24 : decode prog_4_method_12_code 24 = .ok (.aload_n 2, 1) := by decide +kernel
theorem dR_countSame_25 : decode prog_4_method_12_code 25 = .ok (.getfield 21, 3) := by decide +kernel
theorem dR_countSame_28 : decode prog_4_method_12_code 28 = .ok (.iload_n 3, 1) := by decide +kernel
theorem dR_countSame_29 : decode prog_4_method_12_code 29 = .ok (.isub, 1) := by decide +kernel
theorem dR_countSame_30 : decode prog_4_method_12_code 30 = .ok (.invokestatic 33, 3) := by decide +kernel
theorem dR_countSame_33 : decode prog_4_method_12_code 33 = .ok (.istore 4, 2) := by decide +kernel
theorem dR_countSame_35 : decode prog_4_method_12_code 35 = .ok (.iconst 0, 1) := by decide +kernel
theorem dR_countSame_36 : decode prog_4_method_12_code 36 = .ok (.istore 5, 2) := by decide +kernel
theorem dR_countSame_38 : decode prog_4_method_12_code 38 = .ok (.iload 5, 2) := by decide +kernel
theorem dR_countSame_40 : decode prog_4_method_12_code 40 = .ok (.iload 4, 2) := by decide +kernel
theorem dR_countSame_42 : decode prog_4_method_12_code 42 = .ok (.if_icmp .ge 33, 3) := by decide +kernel
theorem dR_countSame_45 : decode prog_4_method_12_code 45 = .ok (.aload_n 0, 1) := by decide +kernel
theorem dR_countSame_46 : decode prog_4_method_12_code 46 = .ok (.getfield 15, 3) := by decide +kernel
theorem dR_countSame_49 : decode prog_4_method_12_code 49 = .ok (.iload_n 1, 1) := by decide +kernel
theorem dR_countSame_50 : decode prog_4_method_12_code 50 = .ok (.iload 5, 2) := by decide +kernel
theorem dR_countSame_52 : decode prog_4_method_12_code 52 = .ok (.iadd, 1) := by decide +kernel
theorem dR_countSame_53 : decode prog_4_method_12_code 53 = .ok (.iaload, 1) := by decide +kernel
theorem dR_countSame_54 : decode prog_4_method_12_code 54 = .ok (.aload_n 2, 1) := by decide +kernel
theorem dR_countSame_55 : decode prog_4_method_12_code 55 = .ok (.getfield 15, 3) := by decide +kernel
theorem dR_countSame_58 : decode prog_4_method_12_code 58 = .ok (.iload_n 3, 1) := by decide +kernel
theorem dR_countSame_59 : decode prog_4_method_12_code 59 = .ok (.iload 5, 2) := by decide +kernel
theorem dR_countSame_61 : decode prog_4_method_12_code 61 = .ok (.iadd, 1) := by decide +kernel
theorem dR_countSame_62 : decode prog_4_method_12_code 62 = .ok (.iaload, 1) := by decide +kernel
theorem dR_countSame_63 : decode prog_4_method_12_code 63 = .ok (.if_icmp .eq 6, 3) := by decide +kernel
theorem dR_countSame_66 : decode prog_4_method_12_code 66 = .ok (.iload 5, 2) := by decide +kernel
theorem dR_countSame_68 : decode prog_4_method_12_code 68 = .ok (.ireturn, 1) := by decide +kernel
theorem dR_countSame_69 : decode prog_4_method_12_code 69 = .ok (.iinc 5 1, 3) := by decide +kernel
theorem dR_countSame_72 : decode prog_4_method_12_code 72 = .ok (.goto (-34), 3) := by decide +kernel
theorem dR_countSame_75 : decode prog_4_method_12_code 75 = .ok (.iload 4, 2) := by decide +kernel
theorem dR_countSame_77 : decode prog_4_method_12_code 77 = .ok (.ireturn, 1) := by decide +kernel
theorem dN_ofCopy_0 : decode prog_3_method_7_code 0 = .ok (.iload_n 1, 1) := by decide +kernel
theorem dN_ofCopy_1 : decode prog_3_method_7_code 1 = .ok (.iload_n 2, 1) := by decide +kernel
theorem dN_ofCopy_2 : decode prog_3_method_7_code 2 = .ok (.if_icmp .ne 10, 3) := by decide +kernel
theorem dN_ofCopy_5 : decode prog_3_method_7_code 5 = .ok (.aload_n 0, 1) := by decide +kernel
theorem dN_ofCopy_6 : decode prog_3_method_7_code 6 = .ok (.getfield 18, 3) := by decide +kernel
theorem dN_ofCopy_9 : decode prog_3_method_7_code 9 = .ok (.goto 12, 3) := by decide +kernel
theorem dN_ofCopy_12 : decode prog_3_method_7_code 12 = .ok (.aload_n 0, 1) := by decide +kernel
theorem dN_ofCopy_13 : decode prog_3_method_7_code 13 = .ok (.getfield 18, 3) := by decide +kernel
theorem dN_ofCopy_16 : decode prog_3_method_7_code 16 = .ok (.aload_n 0, 1) := by decide +kernel
theorem dN_ofCopy_17 : decode prog_3_method_7_code 17 = .ok (.getfield 22, 3) := by decide +kernel
theorem dN_ofCopy_20 : decode prog_3_method_7_code 20 = .ok (.iadd, 1) := by decide +kernel
theorem dN_ofCopy_21 : decode prog_3_method_7_code 21 = .ok (.ireturn, 1) := by decide +kernel
theorem dN_ofSelf_0 : decode prog_3_method_8_code 0 = .ok (.aload_n 0, 1) := by decide +kernel
theorem dN_ofSelf_1 : decode prog_3_method_8_code 1 = .ok (.getfield 25, 3) := by decide +kernel
theorem dN_ofSelf_4 : decode prog_3_method_8_code 4 = .ok (.ireturn, 1) := by decide +kernel
theorem dN_ofLay_0 : decode prog_3_method_9_code 0 = .ok (.aload_n 0, 1) := by decide +kernel
theorem dN_ofLay_1 : decode prog_3_method_9_code 1 = .ok (.getfield 28, 3) := by decide +kernel
theorem dN_ofLay_4 : decode prog_3_method_9_code 4 = .ok (.aload_n 0, 1) := by decide +kernel
theorem dN_ofLay_5 : decode prog_3_method_9_code 5 = .ok (.getfield 31, 3) := by decide +kernel
theorem dN_ofLay_8 : decode prog_3_method_9_code 8 = .ok (.iload_n 1, 1) := by decide +kernel
theorem dN_ofLay_9 : decode prog_3_method_9_code 9 = .ok (.imul, 1) := by decide +kernel
theorem dN_ofLay_10 : decode prog_3_method_9_code 10 = .ok (.iadd, 1) := by decide +kernel
theorem dN_ofLay_11 : decode prog_3_method_9_code 11 = .ok (.ireturn, 1) := by decide +kernel
theorem dA_append_0 : decode prog_2_method_12_code 0 = .ok (.aload_n 0, 1) := by decide +kernel
theorem dA_append_1 : decode prog_2_method_12_code 1 = .ok (.invokevirtual 57, 3) := by decide +kernel
theorem dA_append_4 : decode prog_2_method_12_code 4 = .ok (.ifCond .ne 59, 3) := by decide +kernel
theorem dA_append_7 : decode prog_2_method_12_code 7 = .ok (.aload_n 0, 1) := by decide +kernel
theorem dA_append_8 : decode prog_2_method_12_code 8 = .ok (.getfield 9, 3) := by decide +kernel
theorem dA_append_11 : decode prog_2_method_12_code 11 = .ok (.aload_n 0, 1) := by decide +kernel
theorem dA_append_12 : decode prog_2_method_12_code 12 = .ok (.getfield 37, 3) := by decide +kernel
theorem dA_append_15 : decode prog_2_method_12_code 15 = .ok (.iload_n 1, 1) := by decide +kernel
theorem dA_append_16 : decode prog_2_method_12_code 16 = .ok (.iastore, 1) := by decide +kernel
theorem dA_append_17 : decode prog_2_method_12_code 17 = .ok (.aload_n 0, 1) := by decide +kernel
theorem dA_append_18 : decode prog_2_method_12_code 18 = .ok (.getfield 15, 3) := by decide +kernel
theorem dA_append_21 : decode prog_2_method_12_code 21 = .ok (.aload_n 0, 1) := by decide +kernel
theorem dA_append_22 : decode prog_2_method_12_code 22 = .ok (.getfield 37, 3) := by decide +kernel
theorem dA_append_25 : decode prog_2_method_12_code 25 = .ok (.iload_n 2, 1) := by decide +kernel
theorem dA_append_26 : decode prog_2_method_12_code 26 = .ok (.iastore, 1) := by decide +kernel
theorem dA_append_27 : decode prog_2_method_12_code 27 = .ok (.aload_n 0, 1) := by decide +kernel
theorem dA_append_28 : decode prog_2_method_12_code 28 = .ok (.getfield 18, 3) := by decide +kernel
theorem dA_append_31 : decode prog_2_method_12_code 31 = .ok (.aload_n 0, 1) := by decide +kernel
theorem dA_append_32 : decode prog_2_method_12_code 32 = .ok (.getfield 37, 3) := by decide +kernel
theorem dA_append_35 : decode prog_2_method_12_code 35 = .ok (.iload_n 3, 1) := by decide +kernel
theorem dA_append_36 : decode prog_2_method_12_code 36 = .ok (.iastore, 1) := by decide +kernel
theorem dA_append_37 : decode prog_2_method_12_code 37 = .ok (.aload_n 0, 1) := by decide +kernel
theorem dA_append_38 : decode prog_2_method_12_code 38 = .ok (.getfield 21, 3) := by decide +kernel
theorem dA_append_41 : decode prog_2_method_12_code 41 = .ok (.aload_n 0, 1) := by decide +kernel
theorem dA_append_42 : decode prog_2_method_12_code 42 = .ok (.getfield 37, 3) := by decide +kernel
theorem dA_append_45 : decode prog_2_method_12_code 45 = .ok (.aload_n 0, 1) := by decide +kernel
theorem dA_append_46 : decode prog_2_method_12_code 46 = .ok (.getfield 29, 3) := by decide +kernel
theorem dA_append_49 : decode prog_2_method_12_code 49 = .ok (.invokevirtual 61, 3) := by decide +kernel
theorem dA_append_52 : decode prog_2_method_12_code 52 = .ok (.iastore, 1) := by decide +kernel
theorem dA_append_53 : decode prog_2_method_12_code 53 = .ok (.aload_n 0, 1) := by decide +kernel
theorem dA_append_54 : decode prog_2_method_12_code 54 = .ok (.dup, 1) := by decide +kernel
theorem dA_append_55 : decode prog_2_method_12_code 55 = .ok (.getfield 37, 3) := by decide +kernel
theorem dA_append_58 : decode prog_2_method_12_code 58 = .ok (.iconst 1, 1) := by decide +kernel
theorem dA_append_59 : decode prog_2_method_12_code 59 = .ok (.iadd, 1) := by decide +kernel
theorem dA_append_60 : decode prog_2_method_12_code 60 = .ok (.putfield 37, 3) := by decide +kernel
theorem dA_append_63 : decode prog_2_method_12_code 63 = .ok (.return_, 1) := by decide +kernel
theorem dA_isFull_0 : decode prog_2_method_5_code 0 = .ok (.aload_n 0, 1) := by decide +kernel
theorem dA_isFull_1 : decode prog_2_method_5_code 1 = .ok (.getfield 37, 3) := by decide +kernel
theorem dA_isFull_4 : decode prog_2_method_5_code 4 = .ok (.bipush 100, 2) := by decide +kernel
theorem dA_isFull_6 : decode prog_2_method_5_code 6 = .ok (.if_icmp .lt 7, 3) := by decide +kernel
theorem dA_isFull_9 : decode prog_2_method_5_code 9 = .ok (.iconst 1, 1) := by decide +kernel
theorem dA_isFull_10 : decode prog_2_method_5_code 10 = .ok (.goto 4, 3) := by decide +kernel
theorem dA_isFull_13 : decode prog_2_method_5_code 13 = .ok (.iconst 0, 1) := by decide +kernel
theorem dA_isFull_14 : decode prog_2_method_5_code 14 = .ok (.ireturn, 1) := by decide +kernel
theorem dA_openLay_0 : decode prog_2_method_13_code 0 = .ok (.aload_n 0, 1) := by decide +kernel
theorem dA_openLay_1 : decode prog_2_method_13_code 1 = .ok (.iconst 2, 1) := by decide +kernel
theorem dA_openLay_2 : decode prog_2_method_13_code 2 = .ok (.iconst (-1), 1) := by decide +kernel
theorem dA_openLay_3 : decode prog_2_method_13_code 3 = .ok (.iconst 0, 1) := by decide +kernel
theorem dA_openLay_4 : decode prog_2_method_13_code 4 = .ok (.invokevirtual 65, 3) := by decide +kernel
theorem dA_openLay_7 : decode prog_2_method_13_code 7 = .ok (.return_, 1) := by decide +kernel
theorem dA_layByte_0 : decode prog_2_method_15_code 0 = .ok (.aload_n 0, 1) := by decide +kernel
theorem dA_layByte_1 : decode prog_2_method_15_code 1 = .ok (.invokevirtual 75, 3) := by decide +kernel
theorem dA_layByte_4 : decode prog_2_method_15_code 4 = .ok (.ifCond .eq 26, 3) := by decide +kernel
theorem dA_layByte_7 : decode prog_2_method_15_code 7 = .ok (.aload_n 0, 1) := by decide +kernel
theorem dA_layByte_8 : decode prog_2_method_15_code 8 = .ok (.getfield 29, 3) := by decide +kernel
theorem dA_layByte_11 : decode prog_2_method_15_code 11 = .ok (.iload_n 1, 1) := by decide +kernel
theorem dA_layByte_12 : decode prog_2_method_15_code 12 = .ok (.invokevirtual 78, 3) := by decide +kernel
theorem dA_layByte_15 : decode prog_2_method_15_code 15 = .ok (.aload_n 0, 1) := by decide +kernel
theorem dA_layByte_16 : decode prog_2_method_15_code 16 = .ok (.getfield 18, 3) := by decide +kernel
theorem dA_layByte_19 : decode prog_2_method_15_code 19 = .ok (.aload_n 0, 1) := by decide +kernel
theorem dA_layByte_20 : decode prog_2_method_15_code 20 = .ok (.getfield 37, 3) := by decide +kernel
theorem dA_layByte_23 : decode prog_2_method_15_code 23 = .ok (.iconst 1, 1) := by decide +kernel
theorem dA_layByte_24 : decode prog_2_method_15_code 24 = .ok (.isub, 1) := by decide +kernel
theorem dA_layByte_25 : decode prog_2_method_15_code 25 = .ok (.dup2, 1) := by decide +kernel
theorem dA_layByte_26 : decode prog_2_method_15_code 26 = .ok (.iaload, 1) := by decide +kernel
theorem dA_layByte_27 : decode prog_2_method_15_code 27 = .ok (.iconst 1, 1) := by decide +kernel
theorem dA_layByte_28 : decode prog_2_method_15_code 28 = .ok (.iadd, 1) := by decide +kernel
theorem dA_layByte_29 : decode prog_2_method_15_code 29 = .ok (.iastore, 1) := by decide +kernel
theorem dA_layByte_30 : decode prog_2_method_15_code 30 = .ok (.return_, 1) := by decide +kernel
theorem dA_takesByte_0 : decode prog_2_method_14_code 0 = .ok (.aload_n 0, 1) := by decide +kernel
theorem dA_takesByte_1 : decode prog_2_method_14_code 1 = .ok (.aload_n 0, 1) := by decide +kernel
theorem dA_takesByte_2 : decode prog_2_method_14_code 2 = .ok (.getfield 37, 3) := by decide +kernel
theorem dA_takesByte_5 : decode prog_2_method_14_code 5 = .ok (.iconst 1, 1) := by decide +kernel
theorem dA_takesByte_6 : decode prog_2_method_14_code 6 = .ok (.isub, 1) := by decide +kernel
theorem dA_takesByte_7 : decode prog_2_method_14_code 7 = .ok (.invokevirtual 69, 3) := by decide +kernel
theorem dA_takesByte_10 : decode prog_2_method_14_code 10 = .ok (.iconst 2, 1) := by decide +kernel
theorem dA_takesByte_11 : decode prog_2_method_14_code 11 = .ok (.if_icmp .ne 22, 3) := by decide +kernel
theorem dA_takesByte_14 : decode prog_2_method_14_code 14 = .ok (.aload_n 0, 1) := by decide +kernel
theorem dA_takesByte_15 : decode prog_2_method_14_code 15 = .ok (.aload_n 0, 1) := by decide +kernel
theorem dA_takesByte_16 : decode prog_2_method_14_code 16 = .ok (.getfield 37, 3) := by decide +kernel
theorem dA_takesByte_19 : decode prog_2_method_14_code 19 = .ok (.iconst 1, 1) := by decide +kernel
theorem dA_takesByte_20 : decode prog_2_method_14_code 20 = .ok (.isub, 1) := by decide +kernel
theorem dA_takesByte_21 : decode prog_2_method_14_code 21 = .ok (.invokevirtual 72, 3) := by decide +kernel
theorem dA_takesByte_24 : decode prog_2_method_14_code 24 = .ok (.bipush 40, 2) := by decide +kernel
theorem dA_takesByte_26 : decode prog_2_method_14_code 26 = .ok (.if_icmp .ge 7, 3) := by decide +kernel
theorem dA_takesByte_29 : decode prog_2_method_14_code 29 = .ok (.iconst 1, 1) := by decide +kernel
theorem dA_takesByte_30 : decode prog_2_method_14_code 30 = .ok (.goto 4, 3) := by decide +kernel
theorem dA_takesByte_33 : decode prog_2_method_14_code 33 = .ok (.iconst 0, 1) := by decide +kernel
theorem dA_takesByte_34 : decode prog_2_method_14_code 34 = .ok (.ireturn, 1) := by decide +kernel
theorem dA_kind_0 : decode prog_2_method_7_code 0 = .ok (.aload_n 0, 1) := by decide +kernel
theorem dA_kind_1 : decode prog_2_method_7_code 1 = .ok (.iload_n 1, 1) := by decide +kernel
theorem dA_kind_2 : decode prog_2_method_7_code 2 = .ok (.invokevirtual 43, 3) := by decide +kernel
theorem dA_kind_5 : decode prog_2_method_7_code 5 = .ok (.ifCond .eq 12, 3) := by decide +kernel
theorem dA_kind_8 : decode prog_2_method_7_code 8 = .ok (.aload_n 0, 1) := by decide +kernel
theorem dA_kind_9 : decode prog_2_method_7_code 9 = .ok (.getfield 9, 3) := by decide +kernel
theorem dA_kind_12 : decode prog_2_method_7_code 12 = .ok (.iload_n 1, 1) := by decide +kernel
theorem dA_kind_13 : decode prog_2_method_7_code 13 = .ok (.iaload, 1) := by decide +kernel
theorem dA_kind_14 : decode prog_2_method_7_code 14 = .ok (.goto 4, 3) := by decide +kernel
theorem dA_kind_17 : decode prog_2_method_7_code 17 = .ok (.iconst (-1), 1) := by decide +kernel
theorem dA_kind_18 : decode prog_2_method_7_code 18 = .ok (.ireturn, 1) := by decide +kernel
theorem dA_has_0 : decode prog_2_method_6_code 0 = .ok (.iload_n 1, 1) := by decide +kernel
theorem dA_has_1 : decode prog_2_method_6_code 1 = .ok (.ifCond .lt 15, 3) := by decide +kernel
theorem dA_has_4 : decode prog_2_method_6_code 4 = .ok (.iload_n 1, 1) := by decide +kernel
theorem dA_has_5 : decode prog_2_method_6_code 5 = .ok (.aload_n 0, 1) := by decide +kernel
theorem dA_has_6 : decode prog_2_method_6_code 6 = .ok (.getfield 37, 3) := by decide +kernel
theorem dA_has_9 : decode prog_2_method_6_code 9 = .ok (.if_icmp .ge 7, 3) := by decide +kernel
theorem dA_has_12 : decode prog_2_method_6_code 12 = .ok (.iconst 1, 1) := by decide +kernel
theorem dA_has_13 : decode prog_2_method_6_code 13 = .ok (.goto 4, 3) := by decide +kernel
theorem dA_has_16 : decode prog_2_method_6_code 16 = .ok (.iconst 0, 1) := by decide +kernel
theorem dA_has_17 : decode prog_2_method_6_code 17 = .ok (.ireturn, 1) := by decide +kernel
theorem dA_count_0 : decode prog_2_method_8_code 0 = .ok (.aload_n 0, 1) := by decide +kernel
theorem dA_count_1 : decode prog_2_method_8_code 1 = .ok (.iload_n 1, 1) := by decide +kernel
theorem dA_count_2 : decode prog_2_method_8_code 2 = .ok (.invokevirtual 43, 3) := by decide +kernel
theorem dA_count_5 : decode prog_2_method_8_code 5 = .ok (.ifCond .eq 12, 3) := by decide +kernel
theorem dA_count_8 : decode prog_2_method_8_code 8 = .ok (.aload_n 0, 1) := by decide +kernel
theorem dA_count_9 : decode prog_2_method_8_code 9 = .ok (.getfield 18, 3) := by decide +kernel
theorem dA_count_12 : decode prog_2_method_8_code 12 = .ok (.iload_n 1, 1) := by decide +kernel
theorem dA_count_13 : decode prog_2_method_8_code 13 = .ok (.iaload, 1) := by decide +kernel
theorem dA_count_14 : decode prog_2_method_8_code 14 = .ok (.goto 4, 3) := by decide +kernel
theorem dA_count_17 : decode prog_2_method_8_code 17 = .ok (.iconst 0, 1) := by decide +kernel
theorem dA_count_18 : decode prog_2_method_8_code 18 = .ok (.ireturn, 1) := by decide +kernel
theorem dA_length_0 : decode prog_2_method_3_code 0 = .ok (.aload_n 0, 1) := by decide +kernel
theorem dA_length_1 : decode prog_2_method_3_code 1 = .ok (.getfield 37, 3) := by decide +kernel
theorem dA_length_4 : decode prog_2_method_3_code 4 = .ok (.ireturn, 1) := by decide +kernel
theorem dA_place_0 : decode prog_2_method_9_code 0 = .ok (.aload_n 0, 1) := by decide +kernel
theorem dA_place_1 : decode prog_2_method_9_code 1 = .ok (.iload_n 1, 1) := by decide +kernel
theorem dA_place_2 : decode prog_2_method_9_code 2 = .ok (.invokevirtual 43, 3) := by decide +kernel
theorem dA_place_5 : decode prog_2_method_9_code 5 = .ok (.ifCond .eq 12, 3) := by decide +kernel
theorem dA_place_8 : decode prog_2_method_9_code 8 = .ok (.aload_n 0, 1) := by decide +kernel
theorem dA_place_9 : decode prog_2_method_9_code 9 = .ok (.getfield 15, 3) := by decide +kernel
theorem dA_place_12 : decode prog_2_method_9_code 12 = .ok (.iload_n 1, 1) := by decide +kernel
theorem dA_place_13 : decode prog_2_method_9_code 13 = .ok (.iaload, 1) := by decide +kernel
theorem dA_place_14 : decode prog_2_method_9_code 14 = .ok (.goto 4, 3) := by decide +kernel
theorem dA_place_17 : decode prog_2_method_9_code 17 = .ok (.iconst (-1), 1) := by decide +kernel
theorem dA_place_18 : decode prog_2_method_9_code 18 = .ok (.ireturn, 1) := by decide +kernel
theorem dA_spotAhead_0 : decode prog_2_method_11_code 0 = .ok (.iload_n 1, 1) := by decide +kernel
theorem dA_spotAhead_1 : decode prog_2_method_11_code 1 = .ok (.aload_n 0, 1) := by decide +kernel
theorem dA_spotAhead_2 : decode prog_2_method_11_code 2 = .ok (.getfield 37, 3) := by decide +kernel
theorem dA_spotAhead_5 : decode prog_2_method_11_code 5 = .ok (.invokestatic 51, 3) := by decide +kernel
theorem dA_spotAhead_8 : decode prog_2_method_11_code 8 = .ok (.iconst 1, 1) := by decide +kernel
theorem dA_spotAhead_9 : decode prog_2_method_11_code 9 = .ok (.isub, 1) := by decide +kernel
theorem dA_spotAhead_10 : decode prog_2_method_11_code 10 = .ok (.istore_n 2, 1) := by decide +kernel
theorem dA_spotAhead_11 : decode prog_2_method_11_code 11 = .ok (.iload_n 2, 1) := by decide +kernel
theorem dA_spotAhead_12 : decode prog_2_method_11_code 12 = .ok (.ifCond .lt 32, 3) := by decide +kernel
theorem dA_spotAhead_15 : decode prog_2_method_11_code 15 = .ok (.aload_n 0, 1) := by decide +kernel
theorem dA_spotAhead_16 : decode prog_2_method_11_code 16 = .ok (.getfield 9, 3) := by decide +kernel
theorem dA_spotAhead_19 : decode prog_2_method_11_code 19 = .ok (.iload_n 2, 1) := by decide +kernel
theorem dA_spotAhead_20 : decode prog_2_method_11_code 20 = .ok (.iaload, 1) := by decide +kernel
theorem dA_spotAhead_21 : decode prog_2_method_11_code 21 = .ok (.ifCond .ne 17, 3) := by decide +kernel
theorem dA_spotAhead_24 : decode prog_2_method_11_code 24 = .ok (.aload_n 0, 1) := by decide +kernel
theorem dA_spotAhead_25 : decode prog_2_method_11_code 25 = .ok (.getfield 15, 3) := by decide +kernel
theorem dA_spotAhead_28 : decode prog_2_method_11_code 28 = .ok (.iload_n 2, 1) := by decide +kernel
theorem dA_spotAhead_29 : decode prog_2_method_11_code 29 = .ok (.iaload, 1) := by decide +kernel
theorem dA_spotAhead_30 : decode prog_2_method_11_code 30 = .ok (.aload_n 0, 1) := by decide +kernel
theorem dA_spotAhead_31 : decode prog_2_method_11_code 31 = .ok (.getfield 18, 3) := by decide +kernel
theorem dA_spotAhead_34 : decode prog_2_method_11_code 34 = .ok (.iload_n 2, 1) := by decide +kernel
theorem dA_spotAhead_35 : decode prog_2_method_11_code 35 = .ok (.iaload, 1) := by decide +kernel
theorem dA_spotAhead_36 : decode prog_2_method_11_code 36 = .ok (.iadd, 1) := by decide +kernel
theorem dA_spotAhead_37 : decode prog_2_method_11_code 37 = .ok (.ireturn, 1) := by decide +kernel
theorem dA_spotAhead_38 : decode prog_2_method_11_code 38 = .ok (.iinc 2 (-1), 3) := by decide +kernel
theorem dA_spotAhead_41 : decode prog_2_method_11_code 41 = .ok (.goto (-30), 3) := by decide +kernel
theorem dA_spotAhead_44 : decode prog_2_method_11_code 44 = .ok (.iconst 0, 1) := by decide +kernel
theorem dA_spotAhead_45 : decode prog_2_method_11_code 45 = .ok (.ireturn, 1) := by decide +kernel
theorem dA_laidByte_0 : decode prog_2_method_10_code 0 = .ok (.aload_n 0, 1) := by decide +kernel
theorem dA_laidByte_1 : decode prog_2_method_10_code 1 = .ok (.iload_n 1, 1) := by decide +kernel
theorem dA_laidByte_2 : decode prog_2_method_10_code 2 = .ok (.invokevirtual 43, 3) := by decide +kernel
theorem dA_laidByte_5 : decode prog_2_method_10_code 5 = .ok (.ifCond .eq 21, 3) := by decide +kernel
theorem dA_laidByte_8 : decode prog_2_method_10_code 8 = .ok (.aload_n 0, 1) := by decide +kernel
theorem dA_laidByte_9 : decode prog_2_method_10_code 9 = .ok (.getfield 29, 3) := by decide +kernel
theorem dA_laidByte_12 : decode prog_2_method_10_code 12 = .ok (.aload_n 0, 1) := by decide +kernel
theorem dA_laidByte_13 : decode prog_2_method_10_code 13 = .ok (.getfield 21, 3) := by decide +kernel
theorem dA_laidByte_16 : decode prog_2_method_10_code 16 = .ok (.iload_n 1, 1) := by decide +kernel
theorem dA_laidByte_17 : decode prog_2_method_10_code 17 = .ok (.iaload, 1) := by decide +kernel
theorem dA_laidByte_18 : decode prog_2_method_10_code 18 = .ok (.iload_n 2, 1) := by decide +kernel
theorem dA_laidByte_19 : decode prog_2_method_10_code 19 = .ok (.iadd, 1) := by decide +kernel
theorem dA_laidByte_20 : decode prog_2_method_10_code 20 = .ok (.invokevirtual 47, 3) := by decide +kernel
theorem dA_laidByte_23 : decode prog_2_method_10_code 23 = .ok (.goto 4, 3) := by decide +kernel
theorem dA_laidByte_26 : decode prog_2_method_10_code 26 = .ok (.iconst (-1), 1) := by decide +kernel
theorem dA_laidByte_27 : decode prog_2_method_10_code 27 = .ok (.ireturn, 1) := by decide +kernel
theorem dA_sum_0 : decode prog_2_method_4_code 0 = .ok (.aload_n 0, 1) := by decide +kernel
theorem dA_sum_1 : decode prog_2_method_4_code 1 = .ok (.getfield 33, 3) := by decide +kernel
theorem dA_sum_4 : decode prog_2_method_4_code 4 = .ok (.ireturn, 1) := by decide +kernel
theorem dR_isSame_0 : decode prog_4_method_13_code 0 = .ok (.aload_n 0, 1) := by decide +kernel
theorem dR_isSame_1 : decode prog_4_method_13_code 1 = .ok (.getfield 21, 3) := by decide +kernel
theorem dR_isSame_4 : decode prog_4_method_13_code 4 = .ok (.aload_n 1, 1) := by decide +kernel
theorem dR_isSame_5 : decode prog_4_method_13_code 5 = .ok (.getfield 21, 3) := by decide +kernel
theorem dR_isSame_8 : decode prog_4_method_13_code 8 = .ok (.if_icmp .ne 21, 3) := by decide +kernel
theorem dR_isSame_11 : decode prog_4_method_13_code 11 = .ok (.aload_n 0, 1) := by decide +kernel
theorem dR_isSame_12 : decode prog_4_method_13_code 12 = .ok (.iconst 0, 1) := by decide +kernel
theorem dR_isSame_13 : decode prog_4_method_13_code 13 = .ok (.aload_n 1, 1) := by decide +kernel
theorem dR_isSame_14 : decode prog_4_method_13_code 14 = .ok (.iconst 0, 1) := by decide +kernel
theorem dR_isSame_15 : decode prog_4_method_13_code 15 = .ok (.invokevirtual 37, 3) := by decide +kernel
theorem dR_isSame_18 : decode prog_4_method_13_code 18 = .ok (.aload_n 0, 1) := by decide +kernel
theorem dR_isSame_19 : decode prog_4_method_13_code 19 = .ok (.getfield 21, 3) := by decide +kernel
theorem dR_isSame_22 : decode prog_4_method_13_code 22 = .ok (.if_icmp .ne 7, 3) := by decide +kernel
theorem dR_isSame_25 : decode prog_4_method_13_code 25 = .ok (.iconst 1, 1) := by decide +kernel
theorem dR_isSame_26 : decode prog_4_method_13_code 26 = .ok (.goto 4, 3) := by decide +kernel
theorem dR_isSame_29 : decode prog_4_method_13_code 29 = .ok (.iconst 0, 1) := by decide +kernel
theorem dR_isSame_30 : decode prog_4_method_13_code 30 = .ok (.ireturn, 1) := by decide +kernel
theorem dR_set_0 : decode prog_4_method_6_code 0 = .ok (.aload_n 0, 1) := by decide +kernel
theorem dR_set_1 : decode prog_4_method_6_code 1 = .ok (.iload_n 1, 1) := by decide +kernel
theorem dR_set_2 : decode prog_4_method_6_code 2 = .ok (.invokevirtual 25, 3) := by decide +kernel
theorem dR_set_5 : decode prog_4_method_6_code 5 = .ok (.ifCond .eq 10, 3) := by decide +kernel
theorem dR_set_8 : decode prog_4_method_6_code 8 = .ok (.aload_n 0, 1) := by decide +kernel
theorem dR_set_9 : decode prog_4_method_6_code 9 = .ok (.getfield 15, 3) := by decide +kernel
theorem dR_set_12 : decode prog_4_method_6_code 12 = .ok (.iload_n 1, 1) := by decide +kernel
theorem dR_set_13 : decode prog_4_method_6_code 13 = .ok (.iload_n 2, 1) := by decide +kernel
theorem dR_set_14 : decode prog_4_method_6_code 14 = .ok (.iastore, 1) := by decide +kernel
theorem dR_set_15 : decode prog_4_method_6_code 15 = .ok (.return_, 1) := by decide +kernel
theorem dI_compare_0 : decode prog_8_method_40_code 0 = .ok (.iload_n 0, 1) := by decide +kernel
theorem dI_compare_1 : decode prog_8_method_40_code 1 = .ok (.iload_n 1, 1) := by decide +kernel
theorem dI_compare_2 : decode prog_8_method_40_code 2 = .ok (.if_icmp .ge 7, 3) := by decide +kernel
theorem dI_compare_5 : decode prog_8_method_40_code 5 = .ok (.iconst (-1), 1) := by decide +kernel
theorem dI_compare_6 : decode prog_8_method_40_code 6 = .ok (.goto 13, 3) := by decide +kernel
theorem dI_compare_9 : decode prog_8_method_40_code 9 = .ok (.iload_n 0, 1) := by decide +kernel
theorem dI_compare_10 : decode prog_8_method_40_code 10 = .ok (.iload_n 1, 1) := by decide +kernel
theorem dI_compare_11 : decode prog_8_method_40_code 11 = .ok (.if_icmp .ne 7, 3) := by decide +kernel
theorem dI_compare_14 : decode prog_8_method_40_code 14 = .ok (.iconst 0, 1) := by decide +kernel
theorem dI_compare_15 : decode prog_8_method_40_code 15 = .ok (.goto 4, 3) := by decide +kernel
theorem dI_compare_18 : decode prog_8_method_40_code 18 = .ok (.iconst 1, 1) := by decide +kernel
theorem dI_compare_19 : decode prog_8_method_40_code 19 = .ok (.ireturn, 1) := by decide +kernel
theorem dN_get_0 : decode prog_3_method_6_code 0 = .ok (.iload_n 1, 1) := by decide +kernel
theorem dN_get_1 : decode prog_3_method_6_code 1 = .ok (.tableswitch 60 0 4 #[35, 40, 45, 50, 55], 35) := by decide +kernel
theorem dN_get_36 : decode prog_3_method_6_code 36 = .ok (.aload_n 0, 1) := by decide +kernel
theorem dN_get_37 : decode prog_3_method_6_code 37 = .ok (.getfield 18, 3) := by decide +kernel
theorem dN_get_40 : decode prog_3_method_6_code 40 = .ok (.ireturn, 1) := by decide +kernel
theorem dN_get_41 : decode prog_3_method_6_code 41 = .ok (.aload_n 0, 1) := by decide +kernel
theorem dN_get_42 : decode prog_3_method_6_code 42 = .ok (.getfield 22, 3) := by decide +kernel
theorem dN_get_45 : decode prog_3_method_6_code 45 = .ok (.ireturn, 1) := by decide +kernel
theorem dN_get_46 : decode prog_3_method_6_code 46 = .ok (.aload_n 0, 1) := by decide +kernel
theorem dN_get_47 : decode prog_3_method_6_code 47 = .ok (.getfield 25, 3) := by decide +kernel
theorem dN_get_50 : decode prog_3_method_6_code 50 = .ok (.ireturn, 1) := by decide +kernel
theorem dN_get_51 : decode prog_3_method_6_code 51 = .ok (.aload_n 0, 1) := by decide +kernel
theorem dN_get_52 : decode prog_3_method_6_code 52 = .ok (.getfield 28, 3) := by decide +kernel
theorem dN_get_55 : decode prog_3_method_6_code 55 = .ok (.ireturn, 1) := by decide +kernel
theorem dN_get_56 : decode prog_3_method_6_code 56 = .ok (.aload_n 0, 1) := by decide +kernel
theorem dN_get_57 : decode prog_3_method_6_code 57 = .ok (.getfield 31, 3) := by decide +kernel
theorem dN_get_60 : decode prog_3_method_6_code 60 = .ok (.ireturn, 1) := by decide +kernel
theorem dN_get_61 : decode prog_3_method_6_code 61 = .ok (.bipush (-2), 2) := by decide +kernel
theorem dN_get_63 : decode prog_3_method_6_code 63 = .ok (.ireturn, 1) := by decide +kernel
